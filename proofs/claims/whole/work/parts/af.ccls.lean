/-! ===== the class reads: CLAUSES (segments printed by wip/whole, contracts own work) ===== -/
/-- a CLAUSE's row opened -/
def OPN (x : Nat) (t : Int) (σ σ1 : zI) : Prop := (∀ c, c ≠ x → c ≠ x + 1 → c ≠ x + 2 → σ1 c = σ c) ∧ σ1 (x + 1) = u1 (σ (x + 1)) 2 (σ (x + 1) 2 + 1) ∧ (∀ k, k < 8 * σ (x + 1) 2 ∨ 8 * σ (x + 1) 2 + 8 ≤ k → σ1 (x + 2) k = σ (x + 2) k) ∧ σ1 (x + 2) (8 * σ (x + 1) 2) = t ∧ σ1 x = u1 (σ x) 3 (zor (σ x 3) (zshl 1 t))
-- method 82: MillTown$Text.open(I)I
theorem c_82_0 : pg_cd 82 0 = (5, 1, 0, 0, 0) := by decide +kernel
theorem c_82_1 : pg_cd 82 1 = (45, 7, 14, 0, 0) := by decide +kernel
theorem c_82_4 : pg_cd 82 4 = (80, 54, 34, 0, 0) := by decide +kernel
theorem c_82_7 : pg_cd 82 7 = (6, 1, 0, 2, 0) := by decide +kernel
theorem c_82_8 : pg_cd 82 8 = (5, 1, 0, 0, 0) := by decide +kernel
theorem c_82_9 : pg_cd 82 9 = (45, 7, 14, 0, 0) := by decide +kernel
theorem c_82_12 : pg_cd 82 12 = (3, 1, 0, 2, 0) := by decide +kernel
theorem c_82_13 : pg_cd 82 13 = (1, 1, 0, 0, 0) := by decide +kernel
theorem c_82_14 : pg_cd 82 14 = (3, 1, 0, 1, 0) := by decide +kernel
theorem c_82_15 : pg_cd 82 15 = (80, 56, 38, 0, 0) := by decide +kernel
theorem c_82_18 : pg_cd 82 18 = (5, 1, 0, 0, 0) := by decide +kernel
theorem c_82_19 : pg_cd 82 19 = (33, 1, 0, 0, 0) := by decide +kernel
theorem c_82_20 : pg_cd 82 20 = (43, 7, 31, 3, 0) := by decide +kernel
theorem c_82_23 : pg_cd 82 23 = (1, 1, 0, 0, 1) := by decide +kernel
theorem c_82_24 : pg_cd 82 24 = (3, 1, 0, 1, 0) := by decide +kernel
theorem c_82_25 : pg_cd 82 25 = (18, 1, 0, 0, 0) := by decide +kernel
theorem c_82_26 : pg_cd 82 26 = (14, 1, 0, 0, 0) := by decide +kernel
theorem c_82_27 : pg_cd 82 27 = (46, 7, 31, 3, 0) := by decide +kernel
theorem c_82_30 : pg_cd 82 30 = (3, 1, 0, 2, 0) := by decide +kernel
theorem c_82_31 : pg_cd 82 31 = (90, 0, 0, 0, 0) := by decide +kernel
theorem mi_82 : pg_mc 82 = 7 ∧ pg_na 82 = 1 ∧ pg_mx 82 = 3 := by decide +kernel
set_option maxRecDepth 20000 in
theorem u_82_0 {d : Nat} {S : zS} {σ τ : zI} {Q : zQ} {x0 : Nat} {x1 : Int} (hx0 : oT S x0) (t : (oW S σ (x0 + 1) 8 192) ∧ if σ (x0 + 1) 2 < 24 then ((oW S (uc (uc σ (x0 + 2) (fl_ (σ (x0 + 2)) ((σ (x0 + 1) 2) * 8) ((σ (x0 + 1) 2) * 8 + 8) 0)) (x0 + 1) (u1 (σ (x0 + 1)) 2 ((σ (x0 + 1) 2) + 1))) (x0 + 1) 8 192) ∧ (0 ≤ σ (x0 + 1) 2 ∧ σ (x0 + 1) 2 < (u1 (σ (x0 + 1)) 2 ((σ (x0 + 1) 2) + 1) 2)) ∧ ∃ w6 : Int, wI w6 = wI x1 ∧ rg w6 ∧ Q (some (.int (wI (σ (x0 + 1) 2)))) S (uc (uc (uc σ (x0 + 2) (u1 (fl_ (σ (x0 + 2)) ((σ (x0 + 1) 2) * 8) ((σ (x0 + 1) 2) * 8 + 8) 0) ((σ (x0 + 1) 2) * 8 + 0) w6)) (x0 + 1) (u1 (σ (x0 + 1)) 2 ((σ (x0 + 1) 2) + 1))) x0 (u1 (σ x0) 3 (zor (σ x0 3) (zshl 1 x1)))) τ) else (Q (some (.int (wI (-1)))) S (uc σ x0 (u1 (σ x0) 3 (zor (σ x0 3) (zshl 1 x1)))) τ)) : wi (d + 3) 82 0 [.ref x0, .int (wI x1), .retAddr 0] [] S σ τ Q := by
  obtain ⟨o1, t⟩ := t
  refine i5 c_82_0 rfl (i45 c_82_1 (fun _ => oT_0 hx0) (fun _ => oT_r0 hx0) (wi_ok (fun K2 => ?_)))
  by_cases ha3 : σ (x0 + 1) 2 < 24
  · have t := iT t ha3
    refine i80 (As := []) (rest := []) c_82_4 mi_54 rfl rfl (Nat.le_of_ble_eq_true rfl) (Nat.le_of_ble_eq_true rfl) (fun _ => oT_1 hx0) (q_add (fun _ => o1) (by have q : σ (x0 + 1) 2 = σ (x0 + 1) 2 := rfl; rw [q]; omega) ?_)
    show wi (d + 3) 82 7 [.ref x0, .int (wI x1), .retAddr 0] [.int (wI (σ (x0 + 1) 2))] S (uc (uc σ (x0 + 2) (fl_ (σ (x0 + 2)) ((σ (x0 + 1) 2) * 8) ((σ (x0 + 1) 2) * 8 + 8) 0)) (x0 + 1) (u1 (σ (x0 + 1)) 2 (σ (x0 + 1) 2 + 1))) τ Q
    obtain ⟨o4, t⟩ := t
    obtain ⟨b5, t⟩ := t
    obtain ⟨w6, e7, r8, t⟩ := t
    refine i6 (L' := [.ref x0, .int (wI x1), .int (wI (σ (x0 + 1) 2))]) c_82_7 rfl (i5 c_82_8 rfl (i45 c_82_9 (fun _ => oT_0 hx0) (fun _ => oT_r0 hx0) (i3 c_82_12 rfl (i1 c_82_13 (i3 c_82_14 rfl ?_)))))
    refine i80 (As := [.int (wI (σ (x0 + 1) 2)), .int (wI 0), .int (wI x1)]) (rest := []) c_82_15 mi_56 rfl rfl (Nat.le_of_ble_eq_true rfl) (Nat.le_of_ble_eq_true rfl) (fun _ => oT_1 hx0) (q_put (v2 := w6) (fun _ => o4) (rge_ K2 rfl) (show 0 ≤ σ (x0 + 1) 2 ∧ σ (x0 + 1) 2 < (uc (uc σ (x0 + 2) (fl_ (σ (x0 + 2)) ((σ (x0 + 1) 2) * 8) ((σ (x0 + 1) 2) * 8 + 8) 0)) (x0 + 1) (u1 (σ (x0 + 1)) 2 ((σ (x0 + 1) 2) + 1))) (x0 + 1) 2 by rw [(congrFun (uc_s _ _ _) _)]; exact b5) (by decide) e7 r8 ?_)
    show wi (d + 3) 82 18 [.ref x0, .int (wI x1), .int (wI (σ (x0 + 1) 2))] [] S (uc (uc (uc σ (x0 + 2) (fl_ (σ (x0 + 2)) ((σ (x0 + 1) 2) * 8) ((σ (x0 + 1) 2) * 8 + 8) 0)) (x0 + 1) (u1 (σ (x0 + 1)) 2 ((σ (x0 + 1) 2) + 1))) (x0 + 2) (u1 ((uc (uc σ (x0 + 2) (fl_ (σ (x0 + 2)) ((σ (x0 + 1) 2) * 8) ((σ (x0 + 1) 2) * 8 + 8) 0)) (x0 + 1) (u1 (σ (x0 + 1)) 2 ((σ (x0 + 1) 2) + 1))) (x0 + 2)) ((σ (x0 + 1) 2) * 8 + 0) w6)) τ Q
    refine wi_s (σ1 := uc (uc σ (x0 + 2) (u1 (fl_ (σ (x0 + 2)) ((σ (x0 + 1) 2) * 8) ((σ (x0 + 1) 2) * 8 + 8) 0) ((σ (x0 + 1) 2) * 8 + 0) w6)) (x0 + 1) (u1 (σ (x0 + 1)) 2 ((σ (x0 + 1) 2) + 1))) (wr_ (uc_ns (uc_s _ _ _) (by have := oT_b hx0; have := oT_b hx0; omega)) (uc_cm (uc_uc _ _ _ _) (by have := oT_b hx0; have := oT_b hx0; omega))) (i5 c_82_18 rfl (i33a c_82_19 (wi_ok (fun K9 => ?_))))
    refine i43 (v := σ x0 3) c_82_20 (fun _ => oT_0 hx0) (congrFun (uc_ns (uc_ns rfl (by have := oT_b hx0; have := oT_b hx0; omega)) (by have := oT_b hx0; have := oT_b hx0; omega)) _) (i1 c_82_23 (i3 c_82_24 rfl (i18 c_82_25 (i14 c_82_26 (i46 (σ1 := uc (uc (uc σ (x0 + 2) (u1 (fl_ (σ (x0 + 2)) ((σ (x0 + 1) 2) * 8) ((σ (x0 + 1) 2) * 8 + 8) 0) ((σ (x0 + 1) 2) * 8 + 0) w6)) (x0 + 1) (u1 (σ (x0 + 1)) 2 ((σ (x0 + 1) 2) + 1))) x0 (u1 (σ x0) 3 (zor (σ x0 3) (zshl 1 x1)))) c_82_27 (fun _ => oT_0 hx0) (isR_b (by have := oT_b hx0; omega)) rfl (rg_toInt _) (wr_ (uc_ns (uc_ns rfl (by have := oT_b hx0; have := oT_b hx0; omega)) (by have := oT_b hx0; have := oT_b hx0; omega)) rfl) (i3 c_82_30 rfl ?_))))))
    exact i90 c_82_31 t
  · have t := iF t ha3
    refine i80 (As := []) (rest := []) c_82_4 mi_54 rfl rfl (Nat.le_of_ble_eq_true rfl) (Nat.le_of_ble_eq_true rfl) (fun _ => oT_1 hx0) (q_addN (fun _ => o1) (by have q : σ (x0 + 1) 2 = σ (x0 + 1) 2 := rfl; rw [q]; omega) ?_)
    show wi (d + 3) 82 7 [.ref x0, .int (wI x1), .retAddr 0] [.int (wI (-1))] S σ τ Q
    refine i6 (L' := [.ref x0, .int (wI x1), .int (wI (-1))]) c_82_7 rfl (i5 c_82_8 rfl (i45 c_82_9 (fun _ => oT_0 hx0) (fun _ => oT_r0 hx0) (i3 c_82_12 rfl (i1 c_82_13 (i3 c_82_14 rfl ?_)))))
    refine i80 (As := [.int (wI (-1)), .int (wI 0), .int (wI x1)]) (rest := []) c_82_15 mi_56 rfl rfl (Nat.le_of_ble_eq_true rfl) (Nat.le_of_ble_eq_true rfl) (fun _ => oT_1 hx0) (q_putN (fun _ => o1) (by decide) (by omega) ?_)
    show wi (d + 3) 82 18 [.ref x0, .int (wI x1), .int (wI (-1))] [] S σ τ Q
    refine i5 c_82_18 rfl (i33a c_82_19 (i43 (v := σ x0 3) c_82_20 (fun _ => oT_0 hx0) rfl (i1 c_82_23 (i3 c_82_24 rfl (i18 c_82_25 (i14 c_82_26 (i46 (σ1 := uc σ x0 (u1 (σ x0) 3 (zor (σ x0 3) (zshl 1 x1)))) c_82_27 (fun _ => oT_0 hx0) (isR_b (by have := oT_b hx0; omega)) rfl (rg_toInt _) (wr_ rfl rfl) (i3 c_82_30 rfl ?_))))))))
    exact i90 c_82_31 t
theorem q_82 {d : Nat} {S : zS} {σ τ : zI} {Q : zQ} {x : Nat} {tt : Int} (hx : oT S x) (p0 : oW S σ (x + 1) 8 192) (p1 : 0 ≤ σ (x + 1) 2 ∧ σ (x + 1) 2 < 24) (p2 : 3 ≤ tt ∧ tt ≤ 9) (t : ∀ (σ1 : zI), OPN x tt σ σ1 → Q (some (.int (wI (σ (x + 1) 2)))) S σ1 τ) : wc (d + 3) 82 [.ref x, .int (wI tt)] S σ τ Q := by
  have xb := oT_b hx
  refine wc_of mi_82 rfl (u_82_0 hx ⟨p0, ifI (fun _ => ⟨?_, ⟨by omega, by rw [u1_s]; omega⟩, tt, rfl, by omega, ?_⟩) (fun z => by omega)⟩)
  · obtain ⟨w1, w2, w3, w4, w5, w6, w7, w8, w9, w10, w11⟩ := p0
    refine ⟨w1, w2, w3, ?_, w5, ?_, ?_, w8, w9, w10, w11⟩
    · rw [uc_s, u1_n (by omega)]; exact w4
    · rw [uc_s, u1_s]; omega
    · rw [uc_s, u1_s]; omega
  · refine t _ ⟨fun c h1 h2 h3 => ?_, ?_, fun k hk => ?_, ?_, ?_⟩
    · rw [uc_n h1, uc_n h2, uc_n h3]
    · rw [uc_n (by omega), uc_s]
    · rw [uc_n (by omega), uc_n (by omega), uc_s, u1_n (by omega), fl_out (by omega)]
    · rw [uc_n (by omega), uc_n (by omega), uc_s, show 8 * σ (x + 1) 2 = σ (x + 1) 2 * 8 + 0 by omega, u1_s]
    · rw [uc_s]
section CLA
variable {T : Int → Int} {n : Int}
/-- what is left of a CLAUSE comes to the same -/
def SM (R X : RW) : Prop := R.1 = X.1 ∧ R.2.1 = X.2.1
theorem SM_t {R X Y : RW} (h : SM R X) (g : SM X Y) : SM R Y := ⟨h.1.trans g.1, h.2.trans g.2⟩
theorem SM_1 {A : RW} {f : Int → RW} (e : A.1 ≠ 0) : SM (bnd A f) A := by rw [bnd_1 e]; exact ⟨rfl, rfl⟩
theorem SM_2 {A : RW} {f : Int → RW} (e : A.1 = 0) : SM (bnd A f) (f A.2.1) := by
  by_cases c : (f A.2.1).1 = 0
  · rw [bnd_4 e rfl c]; exact ⟨c.symm, rfl⟩
  · rw [bnd_3 e rfl c]; exact ⟨rfl, rfl⟩
theorem SM_as {A : RW} {f g : Int → RW} : SM (bnd (bnd A f) g) (bnd A fun s => bnd (f s) g) := by
  by_cases e : A.1 = 0
  · refine SM_t ?_ (show SM (bnd (f A.2.1) g) (bnd A fun s => bnd (f s) g) from ?_)
    · have h := SM_2 (f := f) e
      by_cases c : (f A.2.1).1 = 0
      · have h2 := SM_2 (A := bnd A f) (f := g) (h.1.trans c)
        have h3 := SM_2 (A := f A.2.1) (f := g) c
        rw [h.2] at h2
        exact ⟨h2.1.trans h3.1.symm, h2.2.trans h3.2.symm⟩
      · have h2 := SM_1 (A := bnd A f) (f := g) (by rw [h.1]; exact c)
        have h3 := SM_1 (A := f A.2.1) (f := g) c
        exact ⟨(h2.1.trans h.1).trans h3.1.symm, (h2.2.trans h.2).trans h3.2.symm⟩
    · have h := SM_2 (f := fun s => bnd (f s) g) e
      exact ⟨h.1.symm, h.2.symm⟩
  · have h := SM_1 (f := f) e
    have h2 := SM_1 (A := bnd A f) (f := g) (by rw [h.1]; exact e)
    have h3 := SM_1 (f := fun s => bnd (f s) g) e
    exact ⟨(h2.1.trans h.1).trans h3.1.symm, (h2.2.trans h.2).trans h3.2.symm⟩
theorem bnd_v {A : RW} {f : Int → RW} {s1 s2 : Int} {L1 L2 W1 W2 : List (Int × Int)} (h : A = (0, s1, L1, W1)) (g : f s1 = (0, s2, L2, W2)) : bnd A f = (0, s2, L1 ++ L2, W1 ++ W2) := by
  subst h
  rw [bnd_4 rfl g rfl]
/-- where the class stands: on the way, or behind the fault that it comes to -/
def GSt (T : Int → Int) (n s : Int) (σ : zI) (R X : RW) (F : Prop) : Prop := (CR T n s σ ∧ SM R X ∧ F) ∨ (R.1 ≠ 0 ∧ CD R.1 R.2.1 σ)
section GS
variable {s : Int} {σ σ1 : zI} {R X Y : RW} {F G : Prop}
theorem GS_c (h : GSt T n s σ R X F) : CR T n s σ ∨ CFS σ := by
  rcases h with h | h
  · exact Or.inl h.1
  · exact Or.inr (CD_F h.2 h.1)
theorem GS_m (h : GSt T n s σ R X F) (g : F → SM X Y) : GSt T n s σ R Y F := by
  rcases h with ⟨h1, h2, h3⟩ | h
  · exact Or.inl ⟨h1, SM_t h2 (g h3), h3⟩
  · exact Or.inr h
theorem GS_f (h : GSt T n s σ R X F) (g : F → G) : GSt T n s σ R X G := by
  rcases h with ⟨h1, h2, h3⟩ | h
  · exact Or.inl ⟨h1, h2, g h3⟩
  · exact Or.inr h
theorem CR_f (h : CR T n s σ) (e : ∀ c, 63 ≤ c → c ≤ 66 → σ1 c = σ c) : CR T n s σ1 := by
  obtain ⟨cnt, i, ct, hi, hs, h3, h4, h5⟩ := h
  have e63 := e 63 (by omega) (by omega)
  exact ⟨cnt, i, CT_f ct (e 64 (by omega) (by omega)) (e 65 (by omega) (by omega)) (e 66 (by omega) (by omega)), hi, hs, by rw [e63]; exact h3, by rw [e63]; exact h4, by rw [e63]; exact h5⟩
theorem GS_u (h : GSt T n s σ R X F) (e : ∀ c, 63 ≤ c → c ≤ 66 → σ1 c = σ c) : GSt T n s σ1 R X F := by
  rcases h with ⟨h1, h2⟩ | ⟨h1, h2⟩
  · exact Or.inl ⟨CR_f h1 e, h2⟩
  · exact Or.inr ⟨h1, CD_e h2 (e 63 (by omega) (by omega))⟩
theorem numO_j (lo hi j j' s : Int) : (numO T n lo hi j s).1 = (numO T n lo hi j' s).1 ∧ (numO T n lo hi j s).2.1 = (numO T n lo hi j' s).2.1 := by
  unfold numO
  by_cases c : tk T n s = 2
  · rw [if_pos c, if_pos c]
    by_cases c2 : lo ≤ nm T n s ∧ nm T n s ≤ hi
    · rw [if_pos c2, if_pos c2]; exact ⟨rfl, rfl⟩
    · rw [if_neg c2, if_neg c2]; exact ⟨rfl, rfl⟩
  · rw [if_neg c, if_neg c]; exact ⟨rfl, rfl⟩
theorem GS_num {lo hi j v : Int} {f : Int → RW} (h : GSt T n s σ R (bnd (numO T n lo hi j s) f) F) (fs : CFS σ → σ1 = σ) (p : CR T n s σ → ((numO T n lo hi 0 s).1 = 0 → CR T n (nx T n s) σ1 ∧ v = nm T n s) ∧ ((numO T n lo hi 0 s).1 ≠ 0 → CD (numO T n lo hi 0 s).1 (numO T n lo hi 0 s).2.1 σ1)) : GSt T n (nx T n s) σ1 R (f (nx T n s)) (F ∧ v = nm T n s ∧ tk T n s = 2 ∧ lo ≤ nm T n s ∧ nm T n s ≤ hi) := by
  rcases h with ⟨h1, h2, h3⟩ | ⟨h1, h2⟩
  · have p := p h1
    have jj := numO_j (T := T) (n := n) lo hi j 0 s
    by_cases e : (numO T n lo hi j s).1 = 0
    · have q := p.1 (jj.1.symm.trans e)
      have nu := numO_0 e
      refine Or.inl ⟨q.1, ?_, h3, q.2, nu.2⟩
      have sm := SM_2 (f := f) e
      rw [nu.1] at sm h2
      exact SM_t h2 sm
    · have q := p.2 (fun z => e (jj.1.trans z))
      have sm := SM_t h2 (SM_1 (f := f) e)
      have r1 : R.1 = (numO T n lo hi 0 s).1 := sm.1.trans jj.1
      have r2 : R.2.1 = (numO T n lo hi 0 s).2.1 := sm.2.trans jj.2
      exact Or.inr ⟨by rw [sm.1]; exact e, by rw [r1, r2]; exact q⟩
  · exact Or.inr ⟨h1, by rw [fs (CD_F h2 h1)]; exact h2⟩
theorem GS_exp {t : Int} {f : Int → RW} (h : GSt T n s σ R (bnd (nedO T n t s) f) F) (xp : XP T n s t σ σ1) : GSt T n (nx T n s) σ1 R (f (nx T n s)) (F ∧ tk T n s = t) := by
  rcases h with ⟨h1, h2, h3⟩ | ⟨h1, h2⟩
  · by_cases c : tk T n s = t
    · have e : nedO T n t s = (0, nx T n s, [], []) := if_pos c
      rw [e] at h2
      exact Or.inl ⟨(xp.2.2 h1).1 c, SM_t h2 (SM_2 rfl), h3, c⟩
    · have e : nedO T n t s = (1, s, [], []) := if_neg c
      rw [e] at h2
      have sm := SM_t h2 (SM_1 (f := f) (A := (1, s, [], [])) (show (1 : Int) ≠ 0 by decide))
      have r1 : R.1 = 1 := sm.1
      have r2 : R.2.1 = s := sm.2
      exact Or.inr ⟨by rw [r1]; decide, by rw [r1, r2]; exact (xp.2.2 h1).2 c⟩
  · exact Or.inr ⟨h1, by rw [xp.2.1 (CD_F h2 h1)]; exact h2⟩
theorem GS_end {t : Int} (h : GSt T n s σ R (nedO T n t s) F) (xp : XP T n s t σ σ1) : (R.1 = 0 → CR T n R.2.1 σ1 ∧ F ∧ tk T n s = t ∧ R.2.1 = nx T n s) ∧ (R.1 ≠ 0 → CD R.1 R.2.1 σ1) := by
  rcases h with ⟨h1, h2, h3⟩ | ⟨h1, h2⟩
  · by_cases c : tk T n s = t
    · have e : nedO T n t s = (0, nx T n s, [], []) := if_pos c
      rw [e] at h2
      have r1 : R.1 = 0 := h2.1
      have r2 : R.2.1 = nx T n s := h2.2
      exact ⟨fun _ => ⟨by rw [r2]; exact (xp.2.2 h1).1 c, h3, c, r2⟩, fun z => absurd r1 z⟩
    · have e : nedO T n t s = (1, s, [], []) := if_neg c
      rw [e] at h2
      have r1 : R.1 = 1 := h2.1
      have r2 : R.2.1 = s := h2.2
      exact ⟨fun z => by rw [r1] at z; exact absurd z (by decide), fun _ => by rw [r1, r2]; exact (xp.2.2 h1).2 c⟩
  · exact ⟨fun z => absurd z h1, fun _ => by rw [xp.2.1 (CD_F h2 h1)]; exact h2⟩
theorem GS_sum {x : Nat} {q c : Int} {f : Int → RW} (h : GSt T n s σ R (bnd (smO T n q c s) f) F) (fs : CFS σ → σ1 = σ) (co : CR T n s σ → CO x T n (sumO T n (oneK T n 8) s) σ σ1) : GSt T n (sumO T n (oneK T n 8) s).2.1 σ1 R (f (sumO T n (oneK T n 8) s).2.1) (F ∧ (sumO T n (oneK T n 8) s).1 = 0 ∧ CW x σ σ1 (sumO T n (oneK T n 8) s).2.2) := by
  rcases h with ⟨h1, h2, h3⟩ | ⟨h1, h2⟩
  · have co := co h1
    by_cases e : (sumO T n (oneK T n 8) s).1 = 0
    · have qq := co.2.1 e
      refine Or.inl ⟨qq.1, ?_, h3, e, qq.2⟩
      have ev : smO T n q c s = (0, (sumO T n (oneK T n 8) s).2.1, (sumO T n (oneK T n 8) s).2.2, [(q + 6, c), (q + 7, c + (sumO T n (oneK T n 8) s).2.2.length)]) := if_neg (fun z => z e)
      rw [ev] at h2
      exact SM_t h2 (SM_2 rfl)
    · have ev : smO T n q c s = ((sumO T n (oneK T n 8) s).1, (sumO T n (oneK T n 8) s).2.1, [], []) := if_pos e
      rw [ev] at h2
      have sm := SM_t h2 (SM_1 (f := f) (A := ((sumO T n (oneK T n 8) s).1, (sumO T n (oneK T n 8) s).2.1, [], [])) e)
      have r1 : R.1 = (sumO T n (oneK T n 8) s).1 := sm.1
      have r2 : R.2.1 = (sumO T n (oneK T n 8) s).2.1 := sm.2
      exact Or.inr ⟨by rw [r1]; exact e, by rw [r1, r2]; exact co.2.2 e⟩
  · exact Or.inr ⟨h1, by rw [fs (CD_F h2 h1)]; exact h2⟩
theorem GS_eit {x : Nat} {q c : Int} {f : Int → RW} (h : GSt T n s σ R (bnd (eitW T n q c s) f) F) (cr : CR T n s σ) (co : CO x T n (eitO T n 301 s [] 0 0) σ σ1) : GSt T n (eitO T n 301 s [] 0 0).2.1 σ1 R (f (eitO T n 301 s [] 0 0).2.1) (F ∧ (eitO T n 301 s [] 0 0).1 = 0 ∧ CW x σ σ1 (eitO T n 301 s [] 0 0).2.2) := by
  rcases h with ⟨h1, h2, h3⟩ | ⟨h1, h2⟩
  · by_cases e : (eitO T n 301 s [] 0 0).1 = 0
    · have qq := co.2.1 e
      refine Or.inl ⟨qq.1, ?_, h3, e, qq.2⟩
      have ev : eitW T n q c s = (0, (eitO T n 301 s [] 0 0).2.1, (eitO T n 301 s [] 0 0).2.2, [(q + 4, c), (q + 5, c + (eitO T n 301 s [] 0 0).2.2.length)]) := if_neg (fun z => z e)
      rw [ev] at h2
      exact SM_t h2 (SM_2 rfl)
    · have ev : eitW T n q c s = ((eitO T n 301 s [] 0 0).1, (eitO T n 301 s [] 0 0).2.1, [], []) := if_pos e
      rw [ev] at h2
      have sm := SM_t h2 (SM_1 (f := f) (A := ((eitO T n 301 s [] 0 0).1, (eitO T n 301 s [] 0 0).2.1, [], [])) e)
      have r1 : R.1 = (eitO T n 301 s [] 0 0).1 := sm.1
      have r2 : R.2.1 = (eitO T n 301 s [] 0 0).2.1 := sm.2
      exact Or.inr ⟨by rw [r1]; exact e, by rw [r1, r2]; exact co.2.2 e⟩
  · exact absurd cr (cr_no (CD_F h2 h1))
end GS
-- what a CLAUSE comes to, by the signs
section EV
variable {m q c s : Int}
theorem sm_v {s : Int} (e : (sumO T n (oneK T n 8) s).1 = 0) : smO T n q c s = (0, (sumO T n (oneK T n 8) s).2.1, (sumO T n (oneK T n 8) s).2.2, [(q + 6, c), (q + 7, c + (sumO T n (oneK T n 8) s).2.2.length)]) := if_neg (fun z => z e)
theorem ei_v {s : Int} (e : (eitO T n 301 s [] 0 0).1 = 0) : eitW T n q c s = (0, (eitO T n 301 s [] 0 0).2.1, (eitO T n 301 s [] 0 0).2.2, [(q + 4, c), (q + 5, c + (eitO T n 301 s [] 0 0).2.2.length)]) := if_neg (fun z => z e)
theorem nu_v {lo hi j s : Int} (e : tk T n s = 2) (h : lo ≤ nm T n s ∧ nm T n s ≤ hi) : numO T n lo hi j s = (0, nx T n s, [], [(j, nm T n s)]) := by unfold numO; rw [if_pos e, if_pos h]
theorem ne_v {t s : Int} (e : tk T n s = t) : nedO T n t s = (0, nx T n s, [], []) := if_pos e
theorem cl_v (hm : m ≠ 24) (ht : srtO (tk T n s) ≠ 0) {e : Int} {L W : List (Int × Int)} (hb : bodyO T n q c (tk T n s) (nx T n s) = (0, e, L, W)) (he : tk T n e = 36) : clsO T n m q c s = (0, nx T n e, L, (q, srtO (tk T n s)) :: W) := by
  unfold clsO
  rw [if_neg ht, if_neg hm]
  refine (bnd_v rfl (bnd_v hb (ne_v he))).trans ?_
  rw [List.nil_append, List.append_nil, List.append_nil]
  rfl
theorem bo_3 {s : Int} : bodyO T n q c 3 s = smO T n q c s := if_pos rfl
theorem bo_4 {s : Int} : bodyO T n q c 4 s = bnd (numO T n 0 29 (q + 1) s) (addO T n q c 2) := by unfold bodyO; rw [if_neg (by decide), if_pos rfl]
theorem bo_5 {s : Int} : bodyO T n q c 5 s = bnd (eitW T n q c s) (addO T n q (c + (eitO T n 301 s [] 0 0).2.2.length) 4) := by unfold bodyO; rw [if_neg (by decide), if_neg (by decide), if_pos rfl]
theorem bo_6 {s : Int} : bodyO T n q c 6 s = numO T n 0 9999 (q + 1) s := by unfold bodyO; rw [if_neg (by decide), if_neg (by decide), if_neg (by decide), if_pos rfl]
theorem bo_7 {s : Int} : bodyO T n q c 7 s = ageO T n q s := by unfold bodyO; rw [if_neg (by decide), if_neg (by decide), if_neg (by decide), if_neg (by decide), if_pos rfl]
theorem bo_8 {t s : Int} (h : t = 8 ∨ t = 9) : bodyO T n q c t s = numO T n 0 20 (q + 1) s := by unfold bodyO; rw [if_neg (by omega), if_neg (by omega), if_neg (by omega), if_neg (by omega), if_neg (by omega)]
theorem ad_v {v s : Int} (h : tk T n s = 10 ∨ tk T n s = 11) (e : (sumO T n (oneK T n 8) (nx T n s)).1 = 0) : addO T n q c v s = (0, (sumO T n (oneK T n 8) (nx T n s)).2.1, (sumO T n (oneK T n 8) (nx T n s)).2.2, (if tk T n s = 11 then [(q, v + 1)] else []) ++ [(q + 6, c), (q + 7, c + (sumO T n (oneK T n 8) (nx T n s)).2.2.length)]) := by
  unfold addO
  rcases h with h | h
  · rw [if_pos h, if_neg (by omega)]
    refine (bnd_v rfl (sm_v e)).trans ?_
    rw [List.nil_append, List.nil_append]
  · rw [if_neg (by omega), if_pos h, if_pos h]
    refine (bnd_v rfl (sm_v e)).trans ?_
    rw [List.nil_append]
theorem ag_v {s : Int} (h1 : tk T n s = 2 ∧ 0 ≤ nm T n s ∧ nm T n s ≤ 99) (h2 : tk T n (nx T n s) = 12) (h3 : tk T n (nx T n (nx T n s)) = 2 ∧ nm T n s ≤ nm T n (nx T n (nx T n s)) ∧ nm T n (nx T n (nx T n s)) ≤ 99) (h4 : tk T n (nx T n (nx T n (nx T n s))) = 13) (h5 : tk T n (nx T n (nx T n (nx T n (nx T n s)))) = 2 ∧ 0 ≤ nm T n (nx T n (nx T n (nx T n (nx T n s)))) ∧ nm T n (nx T n (nx T n (nx T n (nx T n s)))) ≤ 80) : ageO T n q s = (0, nx T n (nx T n (nx T n (nx T n (nx T n s)))), [], [(q + 1, nm T n s), (q + 2, nm T n (nx T n (nx T n s))), (q + 3, nm T n (nx T n (nx T n (nx T n (nx T n s)))))]) := by
  unfold ageO
  refine (bnd_v (nu_v h1.1 h1.2) (bnd_v (ne_v h2) (bnd_v (nu_v h3.1 h3.2) (bnd_v (ne_v h4) (nu_v h5.1 h5.2))))).trans ?_
  rfl
theorem srt_t {t : Int} (h : 3 ≤ t ∧ t ≤ 9) : srtO t ≠ 0 ∧ srt (srtO t) = t := by
  have : t = 3 ∨ t = 4 ∨ t = 5 ∨ t = 6 ∨ t = 7 ∨ t = 8 ∨ t = 9 := by omega
  rcases this with rfl | rfl | rfl | rfl | rfl | rfl | rfl <;> decide
end EV
end CLA
section CLB
variable {x : Nat} {m : Int} {σ σ1 σ2 : zI}
/-- what a CLAUSE changes behind its opening -/
def CL (x : Nat) (m : Int) (σ σ1 : zI) : Prop := (∀ c, c ≠ x → c ≠ x + 2 → c ≠ x + 3 → c ≠ 63 → σ1 c = σ c) ∧ (∀ k, k ≠ 2 → σ1 x k = σ x k) ∧ (∀ k, k < 3 ∨ 6 < k → σ1 63 k = σ 63 k) ∧ (0 ≤ σ x 2 ∧ σ x 2 ≤ 300 → 0 ≤ σ1 x 2 ∧ σ1 x 2 ≤ 300) ∧ (∀ k, k < 8 * m ∨ 8 * m + 8 ≤ k → σ1 (x + 2) k = σ (x + 2) k)
theorem CL_0 : CL x m σ σ := ⟨fun _ _ _ _ _ => rfl, fun _ _ => rfl, fun _ _ => rfl, fun h => h, fun _ _ => rfl⟩
theorem CL_t (h : CL x m σ σ1) (g : CL x m σ1 σ2) : CL x m σ σ2 := ⟨fun c h1 h2 h3 h4 => (g.1 c h1 h2 h3 h4).trans (h.1 c h1 h2 h3 h4), fun k hk => (g.2.1 k hk).trans (h.2.1 k hk), fun k hk => (g.2.2.1 k hk).trans (h.2.2.1 k hk), fun hh => g.2.2.2.1 (h.2.2.2.1 hh), fun k hk => (g.2.2.2.2 k hk).trans (h.2.2.2.2 k hk)⟩
theorem CL_j (hx : 63 < x) (h : CJ x σ σ1) : CL x m σ σ1 := ⟨fun c h1 _ h3 h4 => h.1 c h1 h3 h4, h.2.1, h.2.2.1, h.2.2.2, fun k _ => by rw [h.1 (x + 2) (by omega) (by omega) (by omega)]⟩
theorem CL_k (hx : 63 < x) (h : CK σ σ1) : CL x m σ σ1 := CL_j hx (CJ_k hx h)
theorem CL_u {k v : Int} (hx : 63 < x) (hk : 8 * m ≤ k ∧ k < 8 * m + 8) : CL x m σ (uc σ (x + 2) (u1 (σ (x + 2)) k v)) := ⟨fun c _ h2 _ _ => uc_n h2, fun k _ => by rw [uc_n (by omega)], fun k _ => by rw [uc_n (by omega)], fun h => by rw [uc_n (by omega)]; exact h, fun j hj => by rw [uc_s, u1_n (by omega)]⟩
theorem CL_w {S : zS} (hx : oT S x) (h : CL x m σ σ1) (h8 : σ (x + 1) 0 = 8) (hm : 0 ≤ σ (x + 1) 2 ∧ σ (x + 1) 2 ≤ 24) : oW S σ1 (x + 1) 8 192 := by
  have xb := oT_b hx
  have e : σ1 (x + 1) = σ (x + 1) := h.1 _ (by omega) (by omega) (by omega) (by omega)
  refine ⟨oT_1 hx, oT_r2 hx, oT_2 hx, by rw [e]; exact h8, by omega, by rw [e]; omega, by rw [e]; omega, by omega, isR_hi (by omega), ?_, by omega⟩
  intro q hq e
  have : ∀ q ∈ lwT, q.1 < 100 := by decide
  have := this q hq
  omega
theorem CW_u {f : Int → Int} {L : List (Int × Int)} (h : CW x σ σ1 L) : CW x σ (uc σ1 (x + 2) f) L := by
  unfold CW
  rw [uc_n (by omega), uc_n (by omega)]
  exact h
theorem CW_o {L : List (Int × Int)} (h : CW x σ1 σ2 L) (e2 : σ1 x 2 = σ x 2) (e3 : σ1 (x + 3) = σ (x + 3)) : CW x σ σ2 L := by
  unfold CW at h ⊢
  rw [← e2, ← e3]
  exact h
/-- a CLAUSE read -/
def CLS (x : Nat) (T : Int → Int) (n m q s : Int) (σ σ1 : zI) : Prop := ((∀ c, c ≠ x → c ≠ x + 1 → c ≠ x + 2 → c ≠ x + 3 → c ≠ 63 → σ1 c = σ c) ∧ (∀ k, k ≠ 2 → k ≠ 3 → σ1 x k = σ x k) ∧ σ1 x 3 = zor (σ x 3) (zshl 1 (tk T n s)) ∧ (∀ k, k < 3 ∨ 6 < k → σ1 63 k = σ 63 k) ∧ (0 ≤ σ1 x 2 ∧ σ1 x 2 ≤ 300) ∧ σ1 (x + 1) = u1 (σ (x + 1)) 2 (m + 1) ∧ ∀ k, k < 8 * m ∨ 8 * m + 8 ≤ k → σ1 (x + 2) k = σ (x + 2) k) ∧ ((clsO T n m q (σ x 2) s).1 = 0 → CR T n (clsO T n m q (σ x 2) s).2.1 σ1 ∧ CW x σ σ1 (clsO T n m q (σ x 2) s).2.2.1 ∧ ∀ g, TC (σ1 (x + 2)) m (wrs g (clsO T n m q (σ x 2) s).2.2.2) q) ∧ ((clsO T n m q (σ x 2) s).1 ≠ 0 → CD (clsO T n m q (σ x 2) s).1 (clsO T n m q (σ x 2) s).2.1 σ1)
theorem CLS_f {T : Int → Int} {n s t : Int} (hx : 63 < x) (ht : t = tk T n s) (hm : σ (x + 1) 2 = m) (hb : 0 ≤ σ x 2 ∧ σ x 2 ≤ 300) (op : OPN x t σ σ1) (cl : CL x m σ1 σ2) : (∀ c, c ≠ x → c ≠ x + 1 → c ≠ x + 2 → c ≠ x + 3 → c ≠ 63 → σ2 c = σ c) ∧ (∀ k, k ≠ 2 → k ≠ 3 → σ2 x k = σ x k) ∧ σ2 x 3 = zor (σ x 3) (zshl 1 (tk T n s)) ∧ (∀ k, k < 3 ∨ 6 < k → σ2 63 k = σ 63 k) ∧ (0 ≤ σ2 x 2 ∧ σ2 x 2 ≤ 300) ∧ σ2 (x + 1) = u1 (σ (x + 1)) 2 (m + 1) ∧ ∀ k, k < 8 * m ∨ 8 * m + 8 ≤ k → σ2 (x + 2) k = σ (x + 2) k := by
  obtain ⟨o1, o2, o3, o4, o5⟩ := op
  rw [hm] at o2 o3
  refine ⟨fun c h1 h2 h3 h4 h5 => ?_, fun k h2 h3 => ?_, ?_, fun k hk => ?_, ?_, ?_, fun k hk => ?_⟩
  · rw [cl.1 c h1 h3 h4 h5, o1 c h1 h2 h3]
  · rw [cl.2.1 k h2, o5, u1_n h3]
  · rw [cl.2.1 3 (by decide), o5, u1_s, ht]
  · rw [cl.2.2.1 k hk, o1 63 (by omega) (by omega) (by omega)]
  · refine cl.2.2.2.1 ?_
    rw [o5, u1_n (by decide)]
    exact hb
  · rw [cl.1 (x + 1) (by omega) (by omega) (by omega) (by omega), o2]
  · rw [cl.2.2.2.2 k hk, o3 k hk]
end CLB
section CLC
variable {T : Int → Int} {n s : Int} {σ : zI} {R X : RW} {F : Prop}
theorem GS_l {s' : Int} (h : GSt T n s σ R X F) (cr : CR T n s' σ) : F := by
  rcases h with h | h
  · exact h.2.2
  · exact absurd cr (cr_no (CD_F h.2 h.1))
theorem cl_sm {m q c : Int} (hm : m ≠ 24) (ht : srtO (tk T n s) ≠ 0) : SM (clsO T n m q c s) (bnd (bodyO T n q c (tk T n s) (nx T n s)) (nedO T n 36)) := by
  unfold clsO
  rw [if_neg ht, if_neg hm]
  exact SM_2 (A := (0, nx T n s, [], [(q, srtO (tk T n s))])) rfl
section TCL
variable {f : Int → Int} {m q t : Int}
theorem TC_6 {v : Int} (ht : t = 6 ∨ t = 8 ∨ t = 9) (h0 : f (m * 8 + 0) = t) (h1 : f (m * 8 + 1) = v) (g : Int → Int) : TC f m (wrs g [(q, srtO t), (q + 1, v)]) q := by
  have e0 : wrs g [(q, srtO t), (q + 1, v)] q = srtO t := by
    show u1 (u1 g q (srtO t)) (q + 1) v q = srtO t
    rw [u1_n (by omega), u1_s]
  have e1 : wrs g [(q, srtO t), (q + 1, v)] (q + 1) = v := by
    show u1 (u1 g q (srtO t)) (q + 1) v (q + 1) = v
    rw [u1_s]
  have st := srt_t (t := t) (by omega)
  have e : srtO t = t := by rcases ht with rfl | rfl | rfl <;> decide
  unfold TC
  rw [e0, e1]
  exact ⟨by rw [h0, st.2], fun z => by omega, fun _ => h1, fun z => by omega, fun z => by omega⟩
theorem TC_7 {v1 v2 v3 : Int} (h0 : f (m * 8 + 0) = 7) (h1 : f (m * 8 + 1) = v1) (h2 : f (m * 8 + 2) = v2) (h3 : f (m * 8 + 3) = v3) (g : Int → Int) : TC f m (wrs g [(q, srtO 7), (q + 1, v1), (q + 2, v2), (q + 3, v3)]) q := by
  have e0 : wrs g [(q, srtO 7), (q + 1, v1), (q + 2, v2), (q + 3, v3)] q = 7 := by
    show u1 (u1 (u1 (u1 g q (srtO 7)) (q + 1) v1) (q + 2) v2) (q + 3) v3 q = 7
    rw [u1_n (by omega), u1_n (by omega), u1_n (by omega), u1_s]
    decide
  have e1 : wrs g [(q, srtO 7), (q + 1, v1), (q + 2, v2), (q + 3, v3)] (q + 1) = v1 := by
    show u1 (u1 (u1 (u1 g q (srtO 7)) (q + 1) v1) (q + 2) v2) (q + 3) v3 (q + 1) = v1
    rw [u1_n (by omega), u1_n (by omega), u1_s]
  have e2 : wrs g [(q, srtO 7), (q + 1, v1), (q + 2, v2), (q + 3, v3)] (q + 2) = v2 := by
    show u1 (u1 (u1 (u1 g q (srtO 7)) (q + 1) v1) (q + 2) v2) (q + 3) v3 (q + 2) = v2
    rw [u1_n (by omega), u1_s]
  have e3 : wrs g [(q, srtO 7), (q + 1, v1), (q + 2, v2), (q + 3, v3)] (q + 3) = v3 := by
    show u1 (u1 (u1 (u1 g q (srtO 7)) (q + 1) v1) (q + 2) v2) (q + 3) v3 (q + 3) = v3
    rw [u1_s]
  unfold TC
  rw [e0, e1, e2, e3]
  exact ⟨by rw [h0]; decide, fun _ => ⟨h1, h2, h3⟩, fun z => by omega, fun z => by omega, fun z => by omega⟩
theorem TC_3 {c d : Int} (h0 : f (m * 8 + 0) = 3) (h4 : f (m * 8 + 4) = 29) (h6 : f (m * 8 + 6) = c) (h7 : f (m * 8 + 7) = d) (g : Int → Int) : TC f m (wrs g [(q, srtO 3), (q + 6, c), (q + 7, d)]) q := by
  have e0 : wrs g [(q, srtO 3), (q + 6, c), (q + 7, d)] q = 1 := by
    show u1 (u1 (u1 g q (srtO 3)) (q + 6) c) (q + 7) d q = 1
    rw [u1_n (by omega), u1_n (by omega), u1_s]
    decide
  have e6 : wrs g [(q, srtO 3), (q + 6, c), (q + 7, d)] (q + 6) = c := by
    show u1 (u1 (u1 g q (srtO 3)) (q + 6) c) (q + 7) d (q + 6) = c
    rw [u1_n (by omega), u1_s]
  have e7 : wrs g [(q, srtO 3), (q + 6, c), (q + 7, d)] (q + 7) = d := by
    show u1 (u1 (u1 g q (srtO 3)) (q + 6) c) (q + 7) d (q + 7) = d
    rw [u1_s]
  unfold TC
  rw [e0, e6, e7]
  exact ⟨by rw [h0]; decide, fun z => by omega, fun z => by omega, fun _ => ⟨by rw [h4]; decide, h6, h7⟩, fun z => by omega⟩
theorem TC_4 {v c d : Int} (b : Bool) (h0 : f (m * 8 + 0) = 4) (h1 : f (m * 8 + 1) = v) (h4 : f (m * 8 + 4) = if b then 30 else 29) (h6 : f (m * 8 + 6) = c) (h7 : f (m * 8 + 7) = d) (g : Int → Int) : TC f m (wrs g ((q, srtO 4) :: ([(q + 1, v)] ++ ((if b then [(q, 2 + 1)] else []) ++ [(q + 6, c), (q + 7, d)])))) q := by
  cases b
  · have e0 : wrs g ((q, srtO 4) :: ([(q + 1, v)] ++ ((if false = true then [(q, 2 + 1)] else []) ++ [(q + 6, c), (q + 7, d)]))) q = 2 := by
      show u1 (u1 (u1 (u1 g q (srtO 4)) (q + 1) v) (q + 6) c) (q + 7) d q = 2
      rw [u1_n (by omega), u1_n (by omega), u1_n (by omega), u1_s]
      decide
    have e1 : wrs g ((q, srtO 4) :: ([(q + 1, v)] ++ ((if false = true then [(q, 2 + 1)] else []) ++ [(q + 6, c), (q + 7, d)]))) (q + 1) = v := by
      show u1 (u1 (u1 (u1 g q (srtO 4)) (q + 1) v) (q + 6) c) (q + 7) d (q + 1) = v
      rw [u1_n (by omega), u1_n (by omega), u1_s]
    have e6 : wrs g ((q, srtO 4) :: ([(q + 1, v)] ++ ((if false = true then [(q, 2 + 1)] else []) ++ [(q + 6, c), (q + 7, d)]))) (q + 6) = c := by
      show u1 (u1 (u1 (u1 g q (srtO 4)) (q + 1) v) (q + 6) c) (q + 7) d (q + 6) = c
      rw [u1_n (by omega), u1_s]
    have e7 : wrs g ((q, srtO 4) :: ([(q + 1, v)] ++ ((if false = true then [(q, 2 + 1)] else []) ++ [(q + 6, c), (q + 7, d)]))) (q + 7) = d := by
      show u1 (u1 (u1 (u1 g q (srtO 4)) (q + 1) v) (q + 6) c) (q + 7) d (q + 7) = d
      rw [u1_s]
    unfold TC
    rw [e0, e1, e6, e7]
    exact ⟨by rw [h0]; decide, fun z => by omega, fun _ => h1, fun _ => ⟨by rw [h4]; decide, h6, h7⟩, fun z => by omega⟩
  · have e0 : wrs g ((q, srtO 4) :: ([(q + 1, v)] ++ ((if true = true then [(q, 2 + 1)] else []) ++ [(q + 6, c), (q + 7, d)]))) q = 3 := by
      show u1 (u1 (u1 (u1 (u1 g q (srtO 4)) (q + 1) v) q (2 + 1)) (q + 6) c) (q + 7) d q = 3
      rw [u1_n (by omega), u1_n (by omega), u1_s]
      decide
    have e1 : wrs g ((q, srtO 4) :: ([(q + 1, v)] ++ ((if true = true then [(q, 2 + 1)] else []) ++ [(q + 6, c), (q + 7, d)]))) (q + 1) = v := by
      show u1 (u1 (u1 (u1 (u1 g q (srtO 4)) (q + 1) v) q (2 + 1)) (q + 6) c) (q + 7) d (q + 1) = v
      rw [u1_n (by omega), u1_n (by omega), u1_n (by omega), u1_s]
    have e6 : wrs g ((q, srtO 4) :: ([(q + 1, v)] ++ ((if true = true then [(q, 2 + 1)] else []) ++ [(q + 6, c), (q + 7, d)]))) (q + 6) = c := by
      show u1 (u1 (u1 (u1 (u1 g q (srtO 4)) (q + 1) v) q (2 + 1)) (q + 6) c) (q + 7) d (q + 6) = c
      rw [u1_n (by omega), u1_s]
    have e7 : wrs g ((q, srtO 4) :: ([(q + 1, v)] ++ ((if true = true then [(q, 2 + 1)] else []) ++ [(q + 6, c), (q + 7, d)]))) (q + 7) = d := by
      show u1 (u1 (u1 (u1 (u1 g q (srtO 4)) (q + 1) v) q (2 + 1)) (q + 6) c) (q + 7) d (q + 7) = d
      rw [u1_s]
    unfold TC
    rw [e0, e1, e6, e7]
    exact ⟨by rw [h0]; decide, fun z => by omega, fun _ => h1, fun _ => ⟨by rw [h4]; decide, h6, h7⟩, fun z => by omega⟩
theorem TC_5 {c c1 d : Int} (b : Bool) (h0 : f (m * 8 + 0) = 5) (h5 : f (m * 8 + 5) = c) (h4 : f (m * 8 + 4) = if b then 30 else 29) (h6 : f (m * 8 + 6) = c1) (h7 : f (m * 8 + 7) = d) (g : Int → Int) : TC f m (wrs g ((q, srtO 5) :: ([(q + 4, c), (q + 5, c1)] ++ ((if b then [(q, 4 + 1)] else []) ++ [(q + 6, c1), (q + 7, d)])))) q := by
  cases b
  · have e0 : wrs g ((q, srtO 5) :: ([(q + 4, c), (q + 5, c1)] ++ ((if false = true then [(q, 4 + 1)] else []) ++ [(q + 6, c1), (q + 7, d)]))) q = 4 := by
      show u1 (u1 (u1 (u1 (u1 g q (srtO 5)) (q + 4) c) (q + 5) c1) (q + 6) c1) (q + 7) d q = 4
      rw [u1_n (by omega), u1_n (by omega), u1_n (by omega), u1_n (by omega), u1_s]
      decide
    have e4 : wrs g ((q, srtO 5) :: ([(q + 4, c), (q + 5, c1)] ++ ((if false = true then [(q, 4 + 1)] else []) ++ [(q + 6, c1), (q + 7, d)]))) (q + 4) = c := by
      show u1 (u1 (u1 (u1 (u1 g q (srtO 5)) (q + 4) c) (q + 5) c1) (q + 6) c1) (q + 7) d (q + 4) = c
      rw [u1_n (by omega), u1_n (by omega), u1_n (by omega), u1_s]
    have e5 : wrs g ((q, srtO 5) :: ([(q + 4, c), (q + 5, c1)] ++ ((if false = true then [(q, 4 + 1)] else []) ++ [(q + 6, c1), (q + 7, d)]))) (q + 5) = c1 := by
      show u1 (u1 (u1 (u1 (u1 g q (srtO 5)) (q + 4) c) (q + 5) c1) (q + 6) c1) (q + 7) d (q + 5) = c1
      rw [u1_n (by omega), u1_n (by omega), u1_s]
    have e6 : wrs g ((q, srtO 5) :: ([(q + 4, c), (q + 5, c1)] ++ ((if false = true then [(q, 4 + 1)] else []) ++ [(q + 6, c1), (q + 7, d)]))) (q + 6) = c1 := by
      show u1 (u1 (u1 (u1 (u1 g q (srtO 5)) (q + 4) c) (q + 5) c1) (q + 6) c1) (q + 7) d (q + 6) = c1
      rw [u1_n (by omega), u1_s]
    have e7 : wrs g ((q, srtO 5) :: ([(q + 4, c), (q + 5, c1)] ++ ((if false = true then [(q, 4 + 1)] else []) ++ [(q + 6, c1), (q + 7, d)]))) (q + 7) = d := by
      show u1 (u1 (u1 (u1 (u1 g q (srtO 5)) (q + 4) c) (q + 5) c1) (q + 6) c1) (q + 7) d (q + 7) = d
      rw [u1_s]
    unfold TC
    rw [e0, e4, e5, e6, e7]
    exact ⟨by rw [h0]; decide, fun z => by omega, fun z => by omega, fun _ => ⟨by rw [h4]; decide, h6, h7⟩, fun _ => ⟨h5, rfl⟩⟩
  · have e0 : wrs g ((q, srtO 5) :: ([(q + 4, c), (q + 5, c1)] ++ ((if true = true then [(q, 4 + 1)] else []) ++ [(q + 6, c1), (q + 7, d)]))) q = 5 := by
      show u1 (u1 (u1 (u1 (u1 (u1 g q (srtO 5)) (q + 4) c) (q + 5) c1) q (4 + 1)) (q + 6) c1) (q + 7) d q = 5
      rw [u1_n (by omega), u1_n (by omega), u1_s]
      decide
    have e4 : wrs g ((q, srtO 5) :: ([(q + 4, c), (q + 5, c1)] ++ ((if true = true then [(q, 4 + 1)] else []) ++ [(q + 6, c1), (q + 7, d)]))) (q + 4) = c := by
      show u1 (u1 (u1 (u1 (u1 (u1 g q (srtO 5)) (q + 4) c) (q + 5) c1) q (4 + 1)) (q + 6) c1) (q + 7) d (q + 4) = c
      rw [u1_n (by omega), u1_n (by omega), u1_n (by omega), u1_n (by omega), u1_s]
    have e5 : wrs g ((q, srtO 5) :: ([(q + 4, c), (q + 5, c1)] ++ ((if true = true then [(q, 4 + 1)] else []) ++ [(q + 6, c1), (q + 7, d)]))) (q + 5) = c1 := by
      show u1 (u1 (u1 (u1 (u1 (u1 g q (srtO 5)) (q + 4) c) (q + 5) c1) q (4 + 1)) (q + 6) c1) (q + 7) d (q + 5) = c1
      rw [u1_n (by omega), u1_n (by omega), u1_n (by omega), u1_s]
    have e6 : wrs g ((q, srtO 5) :: ([(q + 4, c), (q + 5, c1)] ++ ((if true = true then [(q, 4 + 1)] else []) ++ [(q + 6, c1), (q + 7, d)]))) (q + 6) = c1 := by
      show u1 (u1 (u1 (u1 (u1 (u1 g q (srtO 5)) (q + 4) c) (q + 5) c1) q (4 + 1)) (q + 6) c1) (q + 7) d (q + 6) = c1
      rw [u1_n (by omega), u1_s]
    have e7 : wrs g ((q, srtO 5) :: ([(q + 4, c), (q + 5, c1)] ++ ((if true = true then [(q, 4 + 1)] else []) ++ [(q + 6, c1), (q + 7, d)]))) (q + 7) = d := by
      show u1 (u1 (u1 (u1 (u1 (u1 g q (srtO 5)) (q + 4) c) (q + 5) c1) q (4 + 1)) (q + 6) c1) (q + 7) d (q + 7) = d
      rw [u1_s]
    unfold TC
    rw [e0, e4, e5, e6, e7]
    exact ⟨by rw [h0]; decide, fun z => by omega, fun z => by omega, fun _ => ⟨by rw [h4]; decide, h6, h7⟩, fun _ => ⟨h5, rfl⟩⟩
end TCL
end CLC
-- method 46: MillTown$Reader.readRule(LMillTown$Text;)V
theorem c_46_0 : pg_cd 46 0 = (5, 1, 0, 0, 0) := by decide +kernel
theorem c_46_1 : pg_cd 46 1 = (43, 3, 46, 4, 0) := by decide +kernel
theorem c_46_4 : pg_cd 46 4 = (6, 1, 0, 2, 0) := by decide +kernel
theorem c_46_5 : pg_cd 46 5 = (5, 1, 0, 1, 0) := by decide +kernel
theorem c_46_6 : pg_cd 46 6 = (3, 1, 0, 2, 0) := by decide +kernel
theorem c_46_7 : pg_cd 46 7 = (80, 82, 104, 0, 0) := by decide +kernel
theorem c_46_10 : pg_cd 46 10 = (6, 1, 0, 3, 0) := by decide +kernel
theorem c_46_11 : pg_cd 46 11 = (5, 1, 0, 0, 0) := by decide +kernel
theorem c_46_12 : pg_cd 46 12 = (3, 1, 0, 2, 0) := by decide +kernel
theorem c_46_13 : pg_cd 46 13 = (80, 44, 101, 0, 0) := by decide +kernel
theorem c_46_16 : pg_cd 46 16 = (3, 1, 0, 2, 0) := by decide +kernel
theorem c_46_17 : pg_cd 46 17 = (1, 2, 0, 0, 7) := by decide +kernel
theorem c_46_19 : pg_cd 46 19 = (37, 3, 0, 1, 75) := by decide +kernel
theorem c_46_22 : pg_cd 46 22 = (5, 1, 0, 0, 0) := by decide +kernel
theorem c_46_23 : pg_cd 46 23 = (1, 1, 0, 0, 0) := by decide +kernel
theorem c_46_24 : pg_cd 46 24 = (1, 2, 0, 0, 99) := by decide +kernel
theorem c_46_26 : pg_cd 46 26 = (80, 45, 108, 0, 0) := by decide +kernel
theorem c_46_29 : pg_cd 46 29 = (6, 2, 0, 4, 0) := by decide +kernel
theorem c_46_31 : pg_cd 46 31 = (5, 1, 0, 0, 0) := by decide +kernel
theorem c_46_32 : pg_cd 46 32 = (1, 2, 0, 0, 12) := by decide +kernel
theorem c_46_34 : pg_cd 46 34 = (80, 44, 101, 0, 0) := by decide +kernel
theorem c_46_37 : pg_cd 46 37 = (5, 1, 0, 0, 0) := by decide +kernel
theorem c_46_38 : pg_cd 46 38 = (3, 2, 0, 4, 0) := by decide +kernel
theorem c_46_40 : pg_cd 46 40 = (1, 2, 0, 0, 99) := by decide +kernel
theorem c_46_42 : pg_cd 46 42 = (80, 45, 108, 0, 0) := by decide +kernel
theorem c_46_45 : pg_cd 46 45 = (6, 2, 0, 5, 0) := by decide +kernel
theorem c_46_47 : pg_cd 46 47 = (5, 1, 0, 0, 0) := by decide +kernel
theorem c_46_48 : pg_cd 46 48 = (1, 2, 0, 0, 13) := by decide +kernel
theorem c_46_50 : pg_cd 46 50 = (80, 44, 101, 0, 0) := by decide +kernel
theorem c_46_53 : pg_cd 46 53 = (5, 1, 0, 1, 0) := by decide +kernel
theorem c_46_54 : pg_cd 46 54 = (45, 7, 53, 0, 0) := by decide +kernel
theorem c_46_57 : pg_cd 46 57 = (3, 1, 0, 3, 0) := by decide +kernel
theorem c_46_58 : pg_cd 46 58 = (1, 1, 0, 0, 1) := by decide +kernel
theorem c_46_59 : pg_cd 46 59 = (3, 2, 0, 4, 0) := by decide +kernel
theorem c_46_61 : pg_cd 46 61 = (80, 56, 111, 0, 0) := by decide +kernel
theorem c_46_64 : pg_cd 46 64 = (5, 1, 0, 1, 0) := by decide +kernel
theorem c_46_65 : pg_cd 46 65 = (45, 7, 53, 0, 0) := by decide +kernel
theorem c_46_68 : pg_cd 46 68 = (3, 1, 0, 3, 0) := by decide +kernel
theorem c_46_69 : pg_cd 46 69 = (1, 1, 0, 0, 2) := by decide +kernel
theorem c_46_70 : pg_cd 46 70 = (3, 2, 0, 5, 0) := by decide +kernel
theorem c_46_72 : pg_cd 46 72 = (80, 56, 111, 0, 0) := by decide +kernel
theorem c_46_75 : pg_cd 46 75 = (5, 1, 0, 1, 0) := by decide +kernel
theorem c_46_76 : pg_cd 46 76 = (45, 7, 53, 0, 0) := by decide +kernel
theorem c_46_79 : pg_cd 46 79 = (3, 1, 0, 3, 0) := by decide +kernel
theorem c_46_80 : pg_cd 46 80 = (1, 1, 0, 0, 3) := by decide +kernel
theorem c_46_81 : pg_cd 46 81 = (5, 1, 0, 0, 0) := by decide +kernel
theorem c_46_82 : pg_cd 46 82 = (1, 1, 0, 0, 0) := by decide +kernel
theorem c_46_83 : pg_cd 46 83 = (1, 2, 0, 0, 80) := by decide +kernel
theorem c_46_85 : pg_cd 46 85 = (80, 45, 108, 0, 0) := by decide +kernel
theorem c_46_88 : pg_cd 46 88 = (80, 56, 111, 0, 0) := by decide +kernel
theorem c_46_91 : pg_cd 46 91 = (38, 3, 0, 0, 31) := by decide +kernel
theorem c_46_94 : pg_cd 46 94 = (5, 1, 0, 1, 0) := by decide +kernel
theorem c_46_95 : pg_cd 46 95 = (45, 7, 53, 0, 0) := by decide +kernel
theorem c_46_98 : pg_cd 46 98 = (3, 1, 0, 3, 0) := by decide +kernel
theorem c_46_99 : pg_cd 46 99 = (1, 1, 0, 0, 1) := by decide +kernel
theorem c_46_100 : pg_cd 46 100 = (5, 1, 0, 0, 0) := by decide +kernel
theorem c_46_101 : pg_cd 46 101 = (1, 1, 0, 0, 0) := by decide +kernel
theorem c_46_102 : pg_cd 46 102 = (3, 1, 0, 2, 0) := by decide +kernel
theorem c_46_103 : pg_cd 46 103 = (1, 2, 0, 0, 6) := by decide +kernel
theorem c_46_105 : pg_cd 46 105 = (37, 3, 0, 1, 9) := by decide +kernel
theorem c_46_108 : pg_cd 46 108 = (1, 3, 0, 0, 9999) := by decide +kernel
theorem c_46_111 : pg_cd 46 111 = (38, 3, 0, 0, 5) := by decide +kernel
theorem c_46_114 : pg_cd 46 114 = (1, 2, 0, 0, 20) := by decide +kernel
theorem c_46_116 : pg_cd 46 116 = (80, 45, 108, 0, 0) := by decide +kernel
theorem c_46_119 : pg_cd 46 119 = (80, 56, 111, 0, 0) := by decide +kernel
theorem c_46_122 : pg_cd 46 122 = (5, 1, 0, 0, 0) := by decide +kernel
theorem c_46_123 : pg_cd 46 123 = (1, 2, 0, 0, 36) := by decide +kernel
theorem c_46_125 : pg_cd 46 125 = (80, 44, 101, 0, 0) := by decide +kernel
theorem c_46_128 : pg_cd 46 128 = (94, 0, 0, 0, 0) := by decide +kernel
theorem mi_46 : pg_mc 46 = 3 ∧ pg_na 46 = 1 ∧ pg_mx 46 = 6 := by decide +kernel
set_option maxRecDepth 20000 in
theorem u_46_0 {d : Nat} {S : zS} {σ τ : zI} {Q : zQ} {x1 : Nat} (hx1 : oT S x1) (t : (oW S σ (x1 + 1) 8 192) ∧ (0 ≤ σ (x1 + 1) 2 ∧ σ (x1 + 1) 2 < 24) ∧ (3 ≤ (σ 63 4) ∧ (σ 63 4) ≤ 9) ∧ ∀ (σ15 : zI), OPN x1 (σ 63 4) σ σ15 → ∃ T7 : Int → Int, ∃ n8 : Int, ∃ s9 : Int, (CR T7 n8 s9 σ15 ∨ CFS σ15) ∧ (CR T7 n8 s9 σ15 → (1 : Int) ≠ (σ 63 4)) ∧ (TB T7 n8) ∧ ∀ (σ113 : zI), XP T7 n8 s9 (σ 63 4) σ15 σ113 → if (σ 63 4) = 7 then (∃ T17 : Int → Int, ∃ n18 : Int, ∃ s19 : Int, (CR T17 n18 s19 σ113 ∨ CFS σ113) ∧ (TB T17 n18) ∧ (CR T17 n18 s19 σ113 → (0 : Int) ≤ 0 ∧ 99 ≤ (9999 : Int)) ∧ ∀ (v23 : Int) (σ124 : zI), rg v23 → CK σ113 σ124 → (CFS σ113 → σ124 = σ113) → (CR T17 n18 s19 σ113 → ((numO T17 n18 0 99 0 s19).1 = 0 → CR T17 n18 (nx T17 n18 s19) σ124 ∧ v23 = nm T17 n18 s19) ∧ ((numO T17 n18 0 99 0 s19).1 ≠ 0 → CD (numO T17 n18 0 99 0 s19).1 (numO T17 n18 0 99 0 s19).2.1 σ124)) → ∃ T29 : Int → Int, ∃ n30 : Int, ∃ s31 : Int, (CR T29 n30 s31 σ124 ∨ CFS σ124) ∧ (CR T29 n30 s31 σ124 → (1 : Int) ≠ 12) ∧ (TB T29 n30) ∧ ∀ (σ135 : zI), XP T29 n30 s31 12 σ124 σ135 → ∃ T37 : Int → Int, ∃ n38 : Int, ∃ s39 : Int, (CR T37 n38 s39 σ135 ∨ CFS σ135) ∧ (TB T37 n38) ∧ (rg v23) ∧ (CR T37 n38 s39 σ135 → (0 : Int) ≤ v23 ∧ 99 ≤ (9999 : Int)) ∧ ∀ (v44 : Int) (σ145 : zI), rg v44 → CK σ135 σ145 → (CFS σ135 → σ145 = σ135) → (CR T37 n38 s39 σ135 → ((numO T37 n38 v23 99 0 s39).1 = 0 → CR T37 n38 (nx T37 n38 s39) σ145 ∧ v44 = nm T37 n38 s39) ∧ ((numO T37 n38 v23 99 0 s39).1 ≠ 0 → CD (numO T37 n38 v23 99 0 s39).1 (numO T37 n38 v23 99 0 s39).2.1 σ145)) → ∃ T50 : Int → Int, ∃ n51 : Int, ∃ s52 : Int, (CR T50 n51 s52 σ145 ∨ CFS σ145) ∧ (CR T50 n51 s52 σ145 → (1 : Int) ≠ 13) ∧ (TB T50 n51) ∧ ∀ (σ156 : zI), XP T50 n51 s52 13 σ145 σ156 → (oW S σ156 (x1 + 1) 8 192) ∧ (rg (σ (x1 + 1) 2)) ∧ (0 ≤ σ (x1 + 1) 2 ∧ σ (x1 + 1) 2 < (σ156 (x1 + 1) 2)) ∧ ∃ w61 : Int, wI w61 = wI v44 ∧ rg w61 ∧ ∃ T64 : Int → Int, ∃ n65 : Int, ∃ s66 : Int, (CR T64 n65 s66 (uc σ156 (x1 + 2) (u1 (u1 (σ156 (x1 + 2)) ((σ (x1 + 1) 2) * 8 + 1) v23) ((σ (x1 + 1) 2) * 8 + 2) w61)) ∨ CFS (uc σ156 (x1 + 2) (u1 (u1 (σ156 (x1 + 2)) ((σ (x1 + 1) 2) * 8 + 1) v23) ((σ (x1 + 1) 2) * 8 + 2) w61))) ∧ (TB T64 n65) ∧ (CR T64 n65 s66 (uc σ156 (x1 + 2) (u1 (u1 (σ156 (x1 + 2)) ((σ (x1 + 1) 2) * 8 + 1) v23) ((σ (x1 + 1) 2) * 8 + 2) w61)) → (0 : Int) ≤ 0 ∧ 80 ≤ (9999 : Int)) ∧ ∀ (v70 : Int) (σ171 : zI), rg v70 → CK (uc σ156 (x1 + 2) (u1 (u1 (σ156 (x1 + 2)) ((σ (x1 + 1) 2) * 8 + 1) v23) ((σ (x1 + 1) 2) * 8 + 2) w61)) σ171 → (CFS (uc σ156 (x1 + 2) (u1 (u1 (σ156 (x1 + 2)) ((σ (x1 + 1) 2) * 8 + 1) v23) ((σ (x1 + 1) 2) * 8 + 2) w61)) → σ171 = (uc σ156 (x1 + 2) (u1 (u1 (σ156 (x1 + 2)) ((σ (x1 + 1) 2) * 8 + 1) v23) ((σ (x1 + 1) 2) * 8 + 2) w61))) → (CR T64 n65 s66 (uc σ156 (x1 + 2) (u1 (u1 (σ156 (x1 + 2)) ((σ (x1 + 1) 2) * 8 + 1) v23) ((σ (x1 + 1) 2) * 8 + 2) w61)) → ((numO T64 n65 0 80 0 s66).1 = 0 → CR T64 n65 (nx T64 n65 s66) σ171 ∧ v70 = nm T64 n65 s66) ∧ ((numO T64 n65 0 80 0 s66).1 ≠ 0 → CD (numO T64 n65 0 80 0 s66).1 (numO T64 n65 0 80 0 s66).2.1 σ171)) → (oW S σ171 (x1 + 1) 8 192) ∧ (0 ≤ σ (x1 + 1) 2 ∧ σ (x1 + 1) 2 < (σ171 (x1 + 1) 2)) ∧ ∃ w78 : Int, wI w78 = wI v70 ∧ rg w78 ∧ ∃ T81 : Int → Int, ∃ n82 : Int, ∃ s83 : Int, (CR T81 n82 s83 (uc σ171 (x1 + 2) (u1 (σ171 (x1 + 2)) ((σ (x1 + 1) 2) * 8 + 3) w78)) ∨ CFS (uc σ171 (x1 + 2) (u1 (σ171 (x1 + 2)) ((σ (x1 + 1) 2) * 8 + 3) w78))) ∧ (CR T81 n82 s83 (uc σ171 (x1 + 2) (u1 (σ171 (x1 + 2)) ((σ (x1 + 1) 2) * 8 + 3) w78)) → (1 : Int) ≠ 36) ∧ (TB T81 n82) ∧ ∀ (σ187 : zI), XP T81 n82 s83 36 (uc σ171 (x1 + 2) (u1 (σ171 (x1 + 2)) ((σ (x1 + 1) 2) * 8 + 3) w78)) σ187 → Q none S σ187 τ) else (if (σ 63 4) = 6 then (wi (d + 28) 46 116 [.ref 63, .ref x1, .int (wI (σ 63 4)), .int (wI (σ (x1 + 1) 2)), .retAddr 0, .retAddr 0] [.int (wI 9999), .int (wI 0), .ref 63, .int (wI 1), .int (wI (σ (x1 + 1) 2)), .ref (x1 + 1)] S σ113 τ Q) else (wi (d + 28) 46 116 [.ref 63, .ref x1, .int (wI (σ 63 4)), .int (wI (σ (x1 + 1) 2)), .retAddr 0, .retAddr 0] [.int (wI 20), .int (wI 0), .ref 63, .int (wI 1), .int (wI (σ (x1 + 1) 2)), .ref (x1 + 1)] S σ113 τ Q))) : wi (d + 28) 46 0 [.ref 63, .ref x1, .retAddr 0, .retAddr 0, .retAddr 0, .retAddr 0] [] S σ τ Q := by
  refine i5 c_46_0 rfl (wi_ok (fun K1 => ?_))
  obtain ⟨p2, t⟩ := t
  obtain ⟨p3, t⟩ := t
  obtain ⟨p4, t⟩ := t
  refine i43 (v := σ 63 4) c_46_1 (lo (c := 63) (kd := 103) (n := 0) rfl (by decide)) rfl (i6 (L' := [.ref 63, .ref x1, .int (wI (σ 63 4)), .retAddr 0, .retAddr 0, .retAddr 0]) c_46_4 rfl (i5 c_46_5 rfl (i3 c_46_6 rfl ?_)))
  refine i80 (As := [.int (wI (σ 63 4))]) (rest := []) c_46_7 mi_82 rfl rfl (Nat.le_of_ble_eq_true rfl) (Nat.le_of_ble_eq_true rfl) (fun _ => oT_0 hx1) (q_82 hx1 p2 p3 p4 (fun σ15 q6 => ?_))
  have t := t σ15 q6
  show wi (d + 28) 46 10 [.ref 63, .ref x1, .int (wI (σ 63 4)), .retAddr 0, .retAddr 0, .retAddr 0] [.int (wI (σ (x1 + 1) 2))] S σ15 τ Q
  obtain ⟨T7, t⟩ := t
  obtain ⟨n8, t⟩ := t
  obtain ⟨s9, t⟩ := t
  obtain ⟨p10, t⟩ := t
  obtain ⟨p11, t⟩ := t
  obtain ⟨p12, t⟩ := t
  refine i6 (L' := [.ref 63, .ref x1, .int (wI (σ 63 4)), .int (wI (σ (x1 + 1) 2)), .retAddr 0, .retAddr 0]) c_46_10 rfl (i5 c_46_11 rfl (i3 c_46_12 rfl ?_))
  refine i80 (As := [.int (wI (σ 63 4))]) (rest := []) c_46_13 mi_44 rfl rfl (Nat.le_of_ble_eq_true rfl) (Nat.le_of_ble_eq_true rfl) (lo (c := 63) (kd := 103) (n := 0) rfl (by decide)) (q_44 (T := T7) (n := n8) (s := s9) p10 p11 (rge_ K1 rfl) p12 (fun σ113 q14 => ?_))
  have t := t σ113 q14
  show wi (d + 28) 46 16 [.ref 63, .ref x1, .int (wI (σ 63 4)), .int (wI (σ (x1 + 1) 2)), .retAddr 0, .retAddr 0] [] S σ113 τ Q
  refine i3 c_46_16 rfl (i1 c_46_17 ?_)
  refine i37 c_46_19 (rge_ K1 rfl) (by decide) rfl (fun hc => ?_) (fun hc => ?_)
  · have t := iF t hc
    have ha15 : ¬ ((σ 63 4) = 7) := hc
    refine i5 c_46_94 rfl (i45 c_46_95 (fun _ => oT_0 hx1) (fun _ => oT_r0 hx1) (i3 c_46_98 rfl (i1 c_46_99 (i5 c_46_100 rfl (i1 c_46_101 (i3 c_46_102 rfl (i1 c_46_103 ?_)))))))
    refine i37 c_46_105 (rge_ K1 rfl) (by decide) rfl (fun hc => ?_) (fun hc => ?_)
    · have t := iF t hc
      have ha16 : ¬ ((σ 63 4) = 6) := hc
      refine i1 c_46_114 t
    · have t := iT t (Decidable.not_not.mp hc)
      have ha16 : (σ 63 4) = 6 := Decidable.not_not.mp hc
      refine i1 c_46_108 (i38 c_46_111 rfl t)
  · have t := iT t (Decidable.not_not.mp hc)
    have ha15 : (σ 63 4) = 7 := Decidable.not_not.mp hc
    obtain ⟨T17, t⟩ := t
    obtain ⟨n18, t⟩ := t
    obtain ⟨s19, t⟩ := t
    obtain ⟨p20, t⟩ := t
    obtain ⟨p21, t⟩ := t
    obtain ⟨p22, t⟩ := t
    refine i5 c_46_22 rfl (i1 c_46_23 (i1 c_46_24 ?_))
    refine i80 (As := [.int (wI 0), .int (wI 99)]) (rest := []) c_46_26 mi_45 rfl rfl (Nat.le_of_ble_eq_true rfl) (Nat.le_of_ble_eq_true rfl) (lo (c := 63) (kd := 103) (n := 0) rfl (by decide)) (q_45 (T := T17) (n := n18) (s := s19) p20 p21 (by decide) (by decide) p22 (fun v23 σ124 q25 q26 q27 q28 => ?_))
    have t := t v23 σ124 q25 q26 q27 q28
    show wi (d + 28) 46 29 [.ref 63, .ref x1, .int (wI (σ 63 4)), .int (wI (σ (x1 + 1) 2)), .retAddr 0, .retAddr 0] [.int (wI v23)] S σ124 τ Q
    obtain ⟨T29, t⟩ := t
    obtain ⟨n30, t⟩ := t
    obtain ⟨s31, t⟩ := t
    obtain ⟨p32, t⟩ := t
    obtain ⟨p33, t⟩ := t
    obtain ⟨p34, t⟩ := t
    refine i6 (L' := [.ref 63, .ref x1, .int (wI (σ 63 4)), .int (wI (σ (x1 + 1) 2)), .int (wI v23), .retAddr 0]) c_46_29 rfl (i5 c_46_31 rfl (i1 c_46_32 ?_))
    refine i80 (As := [.int (wI 12)]) (rest := []) c_46_34 mi_44 rfl rfl (Nat.le_of_ble_eq_true rfl) (Nat.le_of_ble_eq_true rfl) (lo (c := 63) (kd := 103) (n := 0) rfl (by decide)) (q_44 (T := T29) (n := n30) (s := s31) p32 p33 (by decide) p34 (fun σ135 q36 => ?_))
    have t := t σ135 q36
    show wi (d + 28) 46 37 [.ref 63, .ref x1, .int (wI (σ 63 4)), .int (wI (σ (x1 + 1) 2)), .int (wI v23), .retAddr 0] [] S σ135 τ Q
    obtain ⟨T37, t⟩ := t
    obtain ⟨n38, t⟩ := t
    obtain ⟨s39, t⟩ := t
    obtain ⟨p40, t⟩ := t
    obtain ⟨p41, t⟩ := t
    obtain ⟨r42, t⟩ := t
    obtain ⟨p43, t⟩ := t
    refine i5 c_46_37 rfl (i3 c_46_38 rfl (i1 c_46_40 ?_))
    refine i80 (As := [.int (wI v23), .int (wI 99)]) (rest := []) c_46_42 mi_45 rfl rfl (Nat.le_of_ble_eq_true rfl) (Nat.le_of_ble_eq_true rfl) (lo (c := 63) (kd := 103) (n := 0) rfl (by decide)) (q_45 (T := T37) (n := n38) (s := s39) p40 p41 r42 (by decide) p43 (fun v44 σ145 q46 q47 q48 q49 => ?_))
    have t := t v44 σ145 q46 q47 q48 q49
    show wi (d + 28) 46 45 [.ref 63, .ref x1, .int (wI (σ 63 4)), .int (wI (σ (x1 + 1) 2)), .int (wI v23), .retAddr 0] [.int (wI v44)] S σ145 τ Q
    obtain ⟨T50, t⟩ := t
    obtain ⟨n51, t⟩ := t
    obtain ⟨s52, t⟩ := t
    obtain ⟨p53, t⟩ := t
    obtain ⟨p54, t⟩ := t
    obtain ⟨p55, t⟩ := t
    refine i6 (L' := [.ref 63, .ref x1, .int (wI (σ 63 4)), .int (wI (σ (x1 + 1) 2)), .int (wI v23), .int (wI v44)]) c_46_45 rfl (i5 c_46_47 rfl (i1 c_46_48 ?_))
    refine i80 (As := [.int (wI 13)]) (rest := []) c_46_50 mi_44 rfl rfl (Nat.le_of_ble_eq_true rfl) (Nat.le_of_ble_eq_true rfl) (lo (c := 63) (kd := 103) (n := 0) rfl (by decide)) (q_44 (T := T50) (n := n51) (s := s52) p53 p54 (by decide) p55 (fun σ156 q57 => ?_))
    have t := t σ156 q57
    show wi (d + 28) 46 53 [.ref 63, .ref x1, .int (wI (σ 63 4)), .int (wI (σ (x1 + 1) 2)), .int (wI v23), .int (wI v44)] [] S σ156 τ Q
    obtain ⟨o58, t⟩ := t
    obtain ⟨r59, t⟩ := t
    obtain ⟨b60, t⟩ := t
    refine i5 c_46_53 rfl (i45 c_46_54 (fun _ => oT_0 hx1) (fun _ => oT_r0 hx1) (i3 c_46_57 rfl (i1 c_46_58 (i3 c_46_59 rfl ?_))))
    refine i80 (As := [.int (wI (σ (x1 + 1) 2)), .int (wI 1), .int (wI v23)]) (rest := []) c_46_61 mi_56 rfl rfl (Nat.le_of_ble_eq_true rfl) (Nat.le_of_ble_eq_true rfl) (fun _ => oT_1 hx1) (q_put (v2 := v23) (fun _ => o58) r59 b60 (by decide) rfl r42 ?_)
    show wi (d + 28) 46 64 [.ref 63, .ref x1, .int (wI (σ 63 4)), .int (wI (σ (x1 + 1) 2)), .int (wI v23), .int (wI v44)] [] S (uc σ156 (x1 + 2) (u1 (σ156 (x1 + 2)) ((σ (x1 + 1) 2) * 8 + 1) v23)) τ Q
    obtain ⟨w61, e62, r63, t⟩ := t
    refine i5 c_46_64 rfl (i45 c_46_65 (fun _ => oT_0 hx1) (fun _ => oT_r0 hx1) (i3 c_46_68 rfl (i1 c_46_69 (i3 c_46_70 rfl ?_))))
    refine i80 (As := [.int (wI (σ (x1 + 1) 2)), .int (wI 2), .int (wI v44)]) (rest := []) c_46_72 mi_56 rfl rfl (Nat.le_of_ble_eq_true rfl) (Nat.le_of_ble_eq_true rfl) (fun _ => oT_1 hx1) (q_put (v2 := w61) (fun _ => (oWl o58 (by have := oT_b hx1; have := oT_b hx1; omega))) r59 (show 0 ≤ σ (x1 + 1) 2 ∧ σ (x1 + 1) 2 < (uc σ156 (x1 + 2) (u1 (σ156 (x1 + 2)) ((σ (x1 + 1) 2) * 8 + 1) v23)) (x1 + 1) 2 by rw [(congrFun (uc_ns rfl (by have := oT_b hx1; have := oT_b hx1; omega)) _)]; exact b60) (by decide) e62 r63 ?_)
    show wi (d + 28) 46 75 [.ref 63, .ref x1, .int (wI (σ 63 4)), .int (wI (σ (x1 + 1) 2)), .int (wI v23), .int (wI v44)] [] S (uc (uc σ156 (x1 + 2) (u1 (σ156 (x1 + 2)) ((σ (x1 + 1) 2) * 8 + 1) v23)) (x1 + 2) (u1 ((uc σ156 (x1 + 2) (u1 (σ156 (x1 + 2)) ((σ (x1 + 1) 2) * 8 + 1) v23)) (x1 + 2)) ((σ (x1 + 1) 2) * 8 + 2) w61)) τ Q
    obtain ⟨T64, t⟩ := t
    obtain ⟨n65, t⟩ := t
    obtain ⟨s66, t⟩ := t
    obtain ⟨p67, t⟩ := t
    obtain ⟨p68, t⟩ := t
    obtain ⟨p69, t⟩ := t
    refine wi_s (σ1 := uc σ156 (x1 + 2) (u1 (u1 (σ156 (x1 + 2)) ((σ (x1 + 1) 2) * 8 + 1) v23) ((σ (x1 + 1) 2) * 8 + 2) w61)) (wr_ (uc_s _ _ _) (uc_uc _ _ _ _)) (i5 c_46_75 rfl (i45 c_46_76 (fun _ => oT_0 hx1) (fun _ => oT_r0 hx1) (i3 c_46_79 rfl (i1 c_46_80 (i5 c_46_81 rfl (i1 c_46_82 (i1 c_46_83 ?_)))))))
    refine i80 (As := [.int (wI 0), .int (wI 80)]) (rest := [.int (wI 3), .int (wI (σ (x1 + 1) 2)), .ref (x1 + 1)]) c_46_85 mi_45 rfl rfl (Nat.le_of_ble_eq_true rfl) (Nat.le_of_ble_eq_true rfl) (lo (c := 63) (kd := 103) (n := 0) rfl (by decide)) (q_45 (T := T64) (n := n65) (s := s66) p67 p68 (by decide) (by decide) p69 (fun v70 σ171 q72 q73 q74 q75 => ?_))
    have t := t v70 σ171 q72 q73 q74 q75
    show wi (d + 28) 46 88 [.ref 63, .ref x1, .int (wI (σ 63 4)), .int (wI (σ (x1 + 1) 2)), .int (wI v23), .int (wI v44)] [.int (wI v70), .int (wI 3), .int (wI (σ (x1 + 1) 2)), .ref (x1 + 1)] S σ171 τ Q
    obtain ⟨o76, t⟩ := t
    obtain ⟨b77, t⟩ := t
    obtain ⟨w78, e79, r80, t⟩ := t
    refine i80 (As := [.int (wI (σ (x1 + 1) 2)), .int (wI 3), .int (wI v70)]) (rest := []) c_46_88 mi_56 rfl rfl (Nat.le_of_ble_eq_true rfl) (Nat.le_of_ble_eq_true rfl) (fun _ => oT_1 hx1) (q_put (v2 := w78) (fun _ => o76) r59 b77 (by decide) e79 r80 ?_)
    show wi (d + 28) 46 91 [.ref 63, .ref x1, .int (wI (σ 63 4)), .int (wI (σ (x1 + 1) 2)), .int (wI v23), .int (wI v44)] [] S (uc σ171 (x1 + 2) (u1 (σ171 (x1 + 2)) ((σ (x1 + 1) 2) * 8 + 3) w78)) τ Q
    obtain ⟨T81, t⟩ := t
    obtain ⟨n82, t⟩ := t
    obtain ⟨s83, t⟩ := t
    obtain ⟨p84, t⟩ := t
    obtain ⟨p85, t⟩ := t
    obtain ⟨p86, t⟩ := t
    refine i38 c_46_91 rfl (i5 c_46_122 rfl (i1 c_46_123 ?_))
    refine i80 (As := [.int (wI 36)]) (rest := []) c_46_125 mi_44 rfl rfl (Nat.le_of_ble_eq_true rfl) (Nat.le_of_ble_eq_true rfl) (lo (c := 63) (kd := 103) (n := 0) rfl (by decide)) (q_44 (T := T81) (n := n82) (s := s83) p84 p85 (by decide) p86 (fun σ187 q88 => ?_))
    have t := t σ187 q88
    show wi (d + 28) 46 128 [.ref 63, .ref x1, .int (wI (σ 63 4)), .int (wI (σ (x1 + 1) 2)), .int (wI v23), .int (wI v44)] [] S σ187 τ Q
    exact i94 c_46_128 t
set_option maxRecDepth 20000 in
theorem u_46_116 {d : Nat} {S : zS} {σ τ : zI} {Q : zQ} {x1 : Nat} {x2 : Int} {x3 : Int} {y4 : Value} {y5 : Value} {s1 : Int} {s2 : Int} {s4 : Int} {s5 : Int} (hx1 : oT S x1) (t : ∃ T1 : Int → Int, ∃ n2 : Int, ∃ s3 : Int, (CR T1 n2 s3 σ ∨ CFS σ) ∧ (TB T1 n2) ∧ (rg s4) ∧ (rg s5) ∧ (CR T1 n2 s3 σ → (0 : Int) ≤ s4 ∧ s5 ≤ (9999 : Int)) ∧ ∀ (v9 : Int) (σ110 : zI), rg v9 → CK σ σ110 → (CFS σ → σ110 = σ) → (CR T1 n2 s3 σ → ((numO T1 n2 s4 s5 0 s3).1 = 0 → CR T1 n2 (nx T1 n2 s3) σ110 ∧ v9 = nm T1 n2 s3) ∧ ((numO T1 n2 s4 s5 0 s3).1 ≠ 0 → CD (numO T1 n2 s4 s5 0 s3).1 (numO T1 n2 s4 s5 0 s3).2.1 σ110)) → (oW S σ110 (x1 + 1) 8 192) ∧ (rg s1) ∧ (0 ≤ s2 ∧ s2 < 8 ∧ s2 < 1000) ∧ (0 ≤ s1 ∧ s1 < (σ110 (x1 + 1) 2)) ∧ ∃ w19 : Int, wI w19 = wI v9 ∧ rg w19 ∧ ∃ T22 : Int → Int, ∃ n23 : Int, ∃ s24 : Int, (CR T22 n23 s24 (uc σ110 (x1 + 2) (u1 (σ110 (x1 + 2)) (s1 * 8 + s2) w19)) ∨ CFS (uc σ110 (x1 + 2) (u1 (σ110 (x1 + 2)) (s1 * 8 + s2) w19))) ∧ (CR T22 n23 s24 (uc σ110 (x1 + 2) (u1 (σ110 (x1 + 2)) (s1 * 8 + s2) w19)) → (1 : Int) ≠ 36) ∧ (TB T22 n23) ∧ ∀ (σ128 : zI), XP T22 n23 s24 36 (uc σ110 (x1 + 2) (u1 (σ110 (x1 + 2)) (s1 * 8 + s2) w19)) σ128 → Q none S σ128 τ) : wi (d + 28) 46 116 [.ref 63, .ref x1, .int (wI x2), .int (wI x3), y4, y5] [.int (wI s5), .int (wI s4), .ref 63, .int (wI s2), .int (wI s1), .ref (x1 + 1)] S σ τ Q := by
  obtain ⟨T1, t⟩ := t
  obtain ⟨n2, t⟩ := t
  obtain ⟨s3, t⟩ := t
  obtain ⟨p4, t⟩ := t
  obtain ⟨p5, t⟩ := t
  obtain ⟨r6, t⟩ := t
  obtain ⟨r7, t⟩ := t
  obtain ⟨p8, t⟩ := t
  refine i80 (As := [.int (wI s4), .int (wI s5)]) (rest := [.int (wI s2), .int (wI s1), .ref (x1 + 1)]) c_46_116 mi_45 rfl rfl (Nat.le_of_ble_eq_true rfl) (Nat.le_of_ble_eq_true rfl) (lo (c := 63) (kd := 103) (n := 0) rfl (by decide)) (q_45 (T := T1) (n := n2) (s := s3) p4 p5 r6 r7 p8 (fun v9 σ110 q11 q12 q13 q14 => ?_))
  have t := t v9 σ110 q11 q12 q13 q14
  show wi (d + 28) 46 119 [.ref 63, .ref x1, .int (wI x2), .int (wI x3), y4, y5] [.int (wI v9), .int (wI s2), .int (wI s1), .ref (x1 + 1)] S σ110 τ Q
  obtain ⟨o15, t⟩ := t
  obtain ⟨r16, t⟩ := t
  obtain ⟨k17, t⟩ := t
  obtain ⟨b18, t⟩ := t
  obtain ⟨w19, e20, r21, t⟩ := t
  refine i80 (As := [.int (wI s1), .int (wI s2), .int (wI v9)]) (rest := []) c_46_119 mi_56 rfl rfl (Nat.le_of_ble_eq_true rfl) (Nat.le_of_ble_eq_true rfl) (fun _ => oT_1 hx1) (q_put (v2 := w19) (fun _ => o15) r16 b18 k17 e20 r21 ?_)
  show wi (d + 28) 46 122 [.ref 63, .ref x1, .int (wI x2), .int (wI x3), y4, y5] [] S (uc σ110 (x1 + 2) (u1 (σ110 (x1 + 2)) (s1 * 8 + s2) w19)) τ Q
  obtain ⟨T22, t⟩ := t
  obtain ⟨n23, t⟩ := t
  obtain ⟨s24, t⟩ := t
  obtain ⟨p25, t⟩ := t
  obtain ⟨p26, t⟩ := t
  obtain ⟨p27, t⟩ := t
  refine i5 c_46_122 rfl (i1 c_46_123 ?_)
  refine i80 (As := [.int (wI 36)]) (rest := []) c_46_125 mi_44 rfl rfl (Nat.le_of_ble_eq_true rfl) (Nat.le_of_ble_eq_true rfl) (lo (c := 63) (kd := 103) (n := 0) rfl (by decide)) (q_44 (T := T22) (n := n23) (s := s24) p25 p26 (by decide) p27 (fun σ128 q29 => ?_))
  have t := t σ128 q29
  show wi (d + 28) 46 128 [.ref 63, .ref x1, .int (wI x2), .int (wI x3), y4, y5] [] S σ128 τ Q
  exact i94 c_46_128 t
theorem q_46 {d : Nat} {S : zS} {σ τ : zI} {Q : zQ} {x : Nat} {T : Int → Int} {n : Int} {s : Int} {m : Int} {q : Int} (hx : oT S x) (p0 : CR T n s σ) (p1 : TB T n) (p2 : 6 ≤ tk T n s ∧ tk T n s ≤ 9) (p3 : σ (x + 1) 0 = 8) (p4 : σ (x + 1) 2 = m ∧ 0 ≤ m ∧ m < 24) (p5 : 0 ≤ σ x 2 ∧ σ x 2 ≤ 300) (t : ∀ (σ1 : zI), CLS x T n m q s σ σ1 → Q none S σ1 τ) : wc (d + 28) 46 [.ref 63, .ref x] S σ τ Q := by
  obtain ⟨pm, pm0, pm1⟩ := p4
  have xb := oT_b hx
  have c4 := (CR_b p0).2.2.1
  refine wc_of mi_46 rfl (u_46_0 hx ?_)
  rw [c4, pm]
  refine ⟨CL_w hx (m := m) CL_0 p3 (by omega), by omega, by omega, fun σ1 op => ?_⟩
  have cr1 : CR T n s σ1 := CR_f p0 (fun c h1 h2 => op.1 c (by omega) (by omega) (by omega))
  refine ⟨T, n, s, Or.inl cr1, fun _ => by omega, p1, fun σ2 xp => ?_⟩
  have st := srt_t (t := tk T n s) (by omega)
  obtain ⟨R, hR⟩ : ∃ R, R = clsO T n m q (σ x 2) s := ⟨_, rfl⟩
  have g2 : GSt T n (nx T n s) σ2 R (bnd (bodyO T n q (σ x 2) (tk T n s) (nx T n s)) (nedO T n 36)) True := Or.inl ⟨(xp.2.2 cr1).1 rfl, by rw [hR]; exact cl_sm (by omega) st.1, trivial⟩
  have cl2 : CL x m σ1 σ2 := CL_k (by omega) xp.1
  have cw2 : CW x σ1 σ2 [] := CW_k (by omega) xp.1
  have e2 : σ2 (x + 2) = σ1 (x + 2) := xp.1.1 _ (by omega)
  have o8 : σ1 (x + 1) 0 = 8 := by rw [op.2.1, u1_n (by decide)]; exact p3
  have o2 : σ1 (x + 1) 2 = m + 1 := by rw [op.2.1, u1_s, pm]
  have oW_ : ∀ σ', CL x m σ1 σ' → oW S σ' (x + 1) 8 192 := fun σ' cl => CL_w hx cl o8 (by omega)
  have oC : ∀ σ', CL x m σ1 σ' → 0 ≤ m ∧ m < σ' (x + 1) 2 := fun σ' cl => by rw [cl.1 (x + 1) (by omega) (by omega) (by omega) (by omega), o2]; omega
  have r0 : σ1 (x + 2) (m * 8 + 0) = tk T n s := by
    have := op.2.2.2.1
    rw [pm] at this
    rw [show m * 8 + 0 = 8 * m by omega, this]
  have b2 : σ1 x 2 = σ x 2 := by rw [op.2.2.2.2, u1_n (by decide)]
  have b3 : σ1 (x + 3) = σ (x + 3) := op.1 _ (by omega) (by omega) (by omega)
  have fin : ∀ σ', CL x m σ1 σ' → (R.1 = 0 → CR T n R.2.1 σ' ∧ CW x σ1 σ' R.2.2.1 ∧ ∀ g, TC (σ' (x + 2)) m (wrs g R.2.2.2) q) → (R.1 ≠ 0 → CD R.1 R.2.1 σ') → Q none S σ' τ := fun σ' cl ok er => t σ' ⟨CLS_f (by omega) rfl pm p5 op cl, by rw [← hR]; exact fun z => ⟨(ok z).1, CW_o (ok z).2.1 b2 b3, (ok z).2.2⟩, by rw [← hR]; exact er⟩
  have g116 : ∀ (hi : Int) (y4 y5 : Value), 0 ≤ hi ∧ hi ≤ 9999 → bodyO T n q (σ x 2) (tk T n s) (nx T n s) = numO T n 0 hi (q + 1) (nx T n s) → tk T n s ≠ 7 → wi (d + 28) 46 116 [.ref 63, .ref x, .int (wI (tk T n s)), .int (wI m), y4, y5] [.int (wI hi), .int (wI 0), .ref 63, .int (wI 1), .int (wI m), .ref (x + 1)] S σ2 τ Q := by
    intro hi y4 y5 hh hb n7
    rw [hb] at g2
    refine u_46_116 hx ⟨T, n, nx T n s, GS_c g2, p1, by omega, by omega, fun _ => by omega, fun v σ3 rv ck3 fs3 p3' => ?_⟩
    have g3 := GS_num g2 fs3 p3'
    have cl3 := CL_t cl2 (CL_k (m := m) (x := x) (by omega) ck3)
    have cw3 := CW_t cw2 (CW_k (x := x) (by omega) ck3)
    have e3 : σ3 (x + 2) = σ1 (x + 2) := (ck3.1 _ (by omega)).trans e2
    have g3' := GS_u (σ1 := uc σ3 (x + 2) (u1 (σ3 (x + 2)) (m * 8 + 1) v)) g3 (fun c h1 h2 => uc_n (by omega))
    have cl3' := CL_t cl3 (CL_u (x := x) (m := m) (k := m * 8 + 1) (v := v) (by omega) (by omega))
    refine ⟨oW_ σ3 cl3, by omega, by omega, oC σ3 cl3, v, rfl, rv, T, n, _, GS_c g3', fun _ => by decide, p1, fun σ4 xp4 => ?_⟩
    have cl4 := CL_t cl3' (CL_k (m := m) (x := x) (by omega) xp4.1)
    have cw4 := CW_t (CW_u (f := u1 (σ3 (x + 2)) (m * 8 + 1) v) cw3) (CW_k (x := x) (by omega) xp4.1)
    have e4 : σ4 (x + 2) = u1 (σ1 (x + 2)) (m * 8 + 1) v := by rw [xp4.1.1 _ (by omega), uc_s, e3]
    have ge := GS_end g3' xp4
    refine fin σ4 cl4 (fun z => ?_) ge.2
    obtain ⟨cr, ⟨_, ev, t2, lo, hi'⟩, e36, eR⟩ := ge.1 z
    have ec := cl_v (T := T) (n := n) (m := m) (q := q) (c := σ x 2) (s := s) (by omega) st.1 (hb.trans (nu_v t2 ⟨lo, hi'⟩)) e36
    rw [← hR] at ec
    refine ⟨cr, ?_, fun g => ?_⟩
    · rw [ec]; exact cw4
    · rw [ec]
      exact TC_6 (by omega) (by rw [e4, u1_n (by omega)]; exact r0) (by rw [e4, u1_s]; exact ev) g
  refine ifI (fun h7 => ?_) (fun h7 => ifI (fun h6 => g116 9999 _ _ (by omega) (by rw [h6]; exact bo_6) h7) (fun h6 => g116 20 _ _ (by omega) (bo_8 (by omega)) h7))
  rw [h7, bo_7] at g2
  have g2' := GS_m g2 (fun _ => SM_as)
  refine ⟨T, n, _, GS_c g2', p1, fun _ => by omega, fun v1 σ3 rv1 ck3 fs3 p3' => ?_⟩
  have g3 := GS_m (GS_num g2' fs3 p3') (fun _ => SM_as)
  have cl3 := CL_t cl2 (CL_k (m := m) (x := x) (by omega) ck3)
  have cw3 := CW_t cw2 (CW_k (x := x) (by omega) ck3)
  have e3 : σ3 (x + 2) = σ1 (x + 2) := (ck3.1 _ (by omega)).trans e2
  refine ⟨T, n, _, GS_c g3, fun _ => by decide, p1, fun σ4 xp4 => ?_⟩
  have g4 := GS_m (GS_exp g3 xp4) (fun _ => SM_as)
  have cl4 := CL_t cl3 (CL_k (m := m) (x := x) (by omega) xp4.1)
  have cw4 := CW_t cw3 (CW_k (x := x) (by omega) xp4.1)
  have e4 : σ4 (x + 2) = σ1 (x + 2) := (xp4.1.1 _ (by omega)).trans e3
  have g4' := GS_m (Y := bnd (numO T n v1 99 (q + 2) (nx T n (nx T n (nx T n s)))) _) g4 (fun F => by rw [F.1.2.1]; exact ⟨rfl, rfl⟩)
  refine ⟨T, n, _, GS_c g4', p1, rv1, fun cr => by have F := GS_l g4' cr; omega, fun v2 σ5 rv2 ck5 fs5 p5' => ?_⟩
  have g5 := GS_m (GS_num g4' fs5 p5') (fun _ => SM_as)
  have cl5 := CL_t cl4 (CL_k (m := m) (x := x) (by omega) ck5)
  have cw5 := CW_t cw4 (CW_k (x := x) (by omega) ck5)
  have e5 : σ5 (x + 2) = σ1 (x + 2) := (ck5.1 _ (by omega)).trans e4
  refine ⟨T, n, _, GS_c g5, fun _ => by decide, p1, fun σ6 xp6 => ?_⟩
  have g6 := GS_exp g5 xp6
  have cl6 := CL_t cl5 (CL_k (m := m) (x := x) (by omega) xp6.1)
  have cw6 := CW_t cw5 (CW_k (x := x) (by omega) xp6.1)
  have e6 : σ6 (x + 2) = σ1 (x + 2) := (xp6.1.1 _ (by omega)).trans e5
  have f7 : CL x m σ6 (uc σ6 (x + 2) (u1 (u1 (σ6 (x + 2)) (m * 8 + 1) v1) (m * 8 + 2) v2)) := by
    have a := CL_u (σ := σ6) (x := x) (m := m) (k := m * 8 + 1) (v := v1) (by omega) (by omega)
    have b := CL_u (σ := uc σ6 (x + 2) (u1 (σ6 (x + 2)) (m * 8 + 1) v1)) (x := x) (m := m) (k := m * 8 + 2) (v := v2) (by omega) (by omega)
    rw [uc_s, uc_uc] at b
    exact CL_t a b
  have cl7 := CL_t cl6 f7
  have g7 := GS_u (σ1 := uc σ6 (x + 2) (u1 (u1 (σ6 (x + 2)) (m * 8 + 1) v1) (m * 8 + 2) v2)) g6 (fun c h1 h2 => uc_n (by omega))
  have cw7 := CW_u (f := u1 (u1 (σ6 (x + 2)) (m * 8 + 1) v1) (m * 8 + 2) v2) cw6
  refine ⟨oW_ σ6 cl6, by omega, oC σ6 cl6, v2, rfl, rv2, T, n, _, GS_c g7, p1, fun _ => by omega, fun v3 σ8 rv3 ck8 fs8 p8' => ?_⟩
  have g8 := GS_num g7 fs8 p8'
  have cl8 := CL_t cl7 (CL_k (m := m) (x := x) (by omega) ck8)
  have cw8 := CW_t cw7 (CW_k (x := x) (by omega) ck8)
  have e8 : σ8 (x + 2) = u1 (u1 (σ1 (x + 2)) (m * 8 + 1) v1) (m * 8 + 2) v2 := by rw [ck8.1 _ (by omega), uc_s, e6]
  have g8' := GS_u (σ1 := uc σ8 (x + 2) (u1 (σ8 (x + 2)) (m * 8 + 3) v3)) g8 (fun c h1 h2 => uc_n (by omega))
  have cl8' := CL_t cl8 (CL_u (x := x) (m := m) (k := m * 8 + 3) (v := v3) (by omega) (by omega))
  refine ⟨oW_ σ8 cl8, oC σ8 cl8, v3, rfl, rv3, T, n, _, GS_c g8', fun _ => by decide, p1, fun σ9 xp9 => ?_⟩
  have cl9 := CL_t cl8' (CL_k (m := m) (x := x) (by omega) xp9.1)
  have cw9 := CW_t (CW_u (f := u1 (σ8 (x + 2)) (m * 8 + 3) v3) cw8) (CW_k (x := x) (by omega) xp9.1)
  have e9 : σ9 (x + 2) = u1 (u1 (u1 (σ1 (x + 2)) (m * 8 + 1) v1) (m * 8 + 2) v2) (m * 8 + 3) v3 := by rw [xp9.1.1 _ (by omega), uc_s, e8]
  have ge := GS_end g8' xp9
  refine fin σ9 cl9 (fun z => ?_) ge.2
  obtain ⟨cr, ⟨⟨⟨⟨⟨_, a1, a2, a3, a4⟩, w12⟩, b1, b2', b3', b4⟩, w13⟩, d1, d2, d3, d4⟩, e36, eR⟩ := ge.1 z
  have ec := cl_v (T := T) (n := n) (m := m) (q := q) (c := σ x 2) (s := s) (by omega) st.1 (by rw [h7, bo_7]; exact ag_v ⟨a2, a3, a4⟩ w12 ⟨b2', by omega, b4⟩ w13 ⟨d2, d3, d4⟩) e36
  rw [← hR, h7] at ec
  refine ⟨cr, ?_, fun g => ?_⟩
  · rw [ec]; exact cw9
  · rw [ec]
    exact TC_7 (by rw [e9, u1_n (by omega), u1_n (by omega), u1_n (by omega), r0, h7]) (by rw [e9, u1_n (by omega), u1_n (by omega), u1_s, a1]) (by rw [e9, u1_n (by omega), u1_s, b1]) (by rw [e9, u1_s, d1]) g
