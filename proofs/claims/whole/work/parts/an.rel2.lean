/-! ===== both side by side: tapes, TEXTS, WEEKS, sheets, images (segments printed by wip/whole, contracts own work) ===== -/
theorem zand_b {x m : Int} (hm : m = 63 ∨ m = 255) : 0 ≤ zand x m ∧ zand x m ≤ m := by
  have key : (wI m).toBitVec.toNat = m.toNat := by rcases hm with rfl | rfl <;> decide
  unfold zand
  have h : (wI x &&& wI m).toBitVec.toNat ≤ m.toNat := by
    rw [Int32.toBitVec_and, BitVec.toNat_and, key]
    exact Nat.and_le_right
  have e : (wI x &&& wI m).toInt = ((wI x &&& wI m).toBitVec.toNat : Int) := by
    show (wI x &&& wI m).toBitVec.toInt = _
    exact BitVec.toInt_eq_toNat_of_lt (by omega)
  omega
theorem TB_four {T : Int → Int} {n v : Int} (h : TB T n) (hn : n + 4 ≤ 300) : TB (r_four T n v) (n + 4) := by
  have b := fun s => zand_b (x := zshr v s) (m := 255) (Or.inr rfl)
  refine ⟨by omega, fun k k0 k1 => ?_⟩
  unfold r_four
  by_cases e3 : k = n + 1 + 1 + 1
  · subst e3; rw [u1_s]; exact b _
  rw [u1_n e3]
  by_cases e2 : k = n + 1 + 1
  · subst e2; rw [u1_s]; exact b _
  rw [u1_n e2]
  by_cases e1 : k = n + 1
  · subst e1; rw [u1_s]; exact b _
  rw [u1_n e1]
  by_cases e0 : k = n
  · subst e0; rw [u1_s]; exact b _
  rw [u1_n e0]
  exact h.2 k k0 (by omega)
theorem TB_feed {T : Int → Int} {n a b c d e : Int} (h : TB T n) (hn : n + 20 ≤ 300) : TB (r_feed T n a b c d e) (n + 20) := by
  have q := TB_four (v := e) (TB_four (v := d) (TB_four (v := c) (TB_four (v := b) (TB_four (v := a) h (by omega)) (by omega)) (by omega)) (by omega)) (by omega)
  rw [show n + 20 = n + 4 + 4 + 4 + 4 + 4 by omega]
  exact q
section RL2
variable {S S1 : zS} {σ σ1 σ2 τ : zI} {j : Int} {a a' : Int → Int} {t : Nat}
/-- towns and what is shown of them stay -/
theorem REL_w (R : REL S σ j) (f : ∀ c, (2 ≤ c ∧ c ≤ 35) ∨ c = 84 ∨ c = 85 ∨ 100 ≤ c → σ2 c = σ c) (h1 : σ2 82 = σ2 87 ∧ σ2 1 11 = σ2 83 4 ∧ TB (σ2 87) (σ2 83 4)) (h2 : σ2 63 5 = σ2 83 5 ∧ σ2 63 6 = σ2 83 6) (h3 : σ2 79 2 = σ2 83 42 ∧ -1 ≤ σ2 83 42 ∧ σ2 80 = σ2 99) : REL S σ2 (j + 1) := by
  obtain ⟨⟨m1, m2, m3, m4⟩, _, _, _, z1, z2, z3⟩ := R
  refine ⟨?_, h1, h2, h3, z1, fun k i hk hi => ?_, z3⟩
  · rw [f 84 (by omega), f 85 (by omega)]
    exact ⟨MX_j (MX_cells (fun c c0 _ => f c (by omega)) (fun c c0 c1 => f c (by omega)) m1) (by omega), MX_j (MX_cells (fun c c0 _ => f c (by omega)) (fun c c0 c1 => f c (by omega)) m2) (by omega), m3, m4⟩
  · have o := oT_b (z1.1 k i hk hi)
    rw [f (i + 1) (by omega)]
    exact z2 k i hk hi
theorem MX_A (e : eA a a') (h : MX S σ t a j) : MX S σ t a' j := by
  obtain ⟨h1, h2, h3, h4, h5, h6⟩ := h
  have w := WP_A e h4
  have hc := jC h4.1
  exact ⟨RT_A e hc h1, RX_x (eV_T (eA_V e)) h4.2.1 h2, BX_x (eV_T (eA_V e)) hc h3, w.1, by rw [w.2]; exact h5, by rw [e 6 (by omega) (by omega)]; exact h6⟩
theorem MX_gw {tn : Nat} {lo : Int} (m : MX S σ t a j) (g : GW S S1 σ σ1 tn lo) (zb : zB S1) (h0 : a 0 ≤ lo) (htn : tn ≤ 36) (ht : t + 16 < tn ∨ tn + 16 < t) (hs : t ≤ 19) (s : 100 ≤ S.1) : MX S1 σ1 t a j := by
  obtain ⟨m1, m2, m3, m4⟩ := m
  have hc := jC m4.1.1
  unfold jv_C at hc
  refine ⟨RT_σ (fun c c0 c1 => g.2.1 c (by omega) (by omega) (by omega) (fun w y w0 w1 hy => ?_)) m1, RX_gw m2 g zb s htn, BX_gw m3 g zb (by omega) s htn, m4⟩
  have := oB_b (zb.1 w.toNat y (by omega) hy)
  omega
/-- WEEKS that go by leave the class's small cells -/
theorem gw_c {tn : Nat} {lo : Int} (g : GW S S1 σ σ1 tn lo) (zb : zB S1) (s : 100 ≤ S.1) {c : Nat} (h1 : c < 53 ∨ 62 < c ∧ c < 100) (h2 : c < tn ∨ tn + 16 < c) (h0 : 0 ≤ lo) : σ1 c = σ c := g.2.1 c (by omega) (by omega) h2 (fun w y w0 w1 hy => by
  have := oB_b (zb.1 w.toNat y (by omega) hy)
  omega)
theorem zT_gw {tn : Nat} {lo : Int} (z : zT S) (g : GW S S1 σ σ1 tn lo) (s : 100 ≤ S.1) : zT S1 := by
  have r := g.1.2.2.1
  refine ⟨fun k i hk hi => ?_, fun k k' i hk hk' hi hi' => ?_⟩
  · rw [r 55 k (by omega) (by omega)] at hi
    exact oT_gw g (z.1 k i hk hi)
  · rw [r 55 k (by omega) (by omega)] at hi
    rw [r 55 k' (by omega) (by omega)] at hi'
    exact z.2 k k' i hk hk' hi hi'
theorem z8_gw {tn : Nat} {lo : Int} (z : zT S) (g : GW S S1 σ σ1 tn lo) (zb : zB S1) (s : 100 ≤ S.1) (htn : tn ≤ 36) (h0 : 0 ≤ lo) (z8 : ∀ k j, k < 20 → S.2.2.2 55 k = some j → σ (j + 1) 0 = 8) : ∀ k j, k < 20 → S1.2.2.2 55 k = some j → σ1 (j + 1) 0 = 8 := fun k i hk hi => by
  rw [g.1.2.2.1 55 k (by omega) (by omega)] at hi
  have o := z.1 k i hk hi
  have b := oT_b o
  have l := (oT_1 o).2.1
  have o1 := oT_gw g o
  rw [g.2.1 (i + 1) l (by omega) (by omega) (fun w y w0 w1 hy => by
    have := oBT_dj (zb.1 w.toNat y (by omega) hy) o1
    omega)]
  exact z8 k i hk hi
theorem PT_B (h : WP a) : PT a ≤ PB a := by
  have hc := jC h.1
  unfold jv_C at hc
  unfold PB
  omega
section PRN
variable {v1 v2 v3 v4 v5 : Int}
theorem pr_feed (R : REL S σ j) (r1 : rg v1) (r2 : rg v2) (r3 : rg v3) (r4 : rg v4) (r5 : rg v5) : PairC S σ τ j 156 226 [.int (wI v1), .int (wI v2), .int (wI v3), .int (wI v4), .int (wI v5)] := by
  obtain ⟨t1, t2, t3⟩ := R.2.1
  have h2 := R.2.2.1
  have h3 := R.2.2.2.1
  refine q_156 r1 r2 r3 r4 r5 (by rw [t2]; exact t3.1) (fun σ1 f1 f2 f3 => ⟨_, rfl, ⟨f3 0 (by decide) (by decide), rfl⟩, ?_⟩)
  have e83 : σ1 83 = σ 83 := f3 83 (by decide) (by decide)
  have e87 : σ1 87 = σ 87 := f3 87 (by decide) (by decide)
  refine q_226 r1 r2 r3 r4 r5 (by rw [e83]; exact t3.1) (fun σ2 g1 g2 g3 => ?_)
  rw [e83, e87] at g1
  rw [e83] at g2 ⊢
  rw [t1, t2] at f1
  rw [t2] at f2 ⊢
  have d : ∀ c, c ≠ 1 → c ≠ 82 → c ≠ 83 → c ≠ 87 → σ2 c = σ c := fun c h1 h2 h3 h4 => (g3 c h3 h4).trans (f3 c h1 h2)
  have d63 : σ2 63 = σ 63 := d 63 (by decide) (by decide) (by decide) (by decide)
  have k83 : ∀ k, k ≠ 4 → σ2 83 k = σ 83 k := fun k hk => by
    rw [g2]
    split
    · rw [u1_n hk]
    · rfl
  refine ⟨rfl, REL_w R (fun c hc => d c (by omega) (by omega) (by omega) (by omega)) ⟨?_, ?_, ?_⟩ ⟨?_, ?_⟩ ⟨?_, ?_, ?_⟩, d 0 (by decide) (by decide) (by decide) (by decide), rfl⟩
  · rw [g3 82 (by decide) (by decide), f1, g1]
  · rw [g3 1 (by decide) (by decide), f2, g2]
    split
    · rw [u1_s, u1_s]
    · exact t2
  · rw [g1, g2]
    by_cases c : σ 83 4 + 20 ≤ 300
    · rw [if_pos c, if_pos c, u1_s]; exact TB_feed t3 c
    · rw [if_neg c, if_neg c]; exact t3
  · rw [d63, k83 5 (by decide)]; exact h2.1
  · rw [d63, k83 6 (by decide)]; exact h2.2
  · rw [d 79 (by decide) (by decide) (by decide) (by decide), k83 42 (by decide)]; exact h3.1
  · rw [k83 42 (by decide)]; exact h3.2.1
  · rw [d 80 (by decide) (by decide) (by decide) (by decide), d 99 (by decide) (by decide) (by decide) (by decide)]; exact h3.2.2
theorem pr_end (R : REL S σ j) (r1 : rg v1) : PairC S σ τ j 158 227 [.int (wI v1)] := by
  obtain ⟨t1, t2, t3⟩ := R.2.1
  have h2 := R.2.2.1
  have h3 := R.2.2.2.1
  refine q_158 r1 ⟨_, rfl, ⟨uc_n (by decide), rfl⟩, q_227 r1 ?_⟩
  rw [uc_n (show (83 : Nat) ≠ 1 by decide), t2]
  refine ⟨rfl, REL_w R (fun c hc => by rw [uc_n (by omega), uc_n (by omega)]) ⟨?_, ?_, ?_⟩ ⟨?_, ?_⟩ ⟨?_, ?_, ?_⟩, by rw [uc_n (by decide), uc_n (by decide)], rfl⟩
  · rw [uc_n (by decide), uc_n (by decide), uc_n (by decide), uc_n (by decide)]; exact t1
  · rw [uc_n (by decide), uc_s, u1_s, uc_s, u1_s]
  · rw [uc_n (by decide), uc_n (by decide), uc_s, u1_s]
    split
    · exact ⟨by omega, fun k k0 k1 => t3.2 k k0 (by omega)⟩
    · exact t3
  · rw [uc_n (by decide), uc_n (by decide), uc_s, u1_n (by decide)]; exact h2.1
  · rw [uc_n (by decide), uc_n (by decide), uc_s, u1_n (by decide)]; exact h2.2
  · rw [uc_n (by decide), uc_n (by decide), uc_s, u1_n (by decide)]; exact h3.1
  · rw [uc_s, u1_n (by decide)]; exact h3.2.1
  · rw [uc_n (by decide), uc_n (by decide), uc_n (by decide), uc_n (by decide)]; exact h3.2.2
theorem pr_sheet (R : REL S σ j) (r1 : rg v1) : PairC S σ τ j 187 319 [.int (wI v1)] := by
  obtain ⟨m1, m2, m3, m4, m5, m6⟩ := REL_1 R
  have hc := jC m4.1
  have h1 := R.2.1
  have h2 := R.2.2.1
  have h3 := R.2.2.2.1
  refine q_187 (a := σ 84) m1 m3 m4.1 m4.2.2.2.2.1 r1 ⟨_, rfl, ⟨by rw [uc_n (by decide), uc_n (by decide)], rfl⟩, ?_⟩
  obtain ⟨σ1, hσ1⟩ : ∃ σ1, σ1 = uc (uc σ 79 (if 0 ≤ v1 ∧ v1 < σ 84 0 then u1 (σ 79) 2 v1 else σ 79)) 80 (if 0 ≤ v1 ∧ v1 < σ 84 0 then fg (r_sh (σ 84) v1) (σ 80) 192 else σ 80) := ⟨_, rfl⟩
  rw [← hσ1]
  have f1 : ∀ c, c ≠ 79 → c ≠ 80 → σ1 c = σ c := fun c c1 c2 => by rw [hσ1, uc_n c2, uc_n c1]
  have e79 : σ1 79 = (if 0 ≤ v1 ∧ v1 < σ 84 0 then u1 (σ 79) 2 v1 else σ 79) := by rw [hσ1, uc_n (by decide), uc_s]
  have e80 : σ1 80 = (if 0 ≤ v1 ∧ v1 < σ 84 0 then fg (r_sh (σ 84) v1) (σ 80) 192 else σ 80) := by rw [hσ1, uc_s]
  have e84 := f1 84 (by decide) (by decide)
  refine q_319 r1 (by rw [e84]; exact hc) ?_
  rw [e84, f1 83 (by decide) (by decide), f1 99 (by decide) (by decide)]
  refine ⟨rfl, REL_w R (fun c hc => by rw [uc_n (by omega), uc_n (by omega)]; exact f1 c (by omega) (by omega)) ⟨?_, ?_, ?_⟩ ⟨?_, ?_⟩ ⟨?_, ?_, ?_⟩, by rw [uc_n (by decide), uc_n (by decide)]; exact f1 0 (by decide) (by decide), rfl⟩
  · rw [uc_n (by decide), uc_n (by decide), uc_n (by decide), uc_n (by decide), f1 82 (by decide) (by decide), f1 87 (by decide) (by decide)]; exact h1.1
  · rw [uc_n (show (1 : Nat) ≠ 99 by decide), uc_n (show (1 : Nat) ≠ 83 by decide), uc_n (show (83 : Nat) ≠ 99 by decide), uc_s, f1 1 (by decide) (by decide)]
    split
    · rw [u1_n (by decide)]; exact h1.2.1
    · exact h1.2.1
  · rw [uc_n (show (87 : Nat) ≠ 99 by decide), uc_n (show (87 : Nat) ≠ 83 by decide), uc_n (show (83 : Nat) ≠ 99 by decide), uc_s, f1 87 (by decide) (by decide)]
    split
    · rw [u1_n (by decide)]; exact h1.2.2
    · exact h1.2.2
  · rw [uc_n (show (63 : Nat) ≠ 99 by decide), uc_n (show (63 : Nat) ≠ 83 by decide), uc_n (show (83 : Nat) ≠ 99 by decide), uc_s, f1 63 (by decide) (by decide)]
    split
    · rw [u1_n (by decide)]; exact h2.1
    · exact h2.1
  · rw [uc_n (show (63 : Nat) ≠ 99 by decide), uc_n (show (63 : Nat) ≠ 83 by decide), uc_n (show (83 : Nat) ≠ 99 by decide), uc_s, f1 63 (by decide) (by decide)]
    split
    · rw [u1_n (by decide)]; exact h2.2
    · exact h2.2
  · rw [uc_n (show (79 : Nat) ≠ 99 by decide), uc_n (show (79 : Nat) ≠ 83 by decide), uc_n (show (83 : Nat) ≠ 99 by decide), uc_s, e79]
    by_cases c : 0 ≤ v1 ∧ v1 < σ 84 0
    · rw [if_pos c, if_pos c, u1_s, u1_s]
    · rw [if_neg c, if_neg c]; exact h3.1
  · rw [uc_n (show (83 : Nat) ≠ 99 by decide), uc_s]
    by_cases c : 0 ≤ v1 ∧ v1 < σ 84 0
    · rw [if_pos c, u1_s]; omega
    · rw [if_neg c]; exact h3.2.1
  · rw [uc_n (show (80 : Nat) ≠ 99 by decide), uc_n (show (80 : Nat) ≠ 83 by decide), uc_s, e80, h3.2.2]
theorem pr_alter (R : REL S σ j) (r1 : rg v1) (r2 : rg v2) (r3 : rg v3) : PairC S σ τ j 189 322 [.int (wI v1), .int (wI v2), .int (wI v3)] := by
  have h1 := R.2.1
  have h2 := R.2.2.1
  have h3 := R.2.2.2.1
  refine q_189 r1 r2 r3 ⟨_, rfl, ⟨by rw [uc_n (by decide)], rfl⟩, ?_⟩
  obtain ⟨σ1, hσ1⟩ : ∃ σ1, σ1 = uc σ 80 (if ((0 ≤ v1 ∧ v1 ≤ 7) ∧ (0 ≤ v2 ∧ v2 ≤ 23)) ∧ ¬ σ 79 2 = -1 ∧ v3 ≠ 0 then u1 (σ 80) (v1 * 24 + v2) (zxor (σ 80 (v1 * 24 + v2)) v3) else σ 80) := ⟨_, rfl⟩
  rw [← hσ1]
  have f1 : ∀ c, c ≠ 80 → σ1 c = σ c := fun c c2 => by rw [hσ1, uc_n c2]
  have e80 : σ1 80 = (if ((0 ≤ v1 ∧ v1 ≤ 7) ∧ (0 ≤ v2 ∧ v2 ≤ 23)) ∧ ¬ σ 79 2 = -1 ∧ v3 ≠ 0 then u1 (σ 80) (v1 * 24 + v2) (zxor (σ 80 (v1 * 24 + v2)) v3) else σ 80) := by rw [hσ1, uc_s]
  refine q_322 r1 r2 r3 ?_
  rw [f1 83 (by decide), f1 99 (by decide)]
  have cc : (((0 ≤ v1 ∧ v1 ≤ 7) ∧ (0 ≤ v2 ∧ v2 ≤ 23)) ∧ 0 ≤ σ 83 42 ∧ v3 ≠ 0) ↔ (((0 ≤ v1 ∧ v1 ≤ 7) ∧ (0 ≤ v2 ∧ v2 ≤ 23)) ∧ ¬ σ 79 2 = -1 ∧ v3 ≠ 0) := by
    constructor
    · rintro ⟨q1, q2, q3⟩; exact ⟨q1, by omega, q3⟩
    · rintro ⟨q1, q2, q3⟩; exact ⟨q1, by omega, q3⟩
  refine ⟨by simp only [cc], REL_w R (fun c hc => by rw [uc_n (by omega)]; exact f1 c (by omega)) ⟨?_, ?_, ?_⟩ ⟨?_, ?_⟩ ⟨?_, ?_, ?_⟩, by rw [uc_n (by decide)]; exact f1 0 (by decide), rfl⟩
  · rw [uc_n (by decide), uc_n (by decide), f1 82 (by decide), f1 87 (by decide)]; exact h1.1
  · rw [uc_n (by decide), uc_n (by decide), f1 1 (by decide), f1 83 (by decide)]; exact h1.2.1
  · rw [uc_n (by decide), uc_n (by decide), f1 87 (by decide), f1 83 (by decide)]; exact h1.2.2
  · rw [uc_n (by decide), uc_n (by decide), f1 63 (by decide), f1 83 (by decide)]; exact h2.1
  · rw [uc_n (by decide), uc_n (by decide), f1 63 (by decide), f1 83 (by decide)]; exact h2.2
  · rw [uc_n (by decide), uc_n (by decide), f1 79 (by decide), f1 83 (by decide)]; exact h3.1
  · rw [uc_n (by decide), f1 83 (by decide)]; exact h3.2.1
  · rw [uc_n (by decide), uc_s, e80, h3.2.2, show v1 * 24 + v2 = 24 * v1 + v2 by omega]
    simp only [cc]
theorem pr_image (R : REL S σ j) : PairC S σ τ j 191 324 [] := by
  have m := REL_1 R
  obtain ⟨m1, m2, m3, m4, m5, m6⟩ := m
  obtain ⟨⟨k1, k2, k3, k4⟩, h1, h2, h3, z1, z2, z3⟩ := R
  refine q_191 (a := σ 84) m1 m4.1 (fun σ1 rt f => ⟨_, rfl, ⟨f 0 (by omega), rfl⟩, q_324 ?_⟩)
  have e84 := f 84 (by omega)
  rw [e84, f 85 (by omega)]
  have f' : ∀ c, (c < 19 ∨ 35 < c) → c ≠ 85 → uc σ1 85 (cpA (σ 84) (σ 85)) c = σ c := fun c c1 c2 => by rw [uc_n c2]; exact f c c1
  have ea := eA_c (σ 84) (σ 85)
  refine ⟨rfl, ?_, f' 0 (by omega) (by decide), rfl⟩
  unfold REL
  rw [uc_s, f' 84 (by omega) (by decide), f' 82 (by omega) (by decide), f' 87 (by omega) (by decide), f' 1 (by omega) (by decide), f' 83 (by omega) (by decide), f' 63 (by omega) (by decide), f' 79 (by omega) (by decide), f' 80 (by omega) (by decide), f' 99 (by omega) (by decide)]
  refine ⟨⟨MX_j (MX_cells (fun c c0 _ => f' c (by omega) (by omega)) (fun c c0 c1 => f' c (by omega) (by omega)) k1) (by omega), MX_A ea ⟨RT_σ (fun c c0 c1 => uc_n (by omega)) rt, RX_cells (fun c c0 _ => f' c (by omega) (by omega)) m2, BX_cells (fun c c0 _ => f' c (by omega) (by omega)) m3, m4, by omega, m6⟩, by rw [ea 0 (by omega) (by omega)]; exact Int.le_refl _, by rw [ea 5 (by omega) (by omega)]; exact Int.le_refl _⟩, h1, h2, h3, z1, fun k i hk hi => ?_, z3⟩
  have o := oT_b (z1.1 k i hk hi)
  rw [f' (i + 1) (by omega) (by omega)]
  exact z2 k i hk hi
theorem pr_back (R : REL S σ j) : PairC S σ τ j 192 325 [] := by
  obtain ⟨⟨k1, k2, k3, k4⟩, h1, h2, h3, z1, z2, z3⟩ := R
  obtain ⟨m1, m2, m3, m4, m5, m6⟩ := k2
  refine q_192 (a := σ 85) m1 m4.1 (fun σ1 rt f => ⟨_, rfl, ⟨f 0 (by omega), rfl⟩, q_325 ?_⟩)
  have e85 := f 85 (by omega)
  rw [e85, f 84 (by omega)]
  have f' : ∀ c, (c < 2 ∨ 18 < c) → c ≠ 84 → uc σ1 84 (cpA (σ 85) (σ 84)) c = σ c := fun c c1 c2 => by rw [uc_n c2]; exact f c c1
  have ea := eA_c (σ 85) (σ 84)
  refine ⟨rfl, ?_, f' 0 (by omega) (by decide), rfl⟩
  unfold REL
  rw [uc_s, f' 85 (by omega) (by decide), f' 82 (by omega) (by decide), f' 87 (by omega) (by decide), f' 1 (by omega) (by decide), f' 83 (by omega) (by decide), f' 63 (by omega) (by decide), f' 79 (by omega) (by decide), f' 80 (by omega) (by decide), f' 99 (by omega) (by decide)]
  refine ⟨⟨MX_A ea ⟨RT_σ (fun c c0 c1 => uc_n (by omega)) rt, RX_cells (fun c c0 _ => f' c (by omega) (by omega)) m2, BX_cells (fun c c0 _ => f' c (by omega) (by omega)) m3, m4, by omega, m6⟩, MX_j (MX_cells (fun c c0 _ => f' c (by omega) (by omega)) (fun c c0 c1 => f' c (by omega) (by omega)) ⟨m1, m2, m3, m4, m5, m6⟩) (by omega), by rw [ea 0 (by omega) (by omega)]; exact Int.le_refl _, by rw [ea 5 (by omega) (by omega)]; exact Int.le_refl _⟩, h1, h2, h3, z1, fun k i hk hi => ?_, z3⟩
  have o := oT_b (z1.1 k i hk hi)
  rw [f' (i + 1) (by omega) (by omega)]
  exact z2 k i hk hi
theorem pr_weeks (R : REL S σ j) (hj : 0 ≤ j ∧ j ≤ 511) (r1 : rg v1) : PairC S σ τ j 170 294 [.int (wI v1)] := by
  refine wc_ok fun K => ?_
  have s := K.1.1
  obtain ⟨⟨k1, k2, k3, k4⟩, h1, h2, h3, z1, z2, z3⟩ := R
  obtain ⟨m1, m2, m3, m4, m5, m6⟩ := k1
  have hc := jC m4.1
  unfold jv_C at hc
  have pt := PT_B m4
  have ww := w_wks (n := v1) m4 (by omega) m6
  refine q_170 (a := σ 84) m1 m2 m3 m4 (by omega) r1 (fun S1 σ1 τ1 g rt rx bx => ?_)
  have zb := bx.1
  have f : ∀ c, c < 2 ∨ (18 < c ∧ c < 53) ∨ (62 < c ∧ c < 100) → σ1 c = σ c := fun c h => gw_c g zb s (by omega) (by omega) (by omega)
  have e84 := f 84 (by omega)
  refine ⟨_, rfl, ⟨f 0 (by omega), g.1.2.1 0 (by omega)⟩, ?_⟩
  refine q_294 (a := σ 84) e84 m4 (by omega) r1 (fun σ2 τ2 fw ea => ?_)
  have f2 : ∀ c, c ≠ 83 → c ≠ 84 → c ≠ 91 → c ≠ 92 → c ≠ 93 → c ≠ 94 → σ2 c = σ1 c := fw.1
  have f3 : ∀ c, c < 2 ∨ (18 < c ∧ c < 53) ∨ (62 < c ∧ c < 100) → c ≠ 83 → c ≠ 84 → c ≠ 91 → c ≠ 92 → c ≠ 93 → c ≠ 94 → σ2 c = σ c := fun c h c1 c2 c3 c4 c5 c6 => (f2 c c1 c2 c3 c4 c5 c6).trans (f c h)
  have k83 : ∀ k, k < 22 ∨ 31 < k → σ2 83 k = σ 83 k := fun k hk => by rw [fw.2 k (by omega), f 83 (by omega)]
  have z1' := zT_gw z1 g s
  have z2' := z8_gw z1 g zb s (by decide) (by omega) z2
  refine ⟨rfl, ?_, f3 0 (by omega) (by decide) (by decide) (by decide) (by decide) (by decide) (by decide), g.1.2.1 0 (by omega)⟩
  unfold REL
  rw [ea, f3 85 (by omega) (by decide) (by decide) (by decide) (by decide) (by decide) (by decide), f3 82 (by omega) (by decide) (by decide) (by decide) (by decide) (by decide) (by decide), f3 87 (by omega) (by decide) (by decide) (by decide) (by decide) (by decide) (by decide), f3 1 (by omega) (by decide) (by decide) (by decide) (by decide) (by decide) (by decide), f3 63 (by omega) (by decide) (by decide) (by decide) (by decide) (by decide) (by decide), f3 79 (by omega) (by decide) (by decide) (by decide) (by decide) (by decide) (by decide), f3 80 (by omega) (by decide) (by decide) (by decide) (by decide) (by decide) (by decide), f3 99 (by omega) (by decide) (by decide) (by decide) (by decide) (by decide) (by decide), k83 4 (by omega), k83 5 (by omega), k83 6 (by omega), k83 42 (by omega)]
  refine ⟨⟨⟨RT_σ (fun c c0 c1 => f2 c (by omega) (by omega) (by omega) (by omega) (by omega) (by omega)) rt, RX_cells (fun c c0 _ => f2 c (by omega) (by omega) (by omega) (by omega) (by omega) (by omega)) rx, BX_cells (fun c c0 _ => f2 c (by omega) (by omega) (by omega) (by omega) (by omega) (by omega)) bx, ww.1.1, by have := ww.1.2; omega, by have := ww.2.2.2; omega⟩, MX_j (MX_cells (fun c c0 _ => f2 c (by omega) (by omega) (by omega) (by omega) (by omega) (by omega)) (fun c c0 c1 => f2 c (by omega) (by omega) (by omega) (by omega) (by omega) (by omega)) (MX_gw k2 g zb k3 (by decide) (by decide) (by decide) s)) (by omega), by have := ww.2.1; omega, by have := ww.2.2.1; omega⟩, h1, h2, h3, z1', fun k i hk hi => ?_, g.1.2.2.2 z3⟩
  have o := oT_b (z1'.1 k i hk hi)
  rw [f2 (i + 1) (by omega) (by omega) (by omega) (by omega) (by omega) (by omega)]
  exact z2' k i hk hi
theorem pr_tried (R : REL S σ j) (hj : 0 ≤ j ∧ j ≤ 511) (r1 : rg v1) (r2 : rg v2) (r3 : rg v3) (r4 : rg v4) : PairC S σ τ j 178 304 [.int (wI v1), .int (wI v2), .int (wI v3), .int (wI v4)] := by
  refine wc_ok fun K => ?_
  have s := K.1.1
  obtain ⟨⟨k1, k2, k3, k4⟩, h1, h2, h3, z1, z2, z3⟩ := R
  have k1' := k1
  obtain ⟨m1, m2, m3, m4, m5, m6⟩ := k1'
  have hc := jC m4.1
  unfold jv_C at hc
  refine q_178 (a := σ 84) m1 m2 m3 m4 (by omega) m6 r1 r2 r3 r4 (fun S1 σ1 τ1 g zb => ?_)
  have f : ∀ c, c < 36 ∨ (62 < c ∧ c < 100) → σ1 c = σ c := fun c h => gw_c g zb s (by omega) (by omega) (by omega)
  have e84 := f 84 (by omega)
  refine ⟨_, rfl, ⟨f 0 (by omega), g.1.2.1 0 (by omega)⟩, ?_⟩
  refine q_304 (a := σ 84) e84 m4 (by omega) m6 r1 r2 r3 r4 (fun σ2 τ2 fw ea => ?_)
  have f2 : ∀ c, c < 83 ∨ c = 85 ∨ c = 87 ∨ 99 ≤ c → σ2 c = σ1 c := fun c h => fw.1 c (by omega) (by omega) (by omega) (by omega) (by omega) (by omega) (by omega)
  have f3 : ∀ c, c < 36 ∨ (62 < c ∧ c < 83) ∨ c = 85 ∨ c = 87 ∨ c = 99 → σ2 c = σ c := fun c h => (f2 c (by omega)).trans (f c (by omega))
  have k83 : ∀ k, k < 22 ∨ 31 < k → σ2 83 k = σ 83 k := fun k hk => by rw [fw.2 k (by omega), f 83 (by omega)]
  have z1' := zT_gw z1 g s
  have z2' := z8_gw z1 g zb s (by decide) (by omega) z2
  refine ⟨rfl, ?_, f3 0 (by omega), g.1.2.1 0 (by omega)⟩
  unfold REL
  rw [f3 85 (by omega), f3 82 (by omega), f3 87 (by omega), f3 1 (by omega), f3 63 (by omega), f3 79 (by omega), f3 80 (by omega), f3 99 (by omega), k83 4 (by omega), k83 5 (by omega), k83 6 (by omega), k83 42 (by omega)]
  refine ⟨⟨MX_A ea (MX_j (MX_cells (fun c c0 _ => f2 c (by omega)) (fun c c0 c1 => f2 c (by omega)) (MX_gw k1 g zb (Int.le_refl _) (by decide) (by decide) (by decide) s)) (by omega)), MX_j (MX_cells (fun c c0 _ => f2 c (by omega)) (fun c c0 c1 => f2 c (by omega)) (MX_gw k2 g zb k3 (by decide) (by decide) (by decide) s)) (by omega), by rw [ea 0 (by omega) (by omega)]; exact k3, by rw [ea 5 (by omega) (by omega)]; exact k4⟩, h1, h2, h3, z1', fun k i hk hi => ?_, g.1.2.2.2 z3⟩
  have o := oT_b (z1'.1 k i hk hi)
  rw [f2 (i + 1) (by omega)]
  exact z2' k i hk hi
end PRN
end RL2
