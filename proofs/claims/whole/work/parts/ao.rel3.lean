/-! ===== both side by side: text (segments printed by wip/whole, contracts own work) ===== -/
section RTX
variable {S S1 : zS} {σ σ1 σ2 τ : zI} {j : Int} {a a' : Int → Int} {t x : Nat} {w : Int}
theorem oK_ot {i kd n : Nat} (o : OPT S S1 w x) (h : oK S i kd n) : oK S1 i kd n := ⟨h.1, by have := o.2.2.1; have := h.2.1; omega, by rw [o.2.2.2.1 i h.2.1]; exact h.2.2⟩
theorem oT_ot {y : Nat} (o : OPT S S1 w x) (h : oT S y) : oT S1 y := by
  have b := oT_b h
  have r := o.2.2.2.2.1
  refine ⟨h.1, oK_ot o (oT_0 h), oK_ot o (oT_1 h), oK_ot o (oT_2 h), oK_ot o (oT_3 h), ?_, ?_, ?_⟩
  · rw [r _ _ (oT_0 h).2.1 (by omega)]; exact oT_r0 h
  · rw [r _ _ (oT_0 h).2.1 (by omega)]; exact oT_r1 h
  · rw [r _ _ (oT_1 h).2.1 (by omega)]; exact oT_r2 h
theorem oB_ot {y : Nat} (o : OPT S S1 w x) (h : oB S y) : oB S1 y := by
  have b := oB_b h
  have r := o.2.2.2.2.1
  refine ⟨h.1, oK_ot o (oB_0 h), ⟨oK_ot o (oB_1 h), oK_ot o (oB_2 h), oK_ot o (oB_3 h), oK_ot o (oB_4 h), oK_ot o (oB_5 h), oK_ot o (oB_6 h), oK_ot o (oB_7 h)⟩, fun k hk => ?_⟩
  rw [r _ _ (oB_0 h).2.1 (by omega)]; exact h.2.2.2 k hk
theorem op_ne {k i : Nat} (o : OPT S S1 w x) (z : zT S) (hw : 0 ≤ w ∧ w < 20) (s : 100 ≤ S.1) (hk : k < 20) (hi : S.2.2.2 55 k = some i) (ne : k ≠ w.toNat) : i ≠ x := fun e => by
  subst e
  rcases o.2.2.2.2.2 with e | ⟨_, e, _⟩
  · have := o.1
    rw [e] at this
    exact ne (z.2 k w.toNat i hk (by omega) hi this)
  · have := (oT_0 (z.1 k i hk hi)).2.1
    omega
theorem zT_ot (o : OPT S S1 w x) (z : zT S) (hw : 0 ≤ w ∧ w < 20) (s : 100 ≤ S.1) : zT S1 := by
  have r := o.2.2.2.2.1
  have q : ∀ k i, k < 20 → S1.2.2.2 55 k = some i → (k = w.toNat ∧ i = x) ∨ (k ≠ w.toNat ∧ S.2.2.2 55 k = some i) := fun k i hk hi => by
    by_cases e : k = w.toNat
    · subst e
      rw [o.1] at hi
      exact Or.inl ⟨rfl, (Option.some.inj hi).symm⟩
    · rw [r 55 k (by omega) (Or.inr e)] at hi
      exact Or.inr ⟨e, hi⟩
  refine ⟨fun k i hk hi => ?_, fun k k' i hk hk' hi hi' => ?_⟩
  · rcases q k i hk hi with ⟨_, e⟩ | ⟨_, e⟩
    · rw [e]; exact o.2.1
    · exact oT_ot o (z.1 k i hk e)
  · rcases q k i hk hi with ⟨e1, e2⟩ | ⟨e1, e2⟩
    · rcases q k' i hk' hi' with ⟨f1, f2⟩ | ⟨f1, f2⟩
      · rw [e1, f1]
      · exact absurd e2 (op_ne o z hw s hk' f2 f1)
    · rcases q k' i hk' hi' with ⟨f1, f2⟩ | ⟨f1, f2⟩
      · exact absurd f2 (op_ne o z hw s hk e2 e1)
      · exact z.2 k k' i hk hk' e2 f2
theorem RO_opt (r : RO S) (o : OPT S S1 w x) (hw : 0 ≤ w ∧ w < 20) (s : 100 ≤ S.1) : RO S1 := by
  rcases o.2.2.2.2.2 with e | ⟨e1, e2, e3, e4⟩
  · rw [e]; exact r
  · have q := o.2.2.2.2.1
    have b : fT S1 = fT S + -1 := by
      refine sI_1 (c := w) hw (fun p p0 p1 pn => ?_) ?_
      · try dsimp only
        rw [q 55 p.toNat (by omega) (by omega)]
      · try dsimp only
        rw [o.1, e1]
        rfl
    have t : fB S1 = fB S := sI_c (fun p p0 p1 => by rw [q 59 p.toNat (by omega) (by omega)])
    unfold RO at *
    rw [b, t, e3, e4]
    omega
/-- a TEXT that stood before -/
theorem op_tx {k i : Nat} (o : OPT S S1 w x) (z : zT S) (hw : 0 ≤ w ∧ w < 20) (s : 100 ≤ S.1) (hk : k < 20) (hi : S.2.2.2 55 k = some i) (ne : k ≠ w.toNat) : S1.2.2.2 55 k = some i ∧ oT S1 i ∧ (i + 4 ≤ x ∨ x + 4 ≤ i) ∧ i + 3 < S.1 ∧ 100 ≤ i := by
  have t := z.1 k i hk hi
  exact ⟨by rw [o.2.2.2.2.1 55 k (by omega) (Or.inr ne)]; exact hi, oT_ot o t, oT_dj (oT_ot o t) o.2.1 (op_ne o z hw s hk hi ne), (oT_3 t).2.1, oT_b t⟩
theorem RX_ot (o : OPT S S1 w x) (z : zT S) (hw : 0 ≤ w ∧ w < 20) (s : 100 ≤ S.1) (ha : a 5 ≤ w) (f : ∀ c, 100 ≤ c → c < S.1 → c ≠ x → c ≠ x + 1 → c ≠ x + 2 → c ≠ x + 3 → σ2 c = σ c) (h : RX S σ a) : RX S1 σ2 a := ⟨h.1, fun n n0 n1 => by
  obtain ⟨i, h1, h2, h3⟩ := h.2 n n0 n1
  have q := op_tx o z hw s (by omega) h1 (by omega)
  exact ⟨i, q.1, q.2.1, TX_f h3 (fun c c0 c1 => f c (by omega) (by omega) (by omega) (by omega) (by omega) (by omega))⟩⟩
theorem BX_ot (o : OPT S S1 w x) (s : 100 ≤ S.1) (f : ∀ c, 100 ≤ c → c < S.1 → c ≠ x → c ≠ x + 1 → c ≠ x + 2 → c ≠ x + 3 → σ2 c = σ c) (h : BX S σ a) : BX S1 σ2 a := by
  have r := o.2.2.2.2.1
  refine ⟨⟨fun k i hk hi => ?_, fun k k' i hk hk' hi hi' => ?_⟩, fun v v0 v1 => ?_⟩
  · rw [r 59 k (by omega) (Or.inl (by decide))] at hi
    exact oB_ot o (h.1.1 k i hk hi)
  · rw [r 59 k (by omega) (Or.inl (by decide))] at hi
    rw [r 59 k' (by omega) (Or.inl (by decide))] at hi'
    exact h.1.2 k k' i hk hk' hi hi'
  · obtain ⟨y, h1, h2, h3⟩ := h.2 v v0 v1
    have b := oB_b h2
    have l := (oB_7 h2).2.1
    have d := oBT_dj (oB_ot o h2) o.2.1
    exact ⟨y, by rw [r 59 _ (by omega) (Or.inl (by decide))]; exact h1, oB_ot o h2, BK_f h3 (fun c c0 c1 => f c (by omega) (by omega) (by omega) (by omega) (by omega) (by omega))⟩
/-- what a reference's TEXT leaves of the numbers -/
theorem tx_a {σ' : zI} {τ τ1 : zI} {L W : List (Int × Int)} {e : Int} (h : PGc (rd0 σ) σ' τ τ1 L W e) (hn : 0 ≤ σ 84 5 ∧ σ 84 5 ≤ 19) (hl : (L.length : Int) ≤ 310) : (∀ k, k ≠ 5 → (k < 5500 + 840 * σ 84 5 ∨ 22300 ≤ k) → σ' 84 k = σ 84 k) ∧ σ' 84 5 = σ 84 5 ∧ (∀ k, k < 5500 + 840 * σ 84 5 + 200 → σ' 84 k = wrs (σ 84) W k) ∧ WRL (σ' 84) (5500 + 840 * σ 84 5 + 200) 0 L ∧ σ' 83 14 = L.length ∧ (∀ c, c ≠ 83 → c ≠ 84 → c ≠ 88 → σ' c = σ c) ∧ ∀ k, k < 7 ∨ k = 11 ∨ k = 15 ∨ 18 < k → σ' 83 k = σ 83 k := by
  obtain ⟨⟨g1, g2, g3, g4⟩, g5, g6, g7⟩ := h
  have z12 : rd0 σ 83 12 = 5500 + 840 * σ 84 5 := by unfold rd0; rw [uc_s, u1_n (by omega), u1_n (by omega), u1_n (by omega), u1_n (by omega), u1_s]
  have z14 : rd0 σ 83 14 = 0 := by unfold rd0; rw [uc_s, u1_n (by omega), u1_n (by omega), u1_s]
  have z84 : rd0 σ 84 = σ 84 := by unfold rd0; rw [uc_n (by decide)]
  rw [z12, z14, z84] at g4
  rw [z12, z14] at g2
  rw [z12] at g3
  rw [z14] at g1
  have wn : ∀ k, k < 5500 + 840 * σ 84 5 ∨ 5500 + 840 * σ 84 5 + 200 ≤ k → wrs (σ 84) W k = σ 84 k := fun k hk => wrs_n _ _ (fun y hy z => by have := g3 y hy; omega)
  refine ⟨fun k hk5 hk => ?_, ?_, fun k hk => g4 k (by omega), g2, by omega, fun c c1 c2 c3 => ?_, fun k hk => ?_⟩
  · rw [g4 k (by omega), wn k (by omega)]
  · rw [g4 5 (by omega), wn 5 (by omega)]
  · rw [g5 c c1 c2 c3]; unfold rd0; rw [uc_n c1]
  · rw [g6 k (by omega)]; unfold rd0; rw [uc_s, u1_n (by omega), u1_n (by omega), u1_n (by omega), u1_n (by omega), u1_n (by omega)]
theorem pr_text (R : REL S σ j) : PairC S σ τ j 159 259 [] := by
  refine wc_ok fun K => ?_
  have s := K.1.1
  have R' := R
  obtain ⟨⟨k1, k2, k3, k4⟩, ⟨t1, t2, t3⟩, h2, h3, z1, z2, z3⟩ := R'
  obtain ⟨m1, m2, m3, m4, m5, m6⟩ := k1
  have hc0 := jC m4.1
  have hc := hc0
  unfold jv_C at hc
  have e9 : σ 2 9 = σ 84 5 := (tS m1).2.1
  refine q_159 (b := 5500 + 840 * σ 84 5) (by rw [t1, t2]; exact t3) (by omega) z1 z2 (fun e20 => ?_) (fun e20 S1 σ1 τ1 tq ft => ?_)
  · refine ⟨_, rfl, ⟨rfl, rfl⟩, q_259 t3 (by omega) (fun σ2 τ2 tx => ?_)⟩
    have e := (tx.1 (by omega)).1
    rw [if_pos (by omega), e]
    exact ⟨rfl, REL_g R (fun _ _ => rfl) ⟨rfl, rfl⟩ (fun _ _ => rfl), rfl, rfl⟩
  · obtain ⟨x, op, f, f63, f1, f11, f2, ok, er, g8⟩ := tq
    have op' := op
    rw [e9] at op'
    have hw : 0 ≤ σ 84 5 ∧ σ 84 5 < 20 := by omega
    have xb := oT_b op.2.1
    have fl : ∀ c, c < 100 → c ≠ 63 → c ≠ 64 → c ≠ 65 → c ≠ 66 → c ≠ 1 → c ≠ 2 → σ1 c = σ c := fun c c0 c1 c2 c3 c4 c5 c6 => f c (by omega) (by omega) (by omega) (by omega) (by omega) c1 c2 c3 c4 c5 c6
    have fh : ∀ c, 100 ≤ c → c < S.1 → c ≠ x → c ≠ x + 1 → c ≠ x + 2 → c ≠ x + 3 → σ1 c = σ c := fun c c0 c1 c2 c3 c4 c5 => f c c1 c2 c3 c4 c5 (by omega) (by omega) (by omega) (by omega) (by omega) (by omega)
    have d83 : σ1 83 = σ 83 := fl 83 (by decide) (by decide) (by decide) (by decide) (by decide) (by decide) (by decide)
    have d84 : σ1 84 = σ 84 := fl 84 (by decide) (by decide) (by decide) (by decide) (by decide) (by decide) (by decide)
    have d87 : σ1 87 = σ 87 := fl 87 (by decide) (by decide) (by decide) (by decide) (by decide) (by decide) (by decide)
    have d0 : σ1 0 = σ 0 := fl 0 (by decide) (by decide) (by decide) (by decide) (by decide) (by decide) (by decide)
    have z1' := zT_ot op' z1 hw s
    refine ⟨_, rfl, ⟨d0, op.2.2.2.1 0 (by omega)⟩, q_259 (by rw [d87, d83]; exact t3) (by rw [d84]; omega) (fun σ2 τ2 tx => ?_)⟩
    obtain ⟨_, tok, ter⟩ := tx
    have eX : rdX σ1 = rdO (σ 87) (σ 83 4) (5500 + 840 * σ 84 5) 302 0 (sk (σ 87) (σ 83 4) 0) [] [] := by
      show rdO (σ1 87) (σ1 83 4) (5500 + (840 * (σ1 84 5))) 302 0 (sk (σ1 87) (σ1 83 4) 0) [] [] = _
      rw [d87, d83, d84]
    rw [t1, t2] at ok er
    rw [t1, t2, ← eX]
    rw [← eX] at ok er
    obtain ⟨X, hX⟩ : ∃ X, X = rdX σ1 := ⟨_, rfl⟩
    rw [← hX] at ok er tok ter
    rw [← hX, d84, if_neg (show ¬ σ 84 5 = 20 by omega), e9]
    -- what the image and the books need
    have build : (∀ c, c ≠ 83 → c ≠ 84 → c ≠ 88 → σ2 c = σ1 c) → eN (σ 84) (σ2 84) → (σ2 84 5 = σ 84 5 ∨ ∃ L, nT (σ 84) (σ2 84) L ∧ TX σ2 x (σ2 84) (σ 84 5)) → σ2 83 4 = 0 → σ2 83 42 = σ 83 42 → σ2 83 5 = σ1 63 5 → σ2 83 6 = σ1 63 6 → σ1 2 9 = σ2 84 5 → REL S1 σ2 (j + 1) := by
      intro g en hn e4 e42 e5 e6 e29
      have h5 : σ 84 5 ≤ σ2 84 5 ∧ σ2 84 5 ≤ 20 := by
        rcases hn with h | ⟨L, h, _⟩
        · omega
        · have := h.1; omega
      have wj := wn_J en m4 h5
      have wt : jv_T (σ2 84) ∧ jv_E (σ2 84) := by
        rcases hn with h | ⟨L, h, _⟩
        · exact wn_T (L := []) en hc0 m4.2.1 m4.2.2.1 (Or.inl h)
        · exact wn_T en hc0 m4.2.1 m4.2.2.1 (Or.inr h)
      have gh : ∀ c, 100 ≤ c → c < S.1 → c ≠ x → c ≠ x + 1 → c ≠ x + 2 → c ≠ x + 3 → σ2 c = σ c := fun c c0 c1 c2 c3 c4 c5 => by rw [g c (by omega) (by omega) (by omega)]; exact fh c c0 c1 c2 c3 c4 c5
      have gl : ∀ c, c < 100 → c ≠ 63 → c ≠ 64 → c ≠ 65 → c ≠ 66 → c ≠ 1 → c ≠ 2 → c ≠ 83 → c ≠ 84 → c ≠ 88 → σ2 c = σ c := fun c c0 c1 c2 c3 c4 c5 c6 c7 c8 c9 => by rw [g c c7 c8 c9]; exact fl c c0 c1 c2 c3 c4 c5 c6
      have g85 := gl 85 (by decide) (by decide) (by decide) (by decide) (by decide) (by decide) (by decide) (by decide) (by decide) (by decide)
      have bx : BX S1 σ2 (σ 84) := BX_ot op' s gh m3
      have n0 : σ2 84 0 = σ 84 0 := en 0 (by omega) (by omega) (by omega) (by omega)
      have n6 : σ2 84 6 = σ 84 6 := en 6 (by omega) (by omega) (by omega) (by omega)
      have n2 : ∀ k, 22300 ≤ k → k < 112300 → σ2 84 k = σ 84 k := fun k k0 k1 => en k (by omega) k1 (by omega) (by omega)
      unfold REL
      rw [g85, gl 82 (by decide) (by decide) (by decide) (by decide) (by decide) (by decide) (by decide) (by decide) (by decide) (by decide), gl 87 (by decide) (by decide) (by decide) (by decide) (by decide) (by decide) (by decide) (by decide) (by decide) (by decide), gl 79 (by decide) (by decide) (by decide) (by decide) (by decide) (by decide) (by decide) (by decide) (by decide) (by decide), gl 80 (by decide) (by decide) (by decide) (by decide) (by decide) (by decide) (by decide) (by decide) (by decide) (by decide), gl 99 (by decide) (by decide) (by decide) (by decide) (by decide) (by decide) (by decide) (by decide) (by decide) (by decide), g 1 (by decide) (by decide) (by decide), g 63 (by decide) (by decide) (by decide), f11, e4, e42, e5, e6]
      refine ⟨⟨⟨wn_RT en hc0 m1 (fun c c0 c1 => gl c (by omega) (by omega) (by omega) (by omega) (by omega) (by omega) (by omega) (by omega) (by omega) (by omega)) (fun k hk => by rw [g 2 (by decide) (by decide) (by decide)]; exact f2 k hk) (by rw [g 2 (by decide) (by decide) (by decide)]; exact e29), ⟨by omega, fun n n0' n1' => ?_⟩, ⟨bx.1, fun v v0 v1 => ?_⟩, ⟨wj.1.1, wt.1, wt.2, wj.2.1, wj.2.2.1, wj.1.2⟩, by rw [wj.2.2.2]; omega, by omega⟩, ?_, by omega, by omega⟩, ⟨t1, rfl, ⟨by omega, fun k k0 k1 => by omega⟩⟩, ⟨rfl, rfl⟩, h3, z1', fun k i hk hi => ?_, RO_opt z3 op' hw s⟩
      · by_cases l : n < σ 84 5
        · obtain ⟨i, i1, i2, i3⟩ := m2.2 n n0' l
          have q := op_tx op' z1 hw s (by omega) i1 (by omega)
          exact ⟨i, q.1, q.2.1, wn_TX en ⟨n0', l⟩ (by omega) (m4.2.1 n n0' l).1 (TX_f i3 (fun c c0 c1 => gh c (by omega) (by omega) (by omega) (by omega) (by omega) (by omega)))⟩
        · rcases hn with h | ⟨L, h, htx⟩
          · omega
          · have h1 := h.1
            have en' : n = σ 84 5 := by omega
            rw [en']
            exact ⟨x, op'.1, op'.2.1, htx⟩
      · rw [n0] at v1
        obtain ⟨y, q1, q2, b1, b2, b3, b4, b5⟩ := bx.2 v v0 v1
        refine ⟨y, q1, q2, fun p p0 p1 => ?_, fun m m0 m1 => ?_, fun x x0 x1 => ?_, ?_, ?_⟩
        · rw [n2 (60700 + 60 * v + p) (by omega) (by omega), n2 (84700 + 60 * v + p) (by omega) (by omega)]; exact b1 p p0 p1
        · rw [n2 (108700 + 8 * v + m) (by omega) (by omega)]; exact b2 m m0 m1
        · rw [n2 (22300 + 24 * v + x) (by omega) (by omega), n2 (31900 + 24 * v + x) (by omega) (by omega), n2 (41500 + 24 * v + x) (by omega) (by omega), n2 (51100 + 24 * v + x) (by omega) (by omega)]
          exact b3 x x0 x1
        · rw [b4]
          exact sI_c (fun x x0 x1 => (n2 _ (by omega) (by omega)).symm)
        · rw [n2 (111900 + v) (by omega) (by omega)]; exact b5
      · obtain ⟨i1, i2, i3, i4, i5, i6⟩ := k2
        exact ⟨RT_σ (fun c c0 c1 => gl c (by omega) (by omega) (by omega) (by omega) (by omega) (by omega) (by omega) (by omega) (by omega) (by omega)) i1, RX_ot op' z1 hw s k4 gh i2, BX_ot op' s gh i3, i4, by omega, i6⟩
      · by_cases e : k = (σ 84 5).toNat
        · subst e
          rw [op'.1] at hi
          cases hi
          rw [g (x + 1) (by omega) (by omega) (by omega)]
          exact g8
        · have hi' := hi
          rw [op'.2.2.2.2.1 55 k (by omega) (Or.inr e)] at hi'
          have q := op_tx op' z1 hw s hk hi' e
          rw [gh (i + 1) (by omega) (by omega) (by omega) (by omega) (by omega) (by omega)]
          exact z2 k i hk hi'
    by_cases c : X.1 = 0
    · obtain ⟨q5, q6, q9, ti⟩ := ok c
      obtain ⟨σ', ⟨pg, mb, lb⟩, e2⟩ := tok (by rw [d84]; omega) c
      have ta := tx_a pg (by rw [d84]; omega) (by omega)
      rw [d84] at ta e2
      rw [d83] at ta
      obtain ⟨ta1, ta2, ta3, ta4, ta5, ta6, ta7⟩ := ta
      have k83 : ∀ k, k < 4 ∨ k = 42 → σ2 83 k = σ 83 k := fun k hk => by rw [e2, uc_n (by decide), uc_s, u1_n (by omega), u1_n (by omega), u1_n (by omega)]; exact ta7 k (by omega)
      have k84 : σ2 84 = u1 (u1 (σ' 84) (5500 + 840 * σ 84 5) X.2.2.1) 5 (σ 84 5 + 1) := by rw [e2, uc_s]
      have gg : ∀ c, c ≠ 83 → c ≠ 84 → c ≠ 88 → σ2 c = σ1 c := fun c c1 c2 c3 => by rw [e2, uc_n c2, uc_n c1]; exact ta6 c c1 c2 c3
      rw [if_pos c]
      have em : σ2 84 (5500 + 840 * σ 84 5) = X.2.2.1 := by rw [k84, u1_n (by omega), u1_s]
      have eg : ∀ k, 5500 + 840 * σ 84 5 < k → k < 5500 + 840 * σ 84 5 + 200 → σ2 84 k = wrs (σ 84) X.2.2.2.2 k := fun k k0 k1 => by rw [k84, u1_n (by omega), u1_n (by omega)]; exact ta3 k k1
      have wr : WRL (σ2 84) (5500 + 840 * σ 84 5 + 200) 0 X.2.2.2.1 := WRL_f _ 0 (fun k k0 k1 => by rw [k84, u1_n (by omega), u1_n (by omega)]) ta4
      have nt := wn_TX1 (a' := σ2 84) (n := σ 84 5) (TI_f ti (fun c c0 c1 => gg c (by omega) (by omega) (by omega))) mb em eg wr lb
      refine ⟨rfl, build gg (fun k k0 k1 k5 hk => ?_) (Or.inr ⟨X.2.2.2.1, ⟨?_, by rw [em]; exact mb, fun c c0 c1 => nt.2 c c0 (by rw [em] at c1; exact c1), wr, lb⟩, nt.1⟩) ?_ (k83 42 (Or.inr rfl)) ?_ ?_ ?_, ?_, op.2.2.2.1 0 (by omega)⟩
      · rw [k84, u1_n k5, u1_n (by omega)]; exact ta1 k k5 hk
      · rw [k84, u1_s]
      · rw [e2, uc_n (by decide), uc_s, u1_s]
      · rw [q5, e2, uc_n (by decide), uc_s, u1_n (by decide), u1_n (by decide), u1_s]
      · rw [q6, e2, uc_n (by decide), uc_s, u1_n (by decide), u1_s]
      · rw [q9, k84, u1_s, e9]
      · rw [gg 0 (by decide) (by decide) (by decide)]; exact d0
    · obtain ⟨q5, q6, q9⟩ := er c
      obtain ⟨σ', L, W, e, pg, lb, e2⟩ := ter (by rw [d84]; omega) c
      have l14 : σ' 83 14 = L.length := by
        have z14 : rd0 σ1 83 14 = 0 := by unfold rd0; rw [uc_s, u1_n (by omega), u1_n (by omega), u1_s]
        have := pg.1.1
        omega
      have ta := tx_a pg (by rw [d84]; omega) (by omega)
      rw [d84] at ta
      rw [d83] at ta
      obtain ⟨ta1, ta2, ta3, ta4, ta5, ta6, ta7⟩ := ta
      have k84 : σ2 84 = σ' 84 := by rw [e2, uc_n (by decide)]
      have gg : ∀ c, c ≠ 83 → c ≠ 84 → c ≠ 88 → σ2 c = σ1 c := fun c c1 c2 c3 => by rw [e2, uc_n c1]; exact ta6 c c1 c2 c3
      rw [if_neg c]
      refine ⟨rfl, build gg (fun k k0 k1 k5 hk => ?_) (Or.inl ?_) ?_ ?_ ?_ ?_ ?_, ?_, op.2.2.2.1 0 (by omega)⟩
      · rw [k84]; exact ta1 k k5 hk
      · rw [k84]; exact ta2
      · rw [e2, uc_s, u1_s]
      · rw [e2, uc_s, u1_n (by decide), u1_n (by decide), u1_n (by decide)]; exact ta7 42 (by omega)
      · rw [q5, e2, uc_s, u1_n (by decide), u1_n (by decide), u1_s]
      · rw [q6, e2, uc_s, u1_n (by decide), u1_s]
      · rw [q9, k84, ta2, e9]
      · rw [gg 0 (by decide) (by decide) (by decide)]; exact d0
end RTX
