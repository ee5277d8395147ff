/-! ===== what the grammar writes is sound (segments printed by wip/whole, contracts own work) ===== -/
/-- a code can run: sizes of the two piles -/
def wzL : List (Int × Int) → Int → Int → Int → Int → Prop
  | [], m, b, m', b' => m = m' ∧ b = b'
  | y :: t, m, b, m', b' => ok1 y.1 y.2 m b ∧ wzL t (szm y.1 m) (szb y.1 b) m' b'
theorem wzL_a : ∀ {A : List (Int × Int)} {B : List (Int × Int)} {m b m1 b1 m2 b2 : Int}, wzL A m b m1 b1 → wzL B m1 b1 m2 b2 → wzL (A ++ B) m b m2 b2
  | [], B, m, b, m1, b1, m2, b2, h, g => by
    obtain ⟨h1, h2⟩ := h
    subst h1
    subst h2
    exact g
  | y :: t, B, m, b, m1, b1, m2, b2, h, g => ⟨h.1, wzL_a h.2 g⟩
theorem wzL_0 {m b : Int} : wzL [] m b m b := ⟨rfl, rfl⟩
theorem wzL_1 {y : Int × Int} {m b m' b' : Int} (h : ok1 y.1 y.2 m b) (e1 : szm y.1 m = m') (e2 : szb y.1 b = b') : wzL [y] m b m' b' := ⟨h, e1, e2⟩
section WZ
variable {T : Int → Int} {n : Int}
/-- how a ONE's code runs -/
def wzO (one : Int → RR) (h : Int) : Prop := ∀ s m b, 0 ≤ s → s ≤ n → 0 ≤ m → 0 ≤ b → m + b + h ≤ 60 → (one s).1 = 0 → wzL (one s).2.2 m b (m + 1) b
theorem wz_op {w m b : Int} (h : 3 ≤ w ∧ w ≤ 8) (hm : 2 ≤ m) : wzL [(w, 0)] m b (m - 1) b := by
  refine wzL_1 (Or.inr (Or.inr (Or.inr (Or.inl ⟨h, hm⟩)))) ?_ ?_
  · unfold szm; rw [if_neg (by show ¬ w ≤ 1; omega), if_neg (by show ¬ w = 2; omega), if_pos h.2]
  · unfold szb; rw [if_pos h.2]
theorem wz_trm {one : Int → RR} {h : Int} (ro : rOK n one) (ho : wzO (n := n) one h) {m b : Int} (hm : 0 ≤ m) (hb : 0 ≤ b) (hr : m + 1 + b + h ≤ 60) : ∀ (f : Nat) (s : Int) (L : List (Int × Int)), 0 ≤ s → s ≤ n → wzL L m b (m + 1) b → (termO T n one f s L).1 = 0 → wzL (termO T n one f s L).2.2 m b (m + 1) b
  | 0, s, L, _, _, _, e => absurd (show (1 : Int) = 0 from e) (by decide)
  | f + 1, s, L, h0, h1, w, e => by
    by_cases c : tk T n s = 31 ∨ tk T n s = 32
    · have sn := tk_n (T := T) (n := n) (s := s) (by omega)
      have nb := nx_b (T := T) sn
      by_cases e1 : (one (nx T n s)).1 = 0
      · rw [termO_z c e1] at e ⊢
        have r := (ro (nx T n s) (by omega) (by omega)).1 e1
        have w1 := ho (nx T n s) (m + 1) b (by omega) (by omega) (by omega) hb (by omega) e1
        have w2 := wz_op (w := tk T n s - 26) (m := m + 1 + 1) (b := b) (by omega) (by omega)
        rw [show m + 1 + 1 - 1 = m + 1 by omega] at w2
        exact wz_trm ro ho hm hb hr f _ _ (by omega) (by omega) (wzL_a (wzL_a w w1) w2) e
      · rw [termO_y c e1] at e
        exact absurd e e1
    · rw [termO_n c]
      exact w
theorem wz_sml {one : Int → RR} {h : Int} (n3 : n ≤ 300) (ro : rOK n one) (ho : wzO (n := n) one h) {m b : Int} (hm : 0 ≤ m) (hb : 0 ≤ b) (hr : m + 2 + b + h ≤ 60) : ∀ (f : Nat) (s jn : Int) (L : List (Int × Int)), 0 ≤ s → s ≤ n → (jn = 0 ∨ jn = 29 ∨ jn = 30) → wzL L m b (m + if jn = 0 then 0 else 1) b → (sumL T n one f s L jn).1 = 0 → wzL (sumL T n one f s L jn).2.2 m b (m + 1) b
  | 0, s, jn, L, _, _, _, _, e => absurd (show (1 : Int) = 0 from e) (by decide)
  | f + 1, s, jn, L, h0, h1, hj, w, e => by
    obtain ⟨j, hjj⟩ : ∃ j, j = if jn = 0 then (0 : Int) else 1 := ⟨_, rfl⟩
    have j01 : 0 ≤ j ∧ j ≤ 1 := by rw [hjj]; split <;> omega
    rw [← hjj] at w
    by_cases e1 : (one s).1 = 0
    · have r := (ro s h0 h1).1 e1
      obtain ⟨R, hR⟩ : ∃ R, R = termO T n one 301 (one s).2.1 (one s).2.2 := ⟨_, rfl⟩
      by_cases e2 : R.1 = 0
      · have tok := (termO_ok (T := T) ro 301 (one s).2.1 (one s).2.2 s (by omega) (by omega) (by omega) (by omega) (by omega)).1 (by rw [← hR]; exact e2)
        rw [← hR] at tok
        have w1 := ho s (m + j) b h0 h1 (by omega) hb (by omega) e1
        have w2 := wz_trm (T := T) ro ho (m := m + j) (b := b) (by omega) hb (by omega) 301 (one s).2.1 (one s).2.2 (by omega) (by omega) w1 (by rw [← hR]; exact e2)
        rw [← hR] at w2
        have w3 : wzL (L ++ R.2.2 ++ jnO jn) m b (m + 1) b := by
          refine wzL_a (wzL_a w w2) ?_
          by_cases z : jn = 0
          · rw [show jnO jn = [] from if_pos z, show j = 0 by rw [hjj, if_pos z], show m + 0 + 1 = m + 1 by omega]
            exact wzL_0
          · rw [show jnO jn = [(jn - 26, 0)] from if_neg z, show j = 1 by rw [hjj, if_neg z]]
            have := wz_op (w := jn - 26) (m := m + 1 + 1) (b := b) (by omega) (by omega)
            rw [show m + 1 + 1 - 1 = m + 1 by omega] at this
            exact this
        by_cases c : tk T n R.2.1 = 29 ∨ tk T n R.2.1 = 30
        · have sn := tk_n (T := T) (n := n) (s := R.2.1) (by omega)
          have nb := nx_b (T := T) sn
          rw [sumL_c hR e1 e2 c] at e ⊢
          refine wz_sml n3 ro ho hm hb hr f _ _ _ (by omega) (by omega) (by omega) ?_ e
          rw [if_neg (by omega)]
          exact w3
        · rw [sumL_d hR e1 e2 c]
          exact w3
      · rw [sumL_b hR e1 e2] at e
        exact absurd e e2
    · rw [sumL_a e1] at e
      exact absurd e e1
theorem wz_sum {one : Int → RR} {h : Int} (n3 : n ≤ 300) (ro : rOK n one) (ho : wzO (n := n) one h) : wzO (n := n) (sumO T n one) (h + 2) := by
  intro s m b h0 h1 hm hb hr e
  refine wz_sml n3 ro ho hm hb (by omega) 301 s 0 [] h0 h1 (Or.inl rfl) ?_ e
  rw [if_pos rfl, show m + 0 = m by omega]
  exact wzL_0
theorem wz_par {one : Int → RR} {h : Int} (ho : wzO (n := n) (sumO T n one) h) : wzO (n := n) (parO T n one) h := by
  intro s m b h0 h1 hm hb hr e
  by_cases e1 : (sumO T n one s).1 = 0
  · by_cases c : tk T n (sumO T n one s).2.1 = 34
    · rw [parO_b e1 c]
      exact ho s m b h0 h1 hm hb hr e1
    · rw [parO_c e1 c] at e
      exact absurd (show (1 : Int) = 0 from e) (by decide)
  · rw [parO_a e1] at e
    exact absurd e e1
theorem wz_neg {one : Int → RR} {h : Int} (ho : wzO (n := n) one h) : wzO (n := n) (negO one) h := by
  intro s m b h0 h1 hm hb hr e
  by_cases e1 : (one s).1 = 0
  · rw [negO_b e1]
    refine wzL_a (ho s m b h0 h1 hm hb hr e1) (wzL_1 (Or.inr (Or.inr (Or.inl ⟨rfl, by omega⟩))) ?_ ?_)
    · rfl
    · rfl
  · rw [negO_a e1] at e
    exact absurd e e1
theorem wz_pair {one : Int → RR} {h : Int} (n3 : n ≤ 300) (ro : rOK n one) (ho : wzO (n := n) (sumO T n one) h) {s w m b : Int} (hw : w = 7 ∨ w = 8) (h0 : 0 ≤ s) (h1 : s ≤ n) (hm : 0 ≤ m) (hb : 0 ≤ b) (hr : m + 1 + b + h ≤ 60) (e : (pairO T n one s w).1 = 0) : wzL (pairO T n one s w).2.2 m b (m + 1) b := by
  by_cases e1 : (sumO T n one s).1 = 0
  · have so := (sumO_ok (T := T) n3 ro h0 h1).1 e1
    by_cases c : tk T n (sumO T n one s).2.1 = 35
    · have nb := nx_b (T := T) (tk_n (T := T) (n := n) (s := (sumO T n one s).2.1) (by omega))
      by_cases e2 : (parO T n one (nx T n (sumO T n one s).2.1)).1 = 0
      · rw [pairO_d e1 c e2]
        have w1 := ho s m b h0 h1 hm hb (by omega) e1
        have w2 := wz_par ho (nx T n (sumO T n one s).2.1) (m + 1) b (by omega) (by omega) (by omega) hb (by omega) e2
        have w3 := wz_op (w := w) (m := m + 1 + 1) (b := b) (by omega) (by omega)
        rw [show m + 1 + 1 - 1 = m + 1 by omega] at w3
        exact wzL_a (wzL_a w1 w2) w3
      · rw [pairO_c e1 c e2] at e
        exact absurd e e2
    · rw [pairO_b e1 c] at e
      exact absurd (show (1 : Int) = 0 from e) (by decide)
  · rw [pairO_a e1] at e
    exact absurd e e1
theorem wz_one (hT : TB T n) : ∀ k : Nat, k ≤ 8 → wzO (n := n) (oneK T n k) (3 * k + 1)
  | k, hk => by
    intro s m b h0 h1 hm hb hr e
    have n3 := hT.1.2
    rcases one_3 (T := T) (n := n) s (8 - k) with ⟨x, h⟩ | ⟨w, e', h, h8⟩ | ⟨r, e', h⟩
    · rw [oneK_v h]
      rcases h with ⟨t2, v, rfl⟩ | ⟨t17, rfl⟩
      · have nn := (nm_nv hT ⟨h0, h1⟩ t2).2
        exact wzL_1 (Or.inl ⟨rfl, ⟨nn, v⟩, by omega⟩) rfl rfl
      · exact wzL_1 (Or.inr (Or.inl ⟨rfl, by show 1 ≤ tk T n s - 16 ∧ tk T n s - 16 ≤ 4; omega, by omega⟩)) rfl rfl
    · cases k with
      | zero => exact absurd rfl h8
      | succ k =>
        have ih := wz_one hT k (by omega)
        have ro := oneK_ok (T := T) n3 k (by omega)
        have su := wz_sum (T := T) n3 ro ih
        have eb := opV_b h
        rw [oneK_o h] at e ⊢
        unfold opO at e ⊢
        rcases h with ⟨rfl, c1, rfl⟩ | ⟨rfl, c1, rfl⟩ | ⟨rfl, c1, c2, rfl⟩
        · rw [if_neg (by decide), if_pos rfl] at e ⊢
          exact wz_par su _ m b (by omega) (by omega) hm hb (by omega) e
        · rw [if_pos rfl] at e ⊢
          exact wz_neg ih _ m b (by omega) (by omega) hm hb (by omega) e
        · rw [if_neg (by omega), if_neg (by omega)] at e ⊢
          exact wz_pair n3 ro su (by omega) (by omega) (by omega) hm hb (by omega) e
    · rw [oneK_e h hk] at e
      have := (erV_b h1 h).1
      exact absurd (show r = 0 from e) (by omega)
theorem wz_s8 (hT : TB T n) {k : Nat} (hk : k ≤ 8) {s m b : Int} (h0 : 0 ≤ s) (h1 : s ≤ n) (hm : 0 ≤ m) (hb : 0 ≤ b) (hr : m + b ≤ 30) (e : (sumO T n (oneK T n k) s).1 = 0) : wzL (sumO T n (oneK T n k) s).2.2 m b (m + 1) b := wz_sum hT.1.2 (oneK_ok (T := T) hT.1.2 k hk) (wz_one hT k hk) s m b h0 h1 hm hb (by omega) e
theorem wz_rep {b : Int} (hb : 1 ≤ b) : ∀ c : Nat, wzL (List.replicate c (20, 0)) 0 b 0 b
  | 0 => wzL_0
  | c + 1 => ⟨Or.inr (Or.inr (Or.inr (Or.inr (Or.inr (Or.inl ⟨rfl, rfl, hb⟩))))), wz_rep hb c⟩
theorem wz_ask (hT : TB T n) {s b : Int} (h0 : 0 ≤ s) (h1 : s ≤ n) (hb : 0 ≤ b ∧ b ≤ 20) (e : (askO T n s).1 = 0) : wzL (askO T n s).2.2 0 b 0 (b + 1) := by
  have n3 := hT.1.2
  unfold askO at e ⊢
  by_cases c : (notO T n 8 s 0).1 = 0
  · rw [if_neg (fun z => z c)] at e ⊢
    have no := (notO_ok (T := T) 8 s 0 h0 h1).1 c
    obtain ⟨s1, hs1⟩ : ∃ s1, s1 = (notO T n 8 s 0).2.1 := ⟨_, rfl⟩
    obtain ⟨q, hq⟩ : ∃ q, q = (notO T n 8 s 0).2.2 := ⟨_, rfl⟩
    rw [← hs1, ← hq] at e no ⊢
    have hk : (8 - q).toNat ≤ 8 := by omega
    have ro := oneK_ok (T := T) n3 _ hk
    obtain ⟨A, hA⟩ : ∃ A, A = sumO T n (oneK T n (8 - q).toNat) s1 := ⟨_, rfl⟩
    by_cases e1 : A.1 = 0
    · have so := (sumO_ok (T := T) n3 ro (s := s1) (by omega) (by omega)).1 (by rw [← hA]; exact e1)
      rw [← hA] at so
      by_cases c1 : 23 ≤ tk T n A.2.1 ∧ tk T n A.2.1 ≤ 28
      · have nb := nx_b (T := T) (tk_n (T := T) (n := n) (s := A.2.1) (by omega))
        obtain ⟨B, hB⟩ : ∃ B, B = sumO T n (oneK T n (8 - q).toNat) (nx T n A.2.1) := ⟨_, rfl⟩
        by_cases f : B.1 = 0
        · rw [askK_4 hA e1 c1 hB f]
          have w1 := wz_s8 hT hk (s := s1) (m := 0) (b := b) (by omega) (by omega) (by omega) hb.1 (by omega) (by rw [← hA]; exact e1)
          have w2 := wz_s8 hT hk (s := nx T n A.2.1) (m := 1) (b := b) (by omega) (by omega) (by omega) hb.1 (by omega) (by rw [← hB]; exact f)
          rw [← hA] at w1
          rw [← hB] at w2
          have w3 : wzL [(tk T n A.2.1 - 13, (0 : Int))] 2 b 0 (b + 1) := by
            refine wzL_1 (Or.inr (Or.inr (Or.inr (Or.inr (Or.inl ⟨by show 10 ≤ tk T n A.2.1 - 13 ∧ tk T n A.2.1 - 13 ≤ 15; omega, rfl⟩))))) ?_ ?_
            · unfold szm
              show (if tk T n A.2.1 - 13 ≤ 1 then _ else _) = _
              rw [if_neg (by omega), if_neg (by omega), if_neg (by omega), if_pos (by omega)]
              rfl
            · unfold szb
              show (if tk T n A.2.1 - 13 ≤ 8 then _ else _) = _
              rw [if_neg (by omega), if_pos (by omega)]
          exact wzL_a (wzL_a (wzL_a w1 w2) w3) (wz_rep (by omega) _)
        · rw [askK_3 hA e1 c1 hB f] at e
          exact absurd e f
      · rw [askK_2 hA e1 c1] at e
        exact absurd (show (1 : Int) = 0 from e) (by decide)
    · rw [askK_1 hA e1] at e
      exact absurd e e1
  · rw [if_pos c] at e
    exact absurd e c
theorem wz_eit (hT : TB T n) : ∀ (f : Nat) (s an o : Int) (L : List (Int × Int)), 0 ≤ s → s ≤ n → (an = 0 ∨ an = 1) → (o = 0 ∨ o = 1) → wzL L 0 0 0 (an + o) → (eitO T n f s L an o).1 = 0 → wzL (eitO T n f s L an o).2.2 0 0 0 1
  | 0, s, an, o, L, _, _, _, _, _, e => absurd (show (1 : Int) = 0 from e) (by decide)
  | f + 1, s, an, o, L, h0, h1, ha, ho, w, e => by
    have n3 := hT.1.2
    obtain ⟨R, hR⟩ : ∃ R, R = askO T n s := ⟨_, rfl⟩
    by_cases e1 : R.1 = 0
    · have ao := (askO_ok (T := T) n3 h0 h1).1 (by rw [← hR]; exact e1)
      have w1 := wz_ask hT h0 h1 (b := an + o) (by omega) (by rw [← hR]; exact e1)
      rw [← hR] at ao w1
      have w2 : wzL (L ++ R.2.2 ++ anO an) 0 0 0 (o + 1) := by
        refine wzL_a (wzL_a w w1) ?_
        rcases ha with rfl | rfl
        · rw [show anO 0 = [] from rfl, show (0 : Int) + o + 1 = o + 1 by omega]; exact wzL_0
        · exact wzL_1 (Or.inr (Or.inr (Or.inr (Or.inr (Or.inr (Or.inr ⟨Or.inl rfl, rfl, by omega⟩)))))) rfl (by show 1 + o + 1 - 1 = o + 1; omega)
      by_cases c : tk T n R.2.1 = 15
      · have nb := nx_b (T := T) (tk_n (T := T) (n := n) (s := R.2.1) (by omega))
        rw [eitO_2 hR e1 c] at e ⊢
        refine wz_eit hT f _ 1 o _ (by omega) (by omega) (Or.inr rfl) ho ?_ e
        rw [show (1 : Int) + o = o + 1 by omega]
        exact w2
      have w3 : wzL (L ++ R.2.2 ++ anO an ++ orO o) 0 0 0 1 := by
        refine wzL_a w2 ?_
        rcases ho with rfl | rfl
        · exact wzL_0
        · exact wzL_1 (Or.inr (Or.inr (Or.inr (Or.inr (Or.inr (Or.inr ⟨Or.inr rfl, rfl, by omega⟩)))))) rfl rfl
      by_cases c2 : tk T n R.2.1 = 14
      · have nb := nx_b (T := T) (tk_n (T := T) (n := n) (s := R.2.1) (by omega))
        rw [eitO_3 hR e1 c2] at e ⊢
        exact wz_eit hT f _ 0 1 _ (by omega) (by omega) (Or.inl rfl) (Or.inr rfl) w3 e
      · rw [eitO_4 hR e1 c c2]
        exact w3
    · rw [eitO_1 hR e1] at e
      exact absurd e e1
end WZ
