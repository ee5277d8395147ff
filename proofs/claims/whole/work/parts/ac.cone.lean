/-! ===== the class reads: ONES (segments printed by wip/whole, contracts own work) ===== -/
section CNE
variable {S : zS} {T : Int → Int} {n : Int} {k : Nat}
theorem parO_a {one : Int → RR} {s : Int} (e : (sumO T n one s).1 ≠ 0) : parO T n one s = ((sumO T n one s).1, (sumO T n one s).2.1, []) := by unfold parO; rw [if_pos e]
theorem parO_b {one : Int → RR} {s : Int} (e : (sumO T n one s).1 = 0) (c : tk T n (sumO T n one s).2.1 = 34) : parO T n one s = (0, nx T n (sumO T n one s).2.1, (sumO T n one s).2.2) := by unfold parO; rw [if_neg (by rw [e]; decide), if_pos c]
theorem parO_c {one : Int → RR} {s : Int} (e : (sumO T n one s).1 = 0) (c : tk T n (sumO T n one s).2.1 ≠ 34) : parO T n one s = (1, (sumO T n one s).2.1, []) := by unfold parO; rw [if_neg (by rw [e]; decide), if_neg c]
theorem pairO_a {one : Int → RR} {s w : Int} (e : (sumO T n one s).1 ≠ 0) : pairO T n one s w = ((sumO T n one s).1, (sumO T n one s).2.1, []) := by unfold pairO; rw [if_pos e]
theorem pairO_b {one : Int → RR} {s w : Int} (e : (sumO T n one s).1 = 0) (c : tk T n (sumO T n one s).2.1 ≠ 35) : pairO T n one s w = (1, (sumO T n one s).2.1, []) := by unfold pairO; rw [if_neg (by rw [e]; decide), if_neg c]
theorem pairO_c {one : Int → RR} {s w : Int} (e : (sumO T n one s).1 = 0) (c : tk T n (sumO T n one s).2.1 = 35) (e2 : (parO T n one (nx T n (sumO T n one s).2.1)).1 ≠ 0) : pairO T n one s w = ((parO T n one (nx T n (sumO T n one s).2.1)).1, (parO T n one (nx T n (sumO T n one s).2.1)).2.1, []) := by unfold pairO; rw [if_neg (by rw [e]; decide), if_pos c, if_pos e2]
theorem pairO_d {one : Int → RR} {s w : Int} (e : (sumO T n one s).1 = 0) (c : tk T n (sumO T n one s).2.1 = 35) (e2 : (parO T n one (nx T n (sumO T n one s).2.1)).1 = 0) : pairO T n one s w = (0, (parO T n one (nx T n (sumO T n one s).2.1)).2.1, (sumO T n one s).2.2 ++ (parO T n one (nx T n (sumO T n one s).2.1)).2.2 ++ [(w, 0)]) := by unfold pairO; rw [if_neg (by rw [e]; decide), if_pos c, if_neg (by rw [e2]; decide)]
theorem negO_a {one : Int → RR} {s : Int} (e : (one s).1 ≠ 0) : negO one s = ((one s).1, (one s).2.1, []) := by unfold negO; rw [if_pos e]
theorem negO_b {one : Int → RR} {s : Int} (e : (one s).1 = 0) : negO one s = (0, (one s).2.1, (one s).2.2 ++ [(2, 0)]) := by unfold negO; rw [if_neg (by rw [e]; decide)]
theorem CD_e {r e : Int} {σ σ1 : zI} (h : CD r e σ) (e1 : σ1 63 = σ 63) : CD r e σ1 := by unfold CD; rw [e1]; exact h
theorem CFS_e {σ σ1 : zI} (h : CFS σ) (e1 : σ1 63 = σ 63) : CFS σ1 := by unfold CFS; rw [e1]; exact h
theorem TB_0 : TB (fun _ => 0) 0 := ⟨by omega, fun k _ _ => by omega⟩
/-- behind a fault -/
theorem f_230 {d x : Nat} {o x3 x4 : Int} {σ τ : zI} {Q : zQ} (hx : oT S x) (fl : CFS σ) (hb : 0 ≤ σ x 2 ∧ σ x 2 ≤ 300) (h3 : 0 ≤ x3 ∧ x3 ≤ 100) (K : ∀ σ1, CJ x σ σ1 → σ1 63 = σ 63 → Q none S σ1 τ) : wi (d + 8) 51 230 [.ref 63, .ref x, .int (wI o), .int (wI x3), .int (wI x4)] [] S σ τ Q :=
  u_51_230 hx ⟨hb, by omega, fun σ1 cj e _ => ⟨fun _ => 0, 0, 0, Or.inr (CFS_e fl e), fun z => absurd z (cr_no (CFS_e fl e)), TB_0, fun σ2 xp => u_51_242 hx (by rw [xp.2.1 (CFS_e fl e)]; exact K σ1 cj e)⟩⟩
theorem f_211 {d x : Nat} {o x3 x4 : Int} {σ τ : zI} {Q : zQ} (hx : oT S x) (fl : CFS σ) (hb : 0 ≤ σ x 2 ∧ σ x 2 ≤ 300) (h3 : 0 ≤ x3 ∧ x3 ≤ 100) (h4 : rg x4) (K : ∀ σ1, CJ x σ σ1 → σ1 63 = σ 63 → Q none S σ1 τ) : wi (d + 9) 51 211 [.ref 63, .ref x, .int (wI o), .int (wI x3), .int (wI x4)] [] S σ τ Q :=
  u_51_211 hx ⟨h4, ifI (fun _ => ⟨fun _ => 0, 0, 0, Or.inr fl, fun z => absurd z (cr_no fl), TB_0, fun σ2 xp => u_51_242 hx (by rw [xp.2.1 fl]; exact K σ CJ_0 rfl)⟩) (fun _ => ⟨fun _ => 0, 0, 0, Or.inr fl, fun z => absurd z (cr_no fl), TB_0, fun σ2 xp => by
    rw [xp.2.1 fl]
    exact f_sum d x _ σ τ _ hx fl (f_230 hx fl hb h3 K)⟩)⟩
/-- how a ONE begins -/
theorem s_109 {d x : Nat} {o : Int} {σ τ : zI} {Q : zQ} (hx : oT S x) (r : rg (σ 63 4)) (h2 : σ 63 4 ≠ 2) (h17 : σ 63 4 < 17 ∨ 20 < σ 63 4) (t1 : σ 63 4 = 21 ∨ σ 63 4 = 22 → wi (d + 8) 51 109 [.ref 63, .ref x, .int (wI o), .int (wI (σ 63 4)), .int (wI 1)] [] S σ τ Q) (t0 : ¬ (σ 63 4 = 21 ∨ σ 63 4 = 22) → wi (d + 8) 51 109 [.ref 63, .ref x, .int (wI o), .int (wI (σ 63 4)), .int (wI 0)] [] S σ τ Q) : wi (d + 8) 51 0 [.ref 63, .ref x, .int (wI o), .retAddr 0, .retAddr 0] [] S σ τ Q := by
  have g : ∀ (v : Int) (y4 : Value), wi (d + 8) 51 109 [.ref 63, .ref x, .int (wI o), .int (wI (σ 63 4)), .int (wI v)] [] S σ τ Q → wi (d + 8) 51 22 [.ref 63, .ref x, .int (wI o), .int (wI (σ 63 4)), y4] [.int (wI v)] S σ τ Q := fun v y4 h => u_51_22 hx ⟨r, ifI (fun z => absurd z h2) (fun _ => u_51_85 hx ⟨r, ifI (fun _ => h) (fun z => ifI (fun _ => h) (fun z2 => by omega))⟩)⟩
  exact u_51_0 hx (ifI (fun z => u_51_17 hx (g 1 _ (t1 (Or.inl z)))) (fun z => ifI (fun z2 => u_51_17 hx (g 1 _ (t1 (Or.inr z2)))) (fun z2 => g 0 _ (t0 (by omega)))))
def Rd (S : zS) (T : Int → Int) (n : Int) (M D x : Nat) (o : Int) (f : Int → RR) : Prop := ∀ (s : Int) (σ τ : zI) (Q : zQ), CR T n s σ → (0 ≤ σ x 2 ∧ σ x 2 ≤ s) → (∀ σ1, CO x T n (f s) σ σ1 → Q none S σ1 τ) → wc D M [.ref 63, .ref x, .int (wI o)] S σ τ Q
/-- what opens -/
theorem c_op (hT : TB T n) {D x : Nat} {o : Int} (hx : oT S x) (ho : 0 ≤ o ∧ o < 8) (hk : k ≤ 8) (one : Rd S T n 51 (D + 8) x (o + 1) (oneK T n k)) (sum : Rd S T n 50 (D + 8) x (o + 1) (sumO T n (oneK T n k))) {s w e : Int} {σ τ : zI} {Q : zQ} (h : opV T n s w e) (cr : CR T n s σ) (hb : 0 ≤ σ x 2 ∧ σ x 2 ≤ s) (K : ∀ σ1, CO x T n (opO (T := T) (n := n) (oneK T n k) w e) σ σ1 → Q none S σ1 τ) : wi (D + 9) 51 0 [.ref 63, .ref x, .int (wI o), .retAddr 0, .retAddr 0] [] S σ τ Q := by
  have xb := oT_b hx
  have n3 := hT.1.2
  have sb := CR_s cr hT.1.1
  have cb := CR_b cr
  have c4 := cb.2.2.1
  have rok := oneK_ok (T := T) n3 k hk
  unfold opO at K
  rcases h with ⟨rfl, h1, rfl⟩ | ⟨rfl, h1, rfl⟩ | ⟨rfl, h1, h2, rfl⟩
  · have sn := tk_n (T := T) (n := n) (s := s) (by omega)
    have nb := nx_b (T := T) sn
    rw [if_neg (by decide), if_pos rfl] at K
    refine s_109 hx (by omega) (by omega) (by omega) (fun z => by omega) (fun _ => ?_)
    refine u_51_109 hx ⟨by omega, ifI (fun _ => ifI (fun _ => ?_) (fun z => by omega)) (fun z => absurd rfl z)⟩
    refine u_51_150 hx ⟨by omega, ifI (fun _ => ifI (fun z => by omega) (fun _ => ⟨T, n, s, Or.inl cr, fun _ => by decide, hT, fun σ1 xp => ?_⟩)) (fun z => absurd ho.2 z)⟩
    have cr1 := (xp.2.2 cr).1 h1
    have cj1 := CJ_k (x := x) (by omega) xp.1
    have cw1 := CW_k (x := x) (by omega) xp.1
    have b1 := cw1.1
    have l0 : (([] : List (Int × Int)).length : Int) = 0 := rfl
    refine sum (nx T n s) σ1 τ _ cr1 (by omega) (fun σ2 co => ?_)
    have cj2 := CJ_t cj1 co.1
    by_cases e : (sumO T n (oneK T n k) (nx T n s)).1 = 0
    · obtain ⟨cr2, cw2⟩ := co.2.1 e
      have cw2' := CW_t cw1 cw2
      rw [List.nil_append] at cw2'
      refine u_51_211 hx ⟨by omega, ifI (fun _ => ⟨T, n, _, Or.inl cr2, fun _ => by decide, hT, fun σ3 xp3 => u_51_242 hx ?_⟩) (fun z => absurd rfl z)⟩
      have cj3 := CJ_t cj2 (CJ_k (x := x) (by omega) xp3.1)
      have cw3 := CW_t cw2' (CW_k (x := x) (by omega) xp3.1)
      rw [List.append_nil] at cw3
      by_cases c : tk T n (sumO T n (oneK T n k) (nx T n s)).2.1 = 34
      · exact K σ3 (CO_ok (parO_b e c) cj3 ((xp3.2.2 cr2).1 c) cw3)
      · exact K σ3 (CO_er (parO_c e c) (by decide) cj3 ((xp3.2.2 cr2).2 c))
    · have cd := co.2.2 e
      exact f_211 hx (CD_F cd e) (cj2.2.2.2 (by omega)) (by omega) (by omega) (fun σ3 cj3 e3 => K σ3 (CO_er (parO_a e) e (CJ_t cj2 cj3) (CD_e cd e3)))
  · have sn := tk_n (T := T) (n := n) (s := s) (by omega)
    have nb := nx_b (T := T) sn
    rw [if_pos rfl] at K
    refine s_109 hx (by omega) (by omega) (by omega) (fun z => by omega) (fun _ => ?_)
    refine u_51_109 hx ⟨by omega, ifI (fun _ => ifI (fun z => by omega) (fun _ => ifI (fun _ => ?_) (fun z => by omega))) (fun z => absurd rfl z)⟩
    refine u_51_150 hx ⟨by omega, ifI (fun _ => ifI (fun _ => ⟨T, n, s, Or.inl cr, fun _ => by decide, hT, fun σ1 xp => ?_⟩) (fun z => by omega)) (fun z => absurd ho.2 z)⟩
    have cr1 := (xp.2.2 cr).1 h1
    have cj1 := CJ_k (x := x) (by omega) xp.1
    have cw1 := CW_k (x := x) (by omega) xp.1
    have b1 := cw1.1
    have l0 : (([] : List (Int × Int)).length : Int) = 0 := rfl
    refine one (nx T n s) σ1 τ _ cr1 (by omega) (fun σ2 co => ?_)
    have cj2 := CJ_t cj1 co.1
    refine u_51_187 hx ⟨cj2.2.2.2 (by omega), by omega, fun σ3 cj3 e3 w3 => u_51_242 hx ?_⟩
    by_cases e : (oneK T n k (nx T n s)).1 = 0
    · obtain ⟨cr2, cw2⟩ := co.2.1 e
      have cw2' := CW_t cw1 cw2
      rw [List.nil_append] at cw2'
      have ro := (rok (nx T n s) (by omega) (by omega)).1 e
      have b2 := cw2'.1
      exact K σ3 (CO_ok (negO_b e) (CJ_t cj2 cj3) (CR_j (by omega) cr2 cj3 e3 (by omega)) (CW_t cw2' (CW_1 (y := (2, 0)) (w3 (by omega)) (by decide))))
    · exact K σ3 (CO_er (negO_a e) e (CJ_t cj2 cj3) (CD_e (co.2.2 e) e3))
  · have sn := tk_n (T := T) (n := n) (s := s) (by omega)
    have nb := nx_b (T := T) sn
    have sn2 := tk_n (T := T) (n := n) (s := nx T n s) (by omega)
    have nb2 := nx_b (T := T) sn2
    rw [if_neg (by omega), if_neg (by omega), show tk T n s + 20 - 34 = tk T n s - 14 by omega] at K
    refine s_109 hx (by omega) (by omega) (by omega) (fun _ => ?_) (fun z => by omega)
    rw [c4]
    refine u_51_109 hx ⟨by omega, ifI (fun z => absurd z (by decide)) (fun _ => ⟨T, n, s, Or.inl cr, fun _ => by omega, by omega, hT, fun σ1 xp => ?_⟩)⟩
    have cr1 := (xp.2.2 cr).1 rfl
    have cj1 := CJ_k (x := x) (by omega) xp.1
    have cw1 := CW_k (x := x) (by omega) xp.1
    have b1 := cw1.1
    have l0 : (([] : List (Int × Int)).length : Int) = 0 := rfl
    have c41 := (CR_b cr1).2.2.1
    refine ifI (fun _ => ?_) (fun z => by omega)
    refine u_51_150 hx ⟨by omega, ifI (fun _ => ifI (fun z => by omega) (fun _ => ⟨T, n, _, Or.inl cr1, fun _ => by decide, hT, fun σ2 xp2 => ?_⟩)) (fun z => absurd ho.2 z)⟩
    have cr2 := (xp2.2.2 cr1).1 h2
    have cj2 := CJ_t cj1 (CJ_k (x := x) (by omega) xp2.1)
    have cw2 := CW_t cw1 (CW_k (x := x) (by omega) xp2.1)
    rw [List.append_nil] at cw2
    have b2 := cw2.1
    obtain ⟨e0, he0⟩ : ∃ e0, e0 = nx T n (nx T n s) := ⟨_, rfl⟩
    rw [← he0] at K cr2 nb2
    refine sum e0 σ2 τ _ cr2 (by omega) (fun σ3 co => ?_)
    have cj3 := CJ_t cj2 co.1
    by_cases e : (sumO T n (oneK T n k) e0).1 = 0
    · obtain ⟨cr3, cw3⟩ := co.2.1 e
      have so := (sumO_ok (T := T) n3 rok (s := e0) (by omega) (by omega)).1 e
      have cw3' := CW_t cw2 cw3
      rw [List.nil_append] at cw3'
      have b3 := cw3'.1
      obtain ⟨s3, hs3⟩ : ∃ s3, s3 = (sumO T n (oneK T n k) e0).2.1 := ⟨_, rfl⟩
      rw [← hs3] at so cr3
      refine u_51_211 hx ⟨by omega, ifI (fun z => absurd z (by decide)) (fun _ => ⟨T, n, s3, Or.inl cr3, fun _ => by decide, hT, fun σ4 xp4 => ?_⟩)⟩
      have cj4 := CJ_t cj3 (CJ_k (x := x) (by omega) xp4.1)
      have cw4 := CW_t cw3' (CW_k (x := x) (by omega) xp4.1)
      rw [List.append_nil] at cw4
      have b4 := cw4.1
      by_cases c : tk T n s3 = 35
      · have cr4 := (xp4.2.2 cr3).1 c
        have sn3 := tk_n (T := T) (n := n) (s := s3) (by omega)
        have nb3 := nx_b (T := T) sn3
        refine sum (nx T n s3) σ4 τ _ cr4 (by omega) (fun σ5 co5 => ?_)
        have cj5 := CJ_t cj4 co5.1
        by_cases f : (sumO T n (oneK T n k) (nx T n s3)).1 = 0
        · obtain ⟨cr5, cw5⟩ := co5.2.1 f
          have so5 := (sumO_ok (T := T) n3 rok (s := nx T n s3) (by omega) (by omega)).1 f
          have cw5' := CW_t cw4 cw5
          have b5 := cw5'.1
          have l5 := len_a (sumO T n (oneK T n k) e0).2.2 (sumO T n (oneK T n k) (nx T n s3)).2.2
          refine u_51_230 hx ⟨cj5.2.2.2 (by omega), by omega, fun σ6 cj6 e6 w6 => ⟨T, n, _, Or.inl (CR_j (by omega) cr5 cj6 e6 (by omega)), fun _ => by decide, hT, fun σ7 xp7 => u_51_242 hx ?_⟩⟩
          have cr6 := CR_j (by omega) cr5 cj6 e6 (by omega)
          have st : tk T n s * 10000 + 0 = stE (tk T n s - 14) 0 := by
            rcases h1 with h1 | h1 <;> (rw [h1]; decide)
          have cw6 := CW_t cw5' (CW_1 (y := (tk T n s - 14, 0)) (w6 (by omega)) st)
          have cj7 := CJ_t (CJ_t cj5 cj6) (CJ_k (x := x) (by omega) xp7.1)
          have cw7 := CW_t cw6 (CW_k (x := x) (by omega) xp7.1)
          rw [List.append_nil] at cw7
          by_cases g : tk T n (sumO T n (oneK T n k) (nx T n s3)).2.1 = 34
          · have pe := parO_b (T := T) f g
            refine K σ7 (CO_ok (e := nx T n (sumO T n (oneK T n k) (nx T n s3)).2.1) (L := (sumO T n (oneK T n k) e0).2.2 ++ (sumO T n (oneK T n k) (nx T n s3)).2.2 ++ [(tk T n s - 14, 0)]) ?_ cj7 ((xp7.2.2 cr6).1 g) cw7)
            rw [pairO_d e (by rw [← hs3]; exact c) (by rw [← hs3, pe]), ← hs3, pe]
          · have pe := parO_c (T := T) f g
            refine K σ7 (CO_er (r := 1) (e := (sumO T n (oneK T n k) (nx T n s3)).2.1) (M := []) ?_ (by decide) cj7 ((xp7.2.2 cr6).2 g))
            rw [pairO_c e (by rw [← hs3]; exact c) (by rw [← hs3, pe]; exact (show (1 : Int) ≠ 0 by decide)), ← hs3, pe]
        · have cd := co5.2.2 f
          have pe := parO_a (T := T) f
          refine f_230 hx (CD_F cd f) (cj5.2.2.2 (by omega)) (by omega) (fun σ6 cj6 e6 => K σ6 (CO_er (r := (sumO T n (oneK T n k) (nx T n s3)).1) (e := (sumO T n (oneK T n k) (nx T n s3)).2.1) (M := []) ?_ f (CJ_t cj5 cj6) (CD_e cd e6)))
          rw [pairO_c e (by rw [← hs3]; exact c) (by rw [← hs3, pe]; exact f), ← hs3, pe]
      · have cd := (xp4.2.2 cr3).2 c
        refine f_sum _ x _ σ4 τ _ hx (CD_F cd (by decide)) (f_230 hx (CD_F cd (by decide)) (cj4.2.2.2 (by omega)) (by omega) (fun σ5 cj5 e5 => K σ5 (CO_er (r := 1) (e := s3) (M := []) ?_ (by decide) (CJ_t cj4 cj5) (CD_e cd e5))))
        rw [pairO_b e (by rw [← hs3]; exact c), ← hs3]
    · have cd := co.2.2 e
      exact f_211 hx (CD_F cd e) (cj3.2.2.2 (by omega)) (by omega) (by omega) (fun σ4 cj4 e4 => K σ4 (CO_er (pairO_a e) e (CJ_t cj3 cj4) (CD_e cd e4)))
/-- what stands for itself -/
theorem c_lf (hT : TB T n) {D x : Nat} {o : Int} (hx : oT S x) {s : Int} {y : Int × Int} {σ τ : zI} {Q : zQ} (h : lfV T n s y) (cr : CR T n s σ) (hb : 0 ≤ σ x 2 ∧ σ x 2 ≤ s) (K : ∀ σ1, CO x T n (0, nx T n s, [y]) σ σ1 → Q none S σ1 τ) : wi (D + 8) 51 0 [.ref 63, .ref x, .int (wI o), .retAddr 0, .retAddr 0] [] S σ τ Q := by
  have xb := oT_b hx
  have n3 := hT.1.2
  have sb := CR_s cr hT.1.1
  have cb := CR_b cr
  have c4 := cb.2.2.1
  have sn := lfV_n h
  have nb := nx_b (T := T) sn
  rcases h with ⟨h1, h2, rfl⟩ | ⟨h1, rfl⟩
  · have c66 := cb.2.2.2.2 (by omega)
    have nn := nm_nv hT sb h1
    have tm : Int.tmod (σ 66 (σ 63 3)) 10000 = nm T n s := by
      rw [c66, show nv T s (tE T n s) = nm T n s by omega]
      exact Int.tmod_eq_of_lt nn.2 (by omega)
    refine u_51_0 hx (ifI (fun z => by omega) (fun _ => ifI (fun z => by omega) (fun _ => ?_)))
    refine u_51_22 hx ⟨by omega, ifI (fun _ => ifI (fun z => by omega) (fun _ => ⟨by omega, ifI (fun _ => ?_) (fun z => by omega)⟩)) (fun z => by omega)⟩
    refine ⟨by omega, by omega, fun σ1 cj1 e1 w1 => ⟨T, n, s, Or.inl (CR_j (by omega) cr cj1 e1 (by omega)), fun _ => by decide, hT, fun σ2 xp => ?_⟩⟩
    have cr1 := CR_j (by omega) cr cj1 e1 (by omega)
    have st : 2 * 10000 + Int.tmod (σ 66 (σ 63 3)) 10000 = stE 0 (nm T n s) := by
      rw [tm]
      show _ = 20000 + nm T n s
      omega
    have cw := CW_t (CW_1 (y := (0, nm T n s)) (w1 (by omega)) st) (CW_k (x := x) (by omega) xp.1)
    rw [List.append_nil] at cw
    exact K σ2 (CO_ok rfl (CJ_t cj1 (CJ_k (x := x) (by omega) xp.1)) ((xp.2.2 cr1).1 h1) cw)
  · refine u_51_0 hx (ifI (fun z => by omega) (fun _ => ifI (fun z => by omega) (fun _ => ?_)))
    refine u_51_22 hx ⟨by omega, ifI (fun z => by omega) (fun _ => u_51_85 hx ⟨by omega, ifI (fun z => by omega) (fun _ => ifI (fun z => by omega) (fun _ => ?_))⟩)⟩
    refine ⟨by omega, by omega, fun σ1 cj1 e1 w1 => ⟨T, n, s, Or.inl (CR_j (by omega) cr cj1 e1 (by omega)), fun _ => by omega, hT, fun σ2 xp => ?_⟩⟩
    have cr1 := CR_j (by omega) cr cj1 e1 (by omega)
    have st : σ 63 4 * 10000 + 0 = stE 1 (tk T n s - 16) := by
      rw [c4]
      show _ = (16 + (tk T n s - 16)) * 10000
      omega
    have cw := CW_t (CW_1 (y := (1, tk T n s - 16)) (w1 (by omega)) st) (CW_k (x := x) (by omega) xp.1)
    rw [List.append_nil] at cw
    exact K σ2 (CO_ok rfl (CJ_t cj1 (CJ_k (x := x) (by omega) xp.1)) ((xp.2.2 cr1).1 c4.symm) cw)
/-- a fault -/
theorem c_er (hT : TB T n) {D x : Nat} {o : Int} (hx : oT S x) (ho : 0 ≤ o ∧ o ≤ 8) {s r e : Int} {σ τ : zI} {Q : zQ} (h : erV T n s o r e) (cr : CR T n s σ) (hb : 0 ≤ σ x 2 ∧ σ x 2 ≤ s) (K : ∀ σ1, CO x T n (r, e, []) σ σ1 → Q none S σ1 τ) : wi (D + 8) 51 0 [.ref 63, .ref x, .int (wI o), .retAddr 0, .retAddr 0] [] S σ τ Q := by
  have xb := oT_b hx
  have n3 := hT.1.2
  have sb := CR_s cr hT.1.1
  have cb := CR_b cr
  have c4 := cb.2.2.1
  have tkb := (rk_tk (s := s) hT sb).2.2.2.2.2.1
  have e142 : ∀ (s' x3 x4 : Int) (σ' : zI), CR T n s' σ' → CJ x σ σ' → r = 1 → e = s' → wi (D + 8) 51 142 [.ref 63, .ref x, .int (wI o), .int (wI x3), .int (wI x4)] [] S σ' τ Q := fun s' x3 x4 σ' cr' cj' hr he => u_51_142 hx ⟨T, n, s', Or.inl cr', hT, fun σ1 ck _ cd => u_51_242 hx (K σ1 (CO_er rfl (by omega) (CJ_t cj' (CJ_k (x := x) (by omega) ck)) (by rw [hr, he]; exact cd cr')))⟩
  have e150 : ∀ (s' x3 x4 : Int) (σ' : zI), CR T n s' σ' → CJ x σ σ' → o = 8 → r = 3 → e = s' → wi (D + 8) 51 150 [.ref 63, .ref x, .int (wI o), .int (wI x3), .int (wI x4)] [] S σ' τ Q := fun s' x3 x4 σ' cr' cj' ho8 hr he => u_51_150 hx ⟨by omega, ifI (fun z => by omega) (fun _ => ⟨T, n, s', Or.inl cr', hT, fun σ1 ck _ cd => u_51_242 hx (K σ1 (CO_er rfl (by omega) (CJ_t cj' (CJ_k (x := x) (by omega) ck)) (by rw [hr, he]; exact cd cr')))⟩)⟩
  rcases h with ⟨h1, h2, hr, he⟩ | ⟨h1, h2, hr, he⟩ | ⟨h0, h1, h2, hr, he⟩ | ⟨h0, h1, hr, he⟩ | ⟨h1, h2, h3, h4, hr, he⟩
  · have c66 := cb.2.2.2.2 (by omega)
    have nn := nm_nv hT sb h1
    refine u_51_0 hx (ifI (fun z => by omega) (fun _ => ifI (fun z => by omega) (fun _ => ?_)))
    refine u_51_22 hx ⟨by omega, ifI (fun _ => ifI (fun z => by omega) (fun _ => ⟨by omega, ifI (fun z => by omega) (fun _ => ?_)⟩)) (fun z => by omega)⟩
    refine ⟨T, n, s, Or.inl cr, hT, fun σ1 ck _ cd => ?_⟩
    have cd1 := cd cr
    have fl1 := CD_F cd1 (by decide)
    have cj1 := CJ_k (x := x) (by omega) ck
    have tm := tm_b (σ1 66 (σ1 63 3))
    refine ⟨⟨cd1.2.2.1, by have := cd1.2.2.2.2.2; omega⟩, cj1.2.2.2 (by omega), by omega, fun σ2 cj2 e2 _ => ⟨fun _ => 0, 0, 0, Or.inr (CFS_e fl1 e2), fun z => absurd z (cr_no (CFS_e fl1 e2)), TB_0, fun σ3 xp => ?_⟩⟩
    rw [xp.2.1 (CFS_e fl1 e2)]
    exact K σ2 (CO_er rfl (by omega) (CJ_t cj1 cj2) (by rw [hr, he]; exact CD_e cd1 e2))
  · have sn := tk_n (T := T) (n := n) (s := s) (by omega)
    refine s_109 hx (by omega) (by omega) (by omega) (fun _ => ?_) (fun z => by omega)
    rw [c4]
    refine u_51_109 hx ⟨by omega, ifI (fun z => absurd z (by decide)) (fun _ => ⟨T, n, s, Or.inl cr, fun _ => by omega, by omega, hT, fun σ1 xp => ?_⟩)⟩
    have cr1 := (xp.2.2 cr).1 rfl
    have c41 := (CR_b cr1).2.2.1
    exact ifI (fun z => absurd (c41.symm.trans z) h2) (fun _ => e142 _ _ _ σ1 cr1 (CJ_k (x := x) (by omega) xp.1) hr he)
  · have sn := tk_n (T := T) (n := n) (s := s) (by omega)
    refine s_109 hx (by omega) (by omega) (by omega) (fun _ => ?_) (fun z => by omega)
    rw [c4]
    refine u_51_109 hx ⟨by omega, ifI (fun z => absurd z (by decide)) (fun _ => ⟨T, n, s, Or.inl cr, fun _ => by omega, by omega, hT, fun σ1 xp => ?_⟩)⟩
    have cr1 := (xp.2.2 cr).1 rfl
    have c41 := (CR_b cr1).2.2.1
    exact ifI (fun _ => e150 _ _ _ σ1 cr1 (CJ_k (x := x) (by omega) xp.1) h0 hr he) (fun z => absurd (c41.trans h2) z)
  · refine s_109 hx (by omega) (by omega) (by omega) (fun z => by omega) (fun _ => ?_)
    exact u_51_109 hx ⟨by omega, ifI (fun _ => ifI (fun _ => e150 _ _ _ σ cr CJ_0 h0 hr he) (fun _ => ifI (fun _ => e150 _ _ _ σ cr CJ_0 h0 hr he) (fun z => by omega))) (fun z => absurd rfl z)⟩
  · refine s_109 hx (by omega) (by omega) (by omega) (fun z => by omega) (fun _ => ?_)
    exact u_51_109 hx ⟨by omega, ifI (fun _ => ifI (fun z => by omega) (fun _ => ifI (fun z => by omega) (fun _ => e142 _ _ _ σ cr CJ_0 hr he))) (fun z => absurd rfl z)⟩
theorem c_one (hT : TB T n) : ∀ k : Nat, k ≤ 8 → OneP S T n k
  | k, hk => by
    intro d x s σ τ Q hx cr hb K
    have n3 := hT.1.2
    refine wc_of mi_51 rfl ?_
    rcases one_3 (T := T) (n := n) s (8 - k) with ⟨y, h⟩ | ⟨w, e, h, h8⟩ | ⟨r, e, h⟩
    · rw [oneK_v h] at K
      exact c_lf hT hx h cr hb K
    · cases k with
      | zero => exact absurd rfl h8
      | succ k =>
        have ih := c_one hT k (by omega)
        rw [oneK_o h] at K
        have h7 : (8 : Int) - ((k + 1 : Nat) : Int) + 1 = 8 - (k : Int) := by omega
        rw [show d + 2 * (k + 1) + 8 = (d + 2 * k + 1) + 9 by omega]
        refine c_op hT hx (by omega) (k := k) (by omega) ?_ ?_ h cr hb K
        · intro s' σ' τ' Q' cr' hb' K'
          rw [h7, show d + 2 * k + 1 + 8 = (d + 1) + 2 * k + 8 by omega]
          exact ih (d + 1) x s' σ' τ' Q' hx cr' hb' K'
        · intro s' σ' τ' Q' cr' hb' K'
          rw [h7]
          exact c_sum hT (by omega) ih d x s' σ' τ' Q' hx cr' hb' K'
    · rw [oneK_e h hk] at K
      exact c_er hT hx (by omega) h cr hb K
end CNE
