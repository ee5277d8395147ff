/-! ===== the reference reads: NUMBERS of CLAUSES (segments printed by wip/whole, contracts own work) ===== -/
/-- places written one behind the other -/
def wrs (f : Int → Int) : List (Int × Int) → Int → Int
  | [] => f
  | x :: W => wrs (u1 f x.1 x.2) W
theorem wrs_a (f : Int → Int) : ∀ (W V : List (Int × Int)), wrs f (W ++ V) = wrs (wrs f W) V
  | [], _ => rfl
  | x :: W, V => wrs_a (u1 f x.1 x.2) W V
theorem wrs_c {k : Int} : ∀ (W : List (Int × Int)) (f g : Int → Int), f k = g k → wrs f W k = wrs g W k
  | [], _, _, h => h
  | x :: W, f, g, h => wrs_c W _ _ (by
    by_cases c : k = x.1
    · rw [c, u1_s, u1_s]
    · rw [u1_n c, u1_n c]; exact h)
theorem wrs_n {k : Int} : ∀ (W : List (Int × Int)) (f : Int → Int), (∀ x, x ∈ W → x.1 ≠ k) → wrs f W k = f k
  | [], _, _ => rfl
  | x :: W, f, h => by
    have : wrs f (x :: W) k = wrs (u1 f x.1 x.2) W k := rfl
    rw [this, wrs_n W _ (fun y hy => h y (List.mem_cons_of_mem _ hy)), u1_n (fun z => h x (List.mem_cons_self) z.symm)]
def okW (b : Int) (W : List (Int × Int)) : Prop := ∀ x, x ∈ W → b ≤ x.1 ∧ x.1 < b + 200
/-- what reading changes: code and places of CLAUSES -/
def PGc (σ σ1 τ τ1 : zI) (L W : List (Int × Int)) (e : Int) : Prop := (σ1 83 14 = σ 83 14 + L.length ∧ WRL (σ1 84) (σ 83 12 + 200) (σ 83 14) L ∧ okW (σ 83 12) W ∧ ∀ k, k < σ 83 12 + 200 + 2 * σ 83 14 ∨ σ 83 12 + 200 + 2 * (σ 83 14 + L.length) ≤ k → σ1 84 k = wrs (σ 84) W k) ∧ (∀ c, c ≠ 83 → c ≠ 84 → c ≠ 88 → σ1 c = σ c) ∧ (∀ k, k < 7 ∨ (11 ≤ k ∧ k < 13) ∨ k = 15 ∨ 18 < k → σ1 83 k = σ 83 k) ∧ (∀ c, c ≠ 83 → τ1 c = τ c) ∧ (∀ k, k ≠ 11 → τ1 83 k = τ 83 k) ∧ σ1 83 13 = σ 83 13 + e
section PGS
variable {σ σ1 σ2 τ τ1 τ2 : zI} {L M W V : List (Int × Int)} {e e2 : Int}
theorem PGc_P (h : PF σ σ1 τ τ1 L) : PGc σ σ1 τ τ1 L [] 0 := by
  obtain ⟨⟨h1, h2, h3⟩, h4, h5, h6, h7⟩ := h
  exact ⟨⟨h1, h2, fun x hx => (List.not_mem_nil hx).elim, h3⟩, h4, fun k hk => h5 k (by omega), h6, h7, by rw [h5 13 (by omega)]; omega⟩
theorem PGc_t (h : PGc σ σ1 τ τ1 L W e) (g : PGc σ1 σ2 τ1 τ2 M V e2) (h0 : 0 ≤ σ 83 14) : PGc σ σ2 τ τ2 (L ++ M) (W ++ V) (e + e2) := by
  obtain ⟨⟨h1, h2, hW, h3⟩, h4, h5, h6, h7, h8⟩ := h
  obtain ⟨⟨g1, g2, gW, g3⟩, g4, g5, g6, g7, g8⟩ := g
  have e12 : σ1 83 12 = σ 83 12 := h5 12 (by omega)
  have hl : ((L ++ M).length : Int) = (L.length : Int) + (M.length : Int) := by rw [List.length_append]; omega
  rw [e12] at g2 gW g3
  rw [h1] at g2 g3
  refine ⟨⟨by rw [g1, h1, hl]; omega, WRL_a L M _ (WRL_f L _ (fun k k0 k1 => ?_) h2) g2, fun x hx => ?_, fun k hk => ?_⟩, fun c c1 c2 c3 => (g4 c c1 c2 c3).trans (h4 c c1 c2 c3), fun k hk => (g5 k hk).trans (h5 k hk), fun c hc => (g6 c hc).trans (h6 c hc), fun k hk => (g7 k hk).trans (h7 k hk), by rw [g8, h8]; omega⟩
  · rw [g3 k (by omega)]
    exact wrs_n V _ (fun x hx z => by have := gW x hx; omega)
  · rcases List.mem_append.mp hx with z | z
    · exact hW x z
    · exact gW x z
  · rw [g3 k (by omega), wrs_a]
    exact wrs_c V _ _ (h3 k (by omega))
theorem PGc_n (h : PGc σ σ1 τ τ1 L W e) (g : PF σ1 σ2 τ1 τ2 []) (h0 : 0 ≤ σ 83 14) : PGc σ σ2 τ τ2 L W e := by
  have := PGc_t h (PGc_P g) h0
  rw [List.append_nil, List.append_nil, Int.add_zero] at this
  exact this
/-- one place of a CLAUSE -/
theorem PGc_w {j v : Int} (hj : σ 83 12 ≤ j ∧ j < σ 83 12 + 200) : PGc σ (uc σ 84 (u1 (σ 84) j v)) τ τ [] [(j, v)] 0 := by
  refine ⟨⟨?_, trivial, fun x hx => ?_, fun k _ => ?_⟩, fun c c1 c2 c3 => uc_n c2, fun k hk => ?_, fun _ _ => rfl, fun _ _ => rfl, ?_⟩
  · rw [uc_n (by decide), List.length_nil]; omega
  · rw [List.mem_singleton.mp hx]; exact hj
  · rw [uc_s]; rfl
  · rw [uc_n (by decide)]
  · rw [uc_n (by decide)]; omega
end PGS
theorem TR_84 {T : Int → Int} {n s : Int} {σ τ : zI} {f : Int → Int} (h : TR T n s σ τ) : TR T n s (uc σ 84 f) τ := TR_f h (uc_n (by decide)) (fun k _ => by rw [uc_n (by decide)]) rfl
/-- fault, place, code, places -/
abbrev RW := Int × Int × List (Int × Int) × List (Int × Int)
section CLS
variable (T : Int → Int) (n : Int)
def numO (lo hi j s : Int) : RW := if tk T n s = 2 then (if lo ≤ nm T n s ∧ nm T n s ≤ hi then (0, nx T n s, [], [(j, nm T n s)]) else (2, s, [], [])) else (1, s, [], [])
def nedO (t s : Int) : RW := if tk T n s = t then (0, nx T n s, [], []) else (1, s, [], [])
def bnd (A : RW) (f : Int → RW) : RW := if A.1 ≠ 0 then (A.1, A.2.1, [], []) else if (f A.2.1).1 ≠ 0 then ((f A.2.1).1, (f A.2.1).2.1, [], []) else (0, (f A.2.1).2.1, A.2.2.1 ++ (f A.2.1).2.2.1, A.2.2.2 ++ (f A.2.1).2.2.2)
def ageO (q s : Int) : RW := bnd (numO T n 0 99 (q + 1) s) fun s1 => bnd (nedO T n 12 s1) fun s2 => bnd (numO T n (nm T n s) 99 (q + 2) s2) fun s3 => bnd (nedO T n 13 s3) fun s4 => numO T n 0 80 (q + 3) s4
def smO (q c s : Int) : RW := if (sumO T n (oneK T n 8) s).1 ≠ 0 then ((sumO T n (oneK T n 8) s).1, (sumO T n (oneK T n 8) s).2.1, [], []) else (0, (sumO T n (oneK T n 8) s).2.1, (sumO T n (oneK T n 8) s).2.2, [(q + 6, c), (q + 7, c + (sumO T n (oneK T n 8) s).2.2.length)])
def srtO (t : Int) : Int := if t = 3 then 1 else if t = 4 then 2 else if t = 5 then 4 else if 6 ≤ t ∧ t ≤ 9 then t else 0
/-- what reading comes to -/
def GF (σ τ : zI) (R : RW) (σ1 τ1 : zI) : Prop := TR T n R.2.1 σ1 τ1 ∧ (R.1 = 0 → PGc σ σ1 τ τ1 R.2.2.1 R.2.2.2 0 ∧ σ1 83 17 = σ 83 17) ∧ ∃ L W, PGc σ σ1 τ τ1 L W 0 ∧ σ1 83 14 ≤ 310
end CLS
section CLT
variable {T : Int → Int} {n : Int} {A : RW} {f : Int → RW} {σ σ1 σ2 τ τ1 τ2 : zI}
theorem bnd_1 (e : A.1 ≠ 0) : bnd A f = (A.1, A.2.1, [], []) := if_pos e
theorem bnd_2 (e : A.1 = 0) : (bnd A f).1 = (f A.2.1).1 := by
  unfold bnd
  rw [if_neg (by omega)]
  by_cases c : (f A.2.1).1 ≠ 0
  · rw [if_pos c]
  · rw [if_neg c]
    show (0 : Int) = _
    omega
theorem GF_1 (e : A.1 ≠ 0) (g : GF T n σ τ A σ1 τ1) : GF T n σ τ (bnd A f) σ1 τ1 := by
  rw [bnd_1 e]
  exact ⟨g.1, fun z => absurd z e, g.2.2⟩
theorem GF_2 (e : A.1 = 0) (g : GF T n σ τ A σ1 τ1) (h0 : 0 ≤ σ 83 14) (h : GF T n σ1 τ1 (f A.2.1) σ2 τ2) : GF T n σ τ (bnd A f) σ2 τ2 := by
  obtain ⟨_, g2, _⟩ := g
  obtain ⟨h1, h2, L, W, h3, h4⟩ := h
  obtain ⟨pg, g17⟩ := g2 e
  unfold bnd
  rw [if_neg (by omega)]
  by_cases c : (f A.2.1).1 ≠ 0
  · rw [if_pos c]
    exact ⟨h1, fun z => absurd z c, _, _, PGc_t pg h3 h0, h4⟩
  · rw [if_neg c]
    obtain ⟨ph, h17⟩ := h2 (by omega)
    exact ⟨h1, fun _ => ⟨PGc_t pg ph h0, h17.trans g17⟩, _, _, PGc_t pg h3 h0, h4⟩
/-- a fault where it stands -/
theorem GF_e {r e : Int} (hr : r ≠ 0) (tr : TR T n e σ τ) (b : σ 83 14 ≤ 310) : GF T n σ τ (r, e, [], []) σ τ := ⟨tr, fun z => absurd z hr, [], [], PGc_P PF_0, b⟩
theorem GF_v {e : Int} {W : List (Int × Int)} (tr : TR T n e σ1 τ1) (pg : PGc σ σ1 τ τ1 [] W 0) (h17 : σ1 83 17 = σ 83 17) (b : σ 83 14 ≤ 310) : GF T n σ τ (0, e, [], W) σ1 τ1 := ⟨tr, fun _ => ⟨pg, h17⟩, [], W, pg, by
  have : σ1 83 14 = σ 83 14 + (([] : List (Int × Int)).length : Int) := pg.1.1
  rw [List.length_nil] at this
  omega⟩
end CLT
-- method 237: MillTownModel.take(III)I
theorem c_237_0 : pg_cd 237 0 = (5, 1, 0, 0, 0) := by decide +kernel
theorem c_237_1 : pg_cd 237 1 = (43, 12, 144, 9, 0) := by decide +kernel
theorem c_237_4 : pg_cd 237 4 = (1, 1, 0, 0, 1) := by decide +kernel
theorem c_237_5 : pg_cd 237 5 = (37, 3, 0, 0, 5) := by decide +kernel
theorem c_237_8 : pg_cd 237 8 = (1, 1, 0, 0, 1) := by decide +kernel
theorem c_237_9 : pg_cd 237 9 = (90, 0, 0, 0, 0) := by decide +kernel
theorem c_237_10 : pg_cd 237 10 = (5, 1, 0, 0, 0) := by decide +kernel
theorem c_237_11 : pg_cd 237 11 = (43, 12, 150, 10, 0) := by decide +kernel
theorem c_237_14 : pg_cd 237 14 = (3, 1, 0, 1, 0) := by decide +kernel
theorem c_237_15 : pg_cd 237 15 = (3, 1, 0, 2, 0) := by decide +kernel
theorem c_237_16 : pg_cd 237 16 = (81, 196, 76, 0, 0) := by decide +kernel
theorem c_237_19 : pg_cd 237 19 = (36, 3, 0, 1, 5) := by decide +kernel
theorem c_237_22 : pg_cd 237 22 = (1, 1, 0, 0, 2) := by decide +kernel
theorem c_237_23 : pg_cd 237 23 = (90, 0, 0, 0, 0) := by decide +kernel
theorem c_237_24 : pg_cd 237 24 = (5, 1, 0, 0, 0) := by decide +kernel
theorem c_237_25 : pg_cd 237 25 = (45, 12, 8, 0, 0) := by decide +kernel
theorem c_237_28 : pg_cd 237 28 = (3, 1, 0, 3, 0) := by decide +kernel
theorem c_237_29 : pg_cd 237 29 = (5, 1, 0, 0, 0) := by decide +kernel
theorem c_237_30 : pg_cd 237 30 = (43, 12, 150, 10, 0) := by decide +kernel
theorem c_237_33 : pg_cd 237 33 = (54, 1, 0, 0, 0) := by decide +kernel
theorem c_237_34 : pg_cd 237 34 = (5, 1, 0, 0, 0) := by decide +kernel
theorem c_237_35 : pg_cd 237 35 = (80, 231, 168, 0, 0) := by decide +kernel
theorem c_237_38 : pg_cd 237 38 = (1, 1, 0, 0, 0) := by decide +kernel
theorem c_237_39 : pg_cd 237 39 = (90, 0, 0, 0, 0) := by decide +kernel
theorem mi_237 : pg_mc 237 = 12 ∧ pg_na 237 = 3 ∧ pg_mx 237 = 4 := by decide +kernel
set_option maxRecDepth 20000 in
theorem u_237_0 {d : Nat} {S : zS} {σ τ : zI} {Q : zQ} {x1 : Int} {x2 : Int} {x3 : Int} (t : if (σ 83 9) = 1 then ((rg x1) ∧ (rg x2) ∧ if x1 ≤ (σ 83 10) ∧ (σ 83 10) ≤ x2 then ((0 ≤ x3 ∧ x3 < 112300) ∧ ∃ T7 : Int → Int, ∃ n8 : Int, ∃ s9 : Int, (TB T7 n8) ∧ (TR T7 n8 s9 (uc σ 84 (u1 (σ 84) x3 (σ 83 10))) τ) ∧ (s9 < n8) ∧ ∀ (σ113 : zI) (τ114 : zI), FK (uc σ 84 (u1 (σ 84) x3 (σ 83 10))) σ113 τ τ114 → TR T7 n8 (nx T7 n8 s9) σ113 τ114 → Q (some (.int (wI 0))) S σ113 τ114) else (Q (some (.int (wI 2))) S σ τ)) else (Q (some (.int (wI 1))) S σ τ)) : wi (d + 6) 237 0 [.ref 83, .int (wI x1), .int (wI x2), .int (wI x3)] [] S σ τ Q := by
  refine i5 c_237_0 rfl (wi_ok (fun K1 => ?_))
  refine i43 (v := σ 83 9) c_237_1 (lo (c := 83) (kd := 112) (n := 0) rfl (by decide)) rfl (i1 c_237_4 ?_)
  refine i37 c_237_5 (rge_ K1 rfl) (by decide) rfl (fun hc => ?_) (fun hc => ?_)
  · have t := iT t hc
    have ha2 : (σ 83 9) = 1 := hc
    obtain ⟨r3, t⟩ := t
    obtain ⟨r4, t⟩ := t
    refine i5 c_237_10 rfl (i43 (v := σ 83 10) c_237_11 (lo (c := 83) (kd := 112) (n := 0) rfl (by decide)) rfl (i3 c_237_14 rfl (i3 c_237_15 rfl ?_)))
    refine i81 (As := [.int (wI (σ 83 10)), .int (wI x1), .int (wI x2)]) (rest := []) c_237_16 mi_196 rfl rfl (Nat.le_of_ble_eq_true rfl) (Nat.le_of_ble_eq_true rfl) (q_196 (rge_ K1 rfl) r3 r4 ?_)
    show wi (d + 6) 237 19 [.ref 83, .int (wI x1), .int (wI x2), .int (wI x3)] [.int (wI (if x1 ≤ (σ 83 10) ∧ (σ 83 10) ≤ x2 then 1 else 0))] S σ τ Q
    refine i36f c_237_19 rfl (fun hc => ?_) (fun hc => ?_)
    · have t := iT t hc
      have ha5 : x1 ≤ (σ 83 10) ∧ (σ 83 10) ≤ x2 := hc
      obtain ⟨r6, t⟩ := t
      obtain ⟨T7, t⟩ := t
      obtain ⟨n8, t⟩ := t
      obtain ⟨s9, t⟩ := t
      obtain ⟨p10, t⟩ := t
      obtain ⟨p11, t⟩ := t
      obtain ⟨p12, t⟩ := t
      refine i5 c_237_24 rfl (i45 c_237_25 (lo (c := 83) (kd := 112) (n := 0) rfl (by decide)) (lro (c := 83) (k := 0) (j := 84) (by decide)) (i3 c_237_28 rfl (i5 c_237_29 rfl (i43 (v := σ 83 10) c_237_30 (lo (c := 83) (kd := 112) (n := 0) rfl (by decide)) rfl (i54 (σ1 := uc σ 84 (u1 (σ 84) x3 (σ 83 10))) c_237_33 (lo (c := 84) (kd := 0) (n := 112300) rfl (by decide)) (by decide) r6 (by decide) rfl (rge_ K1 rfl) (wr_ rfl rfl) (i5 c_237_34 rfl ?_))))))
      refine i80 (As := []) (rest := []) c_237_35 mi_231 rfl rfl (Nat.le_of_ble_eq_true rfl) (Nat.le_of_ble_eq_true rfl) (lo (c := 83) (kd := 112) (n := 0) rfl (by decide)) (q_231t (T := T7) (n := n8) (s := s9) p10 p11 p12 (fun σ113 τ114 q15 q16 => ?_))
      have t := t σ113 τ114 q15 q16
      show wi (d + 6) 237 38 [.ref 83, .int (wI x1), .int (wI x2), .int (wI x3)] [] S σ113 τ114 Q
      refine i1 c_237_38 ?_
      exact i90 c_237_39 t
    · have t := iF t hc
      have ha5 : ¬ (x1 ≤ (σ 83 10) ∧ (σ 83 10) ≤ x2) := hc
      refine i1 c_237_22 ?_
      exact i90 c_237_23 t
  · have t := iF t hc
    have ha2 : ¬ ((σ 83 9) = 1) := hc
    refine i1 c_237_8 ?_
    exact i90 c_237_9 t
theorem q_237 {d : Nat} {S : zS} {σ τ : zI} {Q : zQ} {lo : Int} {hi : Int} {j : Int} {T : Int → Int} {n : Int} {s : Int} (p0 : TB T n) (p1 : TR T n s σ τ) (p2 : EB σ) (p3 : σ 83 12 ≤ j ∧ j < σ 83 12 + 200) (p4 : rg lo) (p5 : rg hi) (t : ∀ (σ1 : zI) (τ1 : zI), 0 ≤ (numO T n lo hi j s).1 ∧ (numO T n lo hi j s).1 ≤ 4 → GF T n σ τ (numO T n lo hi j s) σ1 τ1 → Q (some (.int (wI ((numO T n lo hi j s).1)))) S σ1 τ1) : wc (d + 6) 237 [.ref 83, .int (wI lo), .int (wI hi), .int (wI j)] S σ τ Q := by
  obtain ⟨r1, _, _, sn, n2⟩ := rkA p0 p1.1
  have k9 := p1.2.2.2.2.1
  have fin : ∀ (R : RW) (σ1 τ1 : zI), numO T n lo hi j s = R → 0 ≤ R.1 ∧ R.1 ≤ 4 → GF T n σ τ R σ1 τ1 → Q (some (.int (wI R.1))) S σ1 τ1 := by
    intro R σ1 τ1 hR hr g
    have h := t σ1 τ1
    rw [hR] at h
    exact h hr g
  refine wc_of mi_237 rfl (u_237_0 (ifI (fun e => ?_) (fun e => ?_)))
  · have e2 : tk T n s = 2 := r1.mp (by rw [← k9]; exact e)
    have e10 : σ 83 10 = nm T n s := p1.2.2.2.2.2.1 (n2 e2).1 (n2 e2).2
    rw [e10]
    refine ⟨p4, p5, ifI (fun c => ⟨by have := p2.1; omega, T, n, s, p0, TR_84 p1, (n2 e2).1, fun σ2 τ2 fk tr => ?_⟩) (fun c => ?_)⟩
    · refine fin (0, nx T n s, [], [(j, nm T n s)]) σ2 τ2 ?_ (by show (0 : Int) ≤ 0 ∧ (0 : Int) ≤ 4; omega) (GF_v tr (PGc_n (PGc_w p3) (PF_F fk) p2.2.1) ?_ p2.2.2)
      · unfold numO
        rw [if_pos e2, if_pos c]
      · rw [fk.2.1 17 (by omega), uc_n (by decide)]
    · refine fin (2, s, [], []) σ τ ?_ (by show (0 : Int) ≤ 2 ∧ (2 : Int) ≤ 4; omega) (GF_e (by decide) p1 p2.2.2)
      unfold numO
      rw [if_pos e2, if_neg c]
  · refine fin (1, s, [], []) σ τ ?_ (by show (0 : Int) ≤ 1 ∧ (1 : Int) ≤ 4; omega) (GF_e (by decide) p1 p2.2.2)
    unfold numO
    rw [if_neg (fun z => e (by rw [k9]; exact r1.mpr z))]
-- method 236: MillTownModel.need(J)I
theorem c_236_0 : pg_cd 236 0 = (5, 1, 0, 0, 0) := by decide +kernel
theorem c_236_1 : pg_cd 236 1 = (4, 1, 0, 1, 0) := by decide +kernel
theorem c_236_2 : pg_cd 236 2 = (80, 235, 164, 0, 0) := by decide +kernel
theorem c_236_5 : pg_cd 236 5 = (36, 3, 0, 1, 5) := by decide +kernel
theorem c_236_8 : pg_cd 236 8 = (1, 1, 0, 0, 1) := by decide +kernel
theorem c_236_9 : pg_cd 236 9 = (90, 0, 0, 0, 0) := by decide +kernel
theorem c_236_10 : pg_cd 236 10 = (5, 1, 0, 0, 0) := by decide +kernel
theorem c_236_11 : pg_cd 236 11 = (80, 231, 168, 0, 0) := by decide +kernel
theorem c_236_14 : pg_cd 236 14 = (1, 1, 0, 0, 0) := by decide +kernel
theorem c_236_15 : pg_cd 236 15 = (90, 0, 0, 0, 0) := by decide +kernel
theorem mi_236 : pg_mc 236 = 12 ∧ pg_na 236 = 1 ∧ pg_mx 236 = 3 := by decide +kernel
set_option maxRecDepth 20000 in
theorem u_236_0 {d : Nat} {S : zS} {σ τ : zI} {Q : zQ} {x1 : Int} (t : (rj x1) ∧ if σ 83 9 = 2 ∧ τ 83 11 = x1 then (∃ T3 : Int → Int, ∃ n4 : Int, ∃ s5 : Int, (TB T3 n4) ∧ (TR T3 n4 s5 σ τ) ∧ (s5 < n4) ∧ ∀ (σ19 : zI) (τ110 : zI), FK σ σ19 τ τ110 → TR T3 n4 (nx T3 n4 s5) σ19 τ110 → Q (some (.int (wI 0))) S σ19 τ110) else (Q (some (.int (wI 1))) S σ τ)) : wi (d + 6) 236 0 [.ref 83, .long (wJ x1), .retAddr 0] [] S σ τ Q := by
  obtain ⟨p1, t⟩ := t
  refine i5 c_236_0 rfl (i4 c_236_1 rfl ?_)
  refine i80 (As := [.long (wJ x1)]) (rest := []) c_236_2 mi_235 rfl rfl (Nat.le_of_ble_eq_true rfl) (Nat.le_of_ble_eq_true rfl) (lo (c := 83) (kd := 112) (n := 0) rfl (by decide)) (q_235 p1 ?_)
  show wi (d + 6) 236 5 [.ref 83, .long (wJ x1), .retAddr 0] [.int (wI (if σ 83 9 = 2 ∧ τ 83 11 = x1 then 1 else 0))] S σ τ Q
  refine i36f c_236_5 rfl (fun hc => ?_) (fun hc => ?_)
  · have t := iT t hc
    have ha2 : σ 83 9 = 2 ∧ τ 83 11 = x1 := hc
    obtain ⟨T3, t⟩ := t
    obtain ⟨n4, t⟩ := t
    obtain ⟨s5, t⟩ := t
    obtain ⟨p6, t⟩ := t
    obtain ⟨p7, t⟩ := t
    obtain ⟨p8, t⟩ := t
    refine i5 c_236_10 rfl ?_
    refine i80 (As := []) (rest := []) c_236_11 mi_231 rfl rfl (Nat.le_of_ble_eq_true rfl) (Nat.le_of_ble_eq_true rfl) (lo (c := 83) (kd := 112) (n := 0) rfl (by decide)) (q_231t (T := T3) (n := n4) (s := s5) p6 p7 p8 (fun σ19 τ110 q11 q12 => ?_))
    have t := t σ19 τ110 q11 q12
    show wi (d + 6) 236 14 [.ref 83, .long (wJ x1), .retAddr 0] [] S σ19 τ110 Q
    refine i1 c_236_14 ?_
    exact i90 c_236_15 t
  · have t := iF t hc
    have ha2 : ¬ (σ 83 9 = 2 ∧ τ 83 11 = x1) := hc
    refine i1 c_236_8 ?_
    exact i90 c_236_9 t
theorem q_236 {d : Nat} {S : zS} {σ τ : zI} {Q : zQ} {v : Int} {T : Int → Int} {n : Int} {s : Int} {w : Int} (p0 : TB T n) (p1 : TR T n s σ τ) (p2 : EB σ) (p3 : rj v) (p4 : (3 ≤ w ∧ w ≤ 22) ∧ ∀ x, wcd x = w ↔ x = v) (t : ∀ (σ1 : zI) (τ1 : zI), 0 ≤ (nedO T n w s).1 ∧ (nedO T n w s).1 ≤ 4 → GF T n σ τ (nedO T n w s) σ1 τ1 → Q (some (.int (wI ((nedO T n w s).1)))) S σ1 τ1) : wc (d + 6) 236 [.ref 83, .long (wJ v)] S σ τ Q := by
  have tw := TR_w p1 p0 p4.1 p4.2
  have fin : ∀ (R : RW) (σ1 τ1 : zI), nedO T n w s = R → 0 ≤ R.1 ∧ R.1 ≤ 4 → GF T n σ τ R σ1 τ1 → Q (some (.int (wI R.1))) S σ1 τ1 := by
    intro R σ1 τ1 hR hr g
    have h := t σ1 τ1
    rw [hR] at h
    exact h hr g
  refine wc_of mi_236 rfl (u_236_0 ⟨p3, ifI (fun e => ⟨T, n, s, p0, p1, tk_n (T := T) (by have := tw.mp e; omega), fun σ2 τ2 fk tr => ?_⟩) (fun e => ?_)⟩)
  · refine fin (0, nx T n s, [], []) σ2 τ2 (if_pos (tw.mp e)) (by show (0 : Int) ≤ 0 ∧ (0 : Int) ≤ 4; omega) (GF_v tr (PGc_P (PF_F fk)) (fk.2.1 17 (by omega)) p2.2.2)
  · exact fin (1, s, [], []) σ τ (if_neg (fun z => e (tw.mpr z))) (by show (0 : Int) ≤ 1 ∧ (1 : Int) ≤ 4; omega) (GF_e (by decide) p1 p2.2.2)
-- method 255: MillTownModel.sortOf()I
theorem c_255_0 : pg_cd 255 0 = (5, 1, 0, 0, 0) := by decide +kernel
theorem c_255_1 : pg_cd 255 1 = (43, 12, 144, 9, 0) := by decide +kernel
theorem c_255_4 : pg_cd 255 4 = (1, 1, 0, 0, 2) := by decide +kernel
theorem c_255_5 : pg_cd 255 5 = (37, 3, 0, 0, 5) := by decide +kernel
theorem c_255_8 : pg_cd 255 8 = (1, 1, 0, 0, 0) := by decide +kernel
theorem c_255_9 : pg_cd 255 9 = (90, 0, 0, 0, 0) := by decide +kernel
theorem c_255_10 : pg_cd 255 10 = (5, 1, 0, 0, 0) := by decide +kernel
theorem c_255_11 : pg_cd 255 11 = (44, 12, 156, 11, 0) := by decide +kernel
theorem c_255_14 : pg_cd 255 14 = (1, 2, 0, 0, 112) := by decide +kernel
theorem c_255_16 : pg_cd 255 16 = (1, 2, 0, 0, 114) := by decide +kernel
theorem c_255_18 : pg_cd 255 18 = (1, 2, 0, 0, 105) := by decide +kernel
theorem c_255_20 : pg_cd 255 20 = (1, 2, 0, 0, 99) := by decide +kernel
theorem c_255_22 : pg_cd 255 22 = (1, 2, 0, 0, 101) := by decide +kernel
theorem c_255_24 : pg_cd 255 24 = (81, 233, 191, 0, 0) := by decide +kernel
theorem c_255_27 : pg_cd 255 27 = (28, 1, 0, 0, 0) := by decide +kernel
theorem c_255_28 : pg_cd 255 28 = (36, 3, 0, 1, 5) := by decide +kernel
theorem c_255_31 : pg_cd 255 31 = (1, 1, 0, 0, 1) := by decide +kernel
theorem c_255_32 : pg_cd 255 32 = (90, 0, 0, 0, 0) := by decide +kernel
theorem c_255_33 : pg_cd 255 33 = (5, 1, 0, 0, 0) := by decide +kernel
theorem c_255_34 : pg_cd 255 34 = (44, 12, 156, 11, 0) := by decide +kernel
theorem c_255_37 : pg_cd 255 37 = (1, 2, 0, 0, 101) := by decide +kernel
theorem c_255_39 : pg_cd 255 39 = (1, 2, 0, 0, 120) := by decide +kernel
theorem c_255_41 : pg_cd 255 41 = (1, 2, 0, 0, 116) := by decide +kernel
theorem c_255_43 : pg_cd 255 43 = (1, 2, 0, 0, 114) := by decide +kernel
theorem c_255_45 : pg_cd 255 45 = (1, 2, 0, 0, 97) := by decide +kernel
theorem c_255_47 : pg_cd 255 47 = (81, 233, 191, 0, 0) := by decide +kernel
theorem c_255_50 : pg_cd 255 50 = (28, 1, 0, 0, 0) := by decide +kernel
theorem c_255_51 : pg_cd 255 51 = (36, 3, 0, 1, 5) := by decide +kernel
theorem c_255_54 : pg_cd 255 54 = (1, 1, 0, 0, 2) := by decide +kernel
theorem c_255_55 : pg_cd 255 55 = (90, 0, 0, 0, 0) := by decide +kernel
theorem c_255_56 : pg_cd 255 56 = (5, 1, 0, 0, 0) := by decide +kernel
theorem c_255_57 : pg_cd 255 57 = (44, 12, 156, 11, 0) := by decide +kernel
theorem c_255_60 : pg_cd 255 60 = (1, 2, 0, 0, 119) := by decide +kernel
theorem c_255_62 : pg_cd 255 62 = (1, 2, 0, 0, 104) := by decide +kernel
theorem c_255_64 : pg_cd 255 64 = (1, 2, 0, 0, 101) := by decide +kernel
theorem c_255_66 : pg_cd 255 66 = (1, 2, 0, 0, 110) := by decide +kernel
theorem c_255_68 : pg_cd 255 68 = (81, 234, 195, 0, 0) := by decide +kernel
theorem c_255_71 : pg_cd 255 71 = (28, 1, 0, 0, 0) := by decide +kernel
theorem c_255_72 : pg_cd 255 72 = (36, 3, 0, 1, 5) := by decide +kernel
theorem c_255_75 : pg_cd 255 75 = (1, 1, 0, 0, 4) := by decide +kernel
theorem c_255_76 : pg_cd 255 76 = (90, 0, 0, 0, 0) := by decide +kernel
theorem c_255_77 : pg_cd 255 77 = (5, 1, 0, 0, 0) := by decide +kernel
theorem c_255_78 : pg_cd 255 78 = (44, 12, 156, 11, 0) := by decide +kernel
theorem c_255_81 : pg_cd 255 81 = (1, 2, 0, 0, 108) := by decide +kernel
theorem c_255_83 : pg_cd 255 83 = (1, 2, 0, 0, 101) := by decide +kernel
theorem c_255_85 : pg_cd 255 85 = (1, 2, 0, 0, 97) := by decide +kernel
theorem c_255_87 : pg_cd 255 87 = (1, 2, 0, 0, 115) := by decide +kernel
theorem c_255_89 : pg_cd 255 89 = (1, 2, 0, 0, 116) := by decide +kernel
theorem c_255_91 : pg_cd 255 91 = (81, 233, 191, 0, 0) := by decide +kernel
theorem c_255_94 : pg_cd 255 94 = (28, 1, 0, 0, 0) := by decide +kernel
theorem c_255_95 : pg_cd 255 95 = (36, 3, 0, 1, 6) := by decide +kernel
theorem c_255_98 : pg_cd 255 98 = (1, 2, 0, 0, 6) := by decide +kernel
theorem c_255_100 : pg_cd 255 100 = (90, 0, 0, 0, 0) := by decide +kernel
theorem c_255_101 : pg_cd 255 101 = (5, 1, 0, 0, 0) := by decide +kernel
theorem c_255_102 : pg_cd 255 102 = (44, 12, 156, 11, 0) := by decide +kernel
theorem c_255_105 : pg_cd 255 105 = (1, 2, 0, 0, 97) := by decide +kernel
theorem c_255_107 : pg_cd 255 107 = (1, 2, 0, 0, 103) := by decide +kernel
theorem c_255_109 : pg_cd 255 109 = (1, 2, 0, 0, 101) := by decide +kernel
theorem c_255_111 : pg_cd 255 111 = (81, 232, 160, 0, 0) := by decide +kernel
theorem c_255_114 : pg_cd 255 114 = (28, 1, 0, 0, 0) := by decide +kernel
theorem c_255_115 : pg_cd 255 115 = (36, 3, 0, 1, 6) := by decide +kernel
theorem c_255_118 : pg_cd 255 118 = (1, 2, 0, 0, 7) := by decide +kernel
theorem c_255_120 : pg_cd 255 120 = (90, 0, 0, 0, 0) := by decide +kernel
theorem c_255_121 : pg_cd 255 121 = (5, 1, 0, 0, 0) := by decide +kernel
theorem c_255_122 : pg_cd 255 122 = (44, 12, 156, 11, 0) := by decide +kernel
theorem c_255_125 : pg_cd 255 125 = (1, 2, 0, 0, 109) := by decide +kernel
theorem c_255_127 : pg_cd 255 127 = (1, 2, 0, 0, 101) := by decide +kernel
theorem c_255_129 : pg_cd 255 129 = (1, 2, 0, 0, 97) := by decide +kernel
theorem c_255_131 : pg_cd 255 131 = (1, 2, 0, 0, 108) := by decide +kernel
theorem c_255_133 : pg_cd 255 133 = (1, 2, 0, 0, 115) := by decide +kernel
theorem c_255_135 : pg_cd 255 135 = (81, 233, 191, 0, 0) := by decide +kernel
theorem c_255_138 : pg_cd 255 138 = (28, 1, 0, 0, 0) := by decide +kernel
theorem c_255_139 : pg_cd 255 139 = (36, 3, 0, 1, 8) := by decide +kernel
theorem c_255_142 : pg_cd 255 142 = (1, 2, 0, 0, 8) := by decide +kernel
theorem c_255_144 : pg_cd 255 144 = (38, 3, 0, 0, 30) := by decide +kernel
theorem c_255_147 : pg_cd 255 147 = (5, 1, 0, 0, 0) := by decide +kernel
theorem c_255_148 : pg_cd 255 148 = (44, 12, 156, 11, 0) := by decide +kernel
theorem c_255_151 : pg_cd 255 151 = (1, 2, 0, 0, 99) := by decide +kernel
theorem c_255_153 : pg_cd 255 153 = (1, 2, 0, 0, 108) := by decide +kernel
theorem c_255_155 : pg_cd 255 155 = (1, 2, 0, 0, 101) := by decide +kernel
theorem c_255_157 : pg_cd 255 157 = (1, 2, 0, 0, 97) := by decide +kernel
theorem c_255_159 : pg_cd 255 159 = (1, 2, 0, 0, 110) := by decide +kernel
theorem c_255_161 : pg_cd 255 161 = (81, 233, 191, 0, 0) := by decide +kernel
theorem c_255_164 : pg_cd 255 164 = (28, 1, 0, 0, 0) := by decide +kernel
theorem c_255_165 : pg_cd 255 165 = (36, 3, 0, 1, 8) := by decide +kernel
theorem c_255_168 : pg_cd 255 168 = (1, 2, 0, 0, 9) := by decide +kernel
theorem c_255_170 : pg_cd 255 170 = (38, 3, 0, 0, 4) := by decide +kernel
theorem c_255_173 : pg_cd 255 173 = (1, 1, 0, 0, 0) := by decide +kernel
theorem c_255_174 : pg_cd 255 174 = (90, 0, 0, 0, 0) := by decide +kernel
theorem mi_255 : pg_mc 255 = 12 ∧ pg_na 255 = 0 ∧ pg_mx 255 = 1 := by decide +kernel
set_option maxRecDepth 20000 in
theorem u_255_0 {d : Nat} {S : zS} {σ τ : zI} {Q : zQ} (t : if (σ 83 9) = 2 then ((((0 : Int) ≤ 112 ∧ 112 ≤ (127 : Int)) ∧ ((0 : Int) ≤ 114 ∧ 114 ≤ (127 : Int)) ∧ ((0 : Int) ≤ 105 ∧ 105 ≤ (127 : Int)) ∧ ((0 : Int) ≤ 99 ∧ 99 ≤ (127 : Int)) ∧ ((0 : Int) ≤ 101 ∧ 101 ≤ (127 : Int))) ∧ (rj (((112 * 65536 + 114 * 256 + 105) * 256 + 99) * 256 + 101)) ∧ if (τ 83 11) = (((112 * 65536 + 114 * 256 + 105) * 256 + 99) * 256 + 101) then (Q (some (.int (wI 1))) S σ τ) else ((((0 : Int) ≤ 101 ∧ 101 ≤ (127 : Int)) ∧ ((0 : Int) ≤ 120 ∧ 120 ≤ (127 : Int)) ∧ ((0 : Int) ≤ 116 ∧ 116 ≤ (127 : Int)) ∧ ((0 : Int) ≤ 114 ∧ 114 ≤ (127 : Int)) ∧ ((0 : Int) ≤ 97 ∧ 97 ≤ (127 : Int))) ∧ (rj (((101 * 65536 + 120 * 256 + 116) * 256 + 114) * 256 + 97)) ∧ if (τ 83 11) = (((101 * 65536 + 120 * 256 + 116) * 256 + 114) * 256 + 97) then (Q (some (.int (wI 2))) S σ τ) else ((((0 : Int) ≤ 119 ∧ 119 ≤ (127 : Int)) ∧ ((0 : Int) ≤ 104 ∧ 104 ≤ (127 : Int)) ∧ ((0 : Int) ≤ 101 ∧ 101 ≤ (127 : Int)) ∧ ((0 : Int) ≤ 110 ∧ 110 ≤ (127 : Int))) ∧ (rj ((119 * 65536 + 104 * 256 + 101) * 256 + 110)) ∧ if (τ 83 11) = ((119 * 65536 + 104 * 256 + 101) * 256 + 110) then (Q (some (.int (wI 4))) S σ τ) else ((((0 : Int) ≤ 108 ∧ 108 ≤ (127 : Int)) ∧ ((0 : Int) ≤ 101 ∧ 101 ≤ (127 : Int)) ∧ ((0 : Int) ≤ 97 ∧ 97 ≤ (127 : Int)) ∧ ((0 : Int) ≤ 115 ∧ 115 ≤ (127 : Int)) ∧ ((0 : Int) ≤ 116 ∧ 116 ≤ (127 : Int))) ∧ (rj (((108 * 65536 + 101 * 256 + 97) * 256 + 115) * 256 + 116)) ∧ if (τ 83 11) = (((108 * 65536 + 101 * 256 + 97) * 256 + 115) * 256 + 116) then (Q (some (.int (wI 6))) S σ τ) else ((((0 : Int) ≤ 97 ∧ 97 ≤ (127 : Int)) ∧ ((0 : Int) ≤ 103 ∧ 103 ≤ (127 : Int)) ∧ ((0 : Int) ≤ 101 ∧ 101 ≤ (127 : Int))) ∧ (rj (97 * 65536 + 103 * 256 + 101)) ∧ if (τ 83 11) = (97 * 65536 + 103 * 256 + 101) then (Q (some (.int (wI 7))) S σ τ) else ((((0 : Int) ≤ 109 ∧ 109 ≤ (127 : Int)) ∧ ((0 : Int) ≤ 101 ∧ 101 ≤ (127 : Int)) ∧ ((0 : Int) ≤ 97 ∧ 97 ≤ (127 : Int)) ∧ ((0 : Int) ≤ 108 ∧ 108 ≤ (127 : Int)) ∧ ((0 : Int) ≤ 115 ∧ 115 ≤ (127 : Int))) ∧ (rj (((109 * 65536 + 101 * 256 + 97) * 256 + 108) * 256 + 115)) ∧ if (τ 83 11) = (((109 * 65536 + 101 * 256 + 97) * 256 + 108) * 256 + 115) then (Q (some (.int (wI 8))) S σ τ) else ((((0 : Int) ≤ 99 ∧ 99 ≤ (127 : Int)) ∧ ((0 : Int) ≤ 108 ∧ 108 ≤ (127 : Int)) ∧ ((0 : Int) ≤ 101 ∧ 101 ≤ (127 : Int)) ∧ ((0 : Int) ≤ 97 ∧ 97 ≤ (127 : Int)) ∧ ((0 : Int) ≤ 110 ∧ 110 ≤ (127 : Int))) ∧ (rj (((99 * 65536 + 108 * 256 + 101) * 256 + 97) * 256 + 110)) ∧ if (τ 83 11) = (((99 * 65536 + 108 * 256 + 101) * 256 + 97) * 256 + 110) then (Q (some (.int (wI 9))) S σ τ) else (Q (some (.int (wI 0))) S σ τ)))))))) else (Q (some (.int (wI 0))) S σ τ)) : wi (d + 6) 255 0 [.ref 83] [] S σ τ Q := by
  refine i5 c_255_0 rfl (wi_ok (fun K1 => ?_))
  refine i43 (v := σ 83 9) c_255_1 (lo (c := 83) (kd := 112) (n := 0) rfl (by decide)) rfl (i1 c_255_4 ?_)
  refine i37 c_255_5 (rge_ K1 rfl) (by decide) rfl (fun hc => ?_) (fun hc => ?_)
  · have t := iT t hc
    have ha2 : (σ 83 9) = 2 := hc
    obtain ⟨p3, t⟩ := t
    refine i5 c_255_10 rfl (i44 (v := τ 83 11) c_255_11 (lo (c := 83) (kd := 112) (n := 0) rfl (by decide)) rfl (i1 c_255_14 (i1 c_255_16 (i1 c_255_18 (i1 c_255_20 (i1 c_255_22 ?_))))))
    refine i81 (As := [.int (wI 112), .int (wI 114), .int (wI 105), .int (wI 99), .int (wI 101)]) (rest := [.long (wJ (τ 83 11))]) c_255_24 mi_233 rfl rfl (Nat.le_of_ble_eq_true rfl) (Nat.le_of_ble_eq_true rfl) (q_233 p3 ?_)
    show wi (d + 6) 255 27 [.ref 83] [.long (wJ (((112 * 65536 + 114 * 256 + 105) * 256 + 99) * 256 + 101)), .long (wJ (τ 83 11))] S σ τ Q
    obtain ⟨r4, t⟩ := t
    refine i28 c_255_27 ?_
    refine i36l c_255_28 (rje_ K1 rfl) r4 rfl (fun hc => ?_) (fun hc => ?_)
    · have t := iF t hc
      have ha5 : ¬ ((τ 83 11) = (((112 * 65536 + 114 * 256 + 105) * 256 + 99) * 256 + 101)) := hc
      obtain ⟨p6, t⟩ := t
      refine i5 c_255_33 rfl (i44 (v := τ 83 11) c_255_34 (lo (c := 83) (kd := 112) (n := 0) rfl (by decide)) rfl (i1 c_255_37 (i1 c_255_39 (i1 c_255_41 (i1 c_255_43 (i1 c_255_45 ?_))))))
      refine i81 (As := [.int (wI 101), .int (wI 120), .int (wI 116), .int (wI 114), .int (wI 97)]) (rest := [.long (wJ (τ 83 11))]) c_255_47 mi_233 rfl rfl (Nat.le_of_ble_eq_true rfl) (Nat.le_of_ble_eq_true rfl) (q_233 p6 ?_)
      show wi (d + 6) 255 50 [.ref 83] [.long (wJ (((101 * 65536 + 120 * 256 + 116) * 256 + 114) * 256 + 97)), .long (wJ (τ 83 11))] S σ τ Q
      obtain ⟨r7, t⟩ := t
      refine i28 c_255_50 ?_
      refine i36l c_255_51 (rje_ K1 rfl) r7 rfl (fun hc => ?_) (fun hc => ?_)
      · have t := iF t hc
        have ha8 : ¬ ((τ 83 11) = (((101 * 65536 + 120 * 256 + 116) * 256 + 114) * 256 + 97)) := hc
        obtain ⟨p9, t⟩ := t
        refine i5 c_255_56 rfl (i44 (v := τ 83 11) c_255_57 (lo (c := 83) (kd := 112) (n := 0) rfl (by decide)) rfl (i1 c_255_60 (i1 c_255_62 (i1 c_255_64 (i1 c_255_66 ?_)))))
        refine i81 (As := [.int (wI 119), .int (wI 104), .int (wI 101), .int (wI 110)]) (rest := [.long (wJ (τ 83 11))]) c_255_68 mi_234 rfl rfl (Nat.le_of_ble_eq_true rfl) (Nat.le_of_ble_eq_true rfl) (q_234 p9 ?_)
        show wi (d + 6) 255 71 [.ref 83] [.long (wJ ((119 * 65536 + 104 * 256 + 101) * 256 + 110)), .long (wJ (τ 83 11))] S σ τ Q
        obtain ⟨r10, t⟩ := t
        refine i28 c_255_71 ?_
        refine i36l c_255_72 (rje_ K1 rfl) r10 rfl (fun hc => ?_) (fun hc => ?_)
        · have t := iF t hc
          have ha11 : ¬ ((τ 83 11) = ((119 * 65536 + 104 * 256 + 101) * 256 + 110)) := hc
          obtain ⟨p12, t⟩ := t
          refine i5 c_255_77 rfl (i44 (v := τ 83 11) c_255_78 (lo (c := 83) (kd := 112) (n := 0) rfl (by decide)) rfl (i1 c_255_81 (i1 c_255_83 (i1 c_255_85 (i1 c_255_87 (i1 c_255_89 ?_))))))
          refine i81 (As := [.int (wI 108), .int (wI 101), .int (wI 97), .int (wI 115), .int (wI 116)]) (rest := [.long (wJ (τ 83 11))]) c_255_91 mi_233 rfl rfl (Nat.le_of_ble_eq_true rfl) (Nat.le_of_ble_eq_true rfl) (q_233 p12 ?_)
          show wi (d + 6) 255 94 [.ref 83] [.long (wJ (((108 * 65536 + 101 * 256 + 97) * 256 + 115) * 256 + 116)), .long (wJ (τ 83 11))] S σ τ Q
          obtain ⟨r13, t⟩ := t
          refine i28 c_255_94 ?_
          refine i36l c_255_95 (rje_ K1 rfl) r13 rfl (fun hc => ?_) (fun hc => ?_)
          · have t := iF t hc
            have ha14 : ¬ ((τ 83 11) = (((108 * 65536 + 101 * 256 + 97) * 256 + 115) * 256 + 116)) := hc
            obtain ⟨p15, t⟩ := t
            refine i5 c_255_101 rfl (i44 (v := τ 83 11) c_255_102 (lo (c := 83) (kd := 112) (n := 0) rfl (by decide)) rfl (i1 c_255_105 (i1 c_255_107 (i1 c_255_109 ?_))))
            refine i81 (As := [.int (wI 97), .int (wI 103), .int (wI 101)]) (rest := [.long (wJ (τ 83 11))]) c_255_111 mi_232 rfl rfl (Nat.le_of_ble_eq_true rfl) (Nat.le_of_ble_eq_true rfl) (q_232 p15 ?_)
            show wi (d + 6) 255 114 [.ref 83] [.long (wJ (97 * 65536 + 103 * 256 + 101)), .long (wJ (τ 83 11))] S σ τ Q
            obtain ⟨r16, t⟩ := t
            refine i28 c_255_114 ?_
            refine i36l c_255_115 (rje_ K1 rfl) r16 rfl (fun hc => ?_) (fun hc => ?_)
            · have t := iF t hc
              have ha17 : ¬ ((τ 83 11) = (97 * 65536 + 103 * 256 + 101)) := hc
              obtain ⟨p18, t⟩ := t
              refine i5 c_255_121 rfl (i44 (v := τ 83 11) c_255_122 (lo (c := 83) (kd := 112) (n := 0) rfl (by decide)) rfl (i1 c_255_125 (i1 c_255_127 (i1 c_255_129 (i1 c_255_131 (i1 c_255_133 ?_))))))
              refine i81 (As := [.int (wI 109), .int (wI 101), .int (wI 97), .int (wI 108), .int (wI 115)]) (rest := [.long (wJ (τ 83 11))]) c_255_135 mi_233 rfl rfl (Nat.le_of_ble_eq_true rfl) (Nat.le_of_ble_eq_true rfl) (q_233 p18 ?_)
              show wi (d + 6) 255 138 [.ref 83] [.long (wJ (((109 * 65536 + 101 * 256 + 97) * 256 + 108) * 256 + 115)), .long (wJ (τ 83 11))] S σ τ Q
              obtain ⟨r19, t⟩ := t
              refine i28 c_255_138 ?_
              refine i36l c_255_139 (rje_ K1 rfl) r19 rfl (fun hc => ?_) (fun hc => ?_)
              · have t := iF t hc
                have ha20 : ¬ ((τ 83 11) = (((109 * 65536 + 101 * 256 + 97) * 256 + 108) * 256 + 115)) := hc
                obtain ⟨p21, t⟩ := t
                refine i5 c_255_147 rfl (i44 (v := τ 83 11) c_255_148 (lo (c := 83) (kd := 112) (n := 0) rfl (by decide)) rfl (i1 c_255_151 (i1 c_255_153 (i1 c_255_155 (i1 c_255_157 (i1 c_255_159 ?_))))))
                refine i81 (As := [.int (wI 99), .int (wI 108), .int (wI 101), .int (wI 97), .int (wI 110)]) (rest := [.long (wJ (τ 83 11))]) c_255_161 mi_233 rfl rfl (Nat.le_of_ble_eq_true rfl) (Nat.le_of_ble_eq_true rfl) (q_233 p21 ?_)
                show wi (d + 6) 255 164 [.ref 83] [.long (wJ (((99 * 65536 + 108 * 256 + 101) * 256 + 97) * 256 + 110)), .long (wJ (τ 83 11))] S σ τ Q
                obtain ⟨r22, t⟩ := t
                refine i28 c_255_164 ?_
                refine i36l c_255_165 (rje_ K1 rfl) r22 rfl (fun hc => ?_) (fun hc => ?_)
                · have t := iF t hc
                  have ha23 : ¬ ((τ 83 11) = (((99 * 65536 + 108 * 256 + 101) * 256 + 97) * 256 + 110)) := hc
                  refine i1 c_255_173 ?_
                  exact i90 c_255_174 t
                · have t := iT t (Decidable.not_not.mp hc)
                  have ha23 : (τ 83 11) = (((99 * 65536 + 108 * 256 + 101) * 256 + 97) * 256 + 110) := Decidable.not_not.mp hc
                  refine i1 c_255_168 (i38 c_255_170 rfl ?_)
                  exact i90 c_255_174 t
              · have t := iT t (Decidable.not_not.mp hc)
                have ha20 : (τ 83 11) = (((109 * 65536 + 101 * 256 + 97) * 256 + 108) * 256 + 115) := Decidable.not_not.mp hc
                refine i1 c_255_142 (i38 c_255_144 rfl ?_)
                exact i90 c_255_174 t
            · have t := iT t (Decidable.not_not.mp hc)
              have ha17 : (τ 83 11) = (97 * 65536 + 103 * 256 + 101) := Decidable.not_not.mp hc
              refine i1 c_255_118 ?_
              exact i90 c_255_120 t
          · have t := iT t (Decidable.not_not.mp hc)
            have ha14 : (τ 83 11) = (((108 * 65536 + 101 * 256 + 97) * 256 + 115) * 256 + 116) := Decidable.not_not.mp hc
            refine i1 c_255_98 ?_
            exact i90 c_255_100 t
        · have t := iT t (Decidable.not_not.mp hc)
          have ha11 : (τ 83 11) = ((119 * 65536 + 104 * 256 + 101) * 256 + 110) := Decidable.not_not.mp hc
          refine i1 c_255_75 ?_
          exact i90 c_255_76 t
      · have t := iT t (Decidable.not_not.mp hc)
        have ha8 : (τ 83 11) = (((101 * 65536 + 120 * 256 + 116) * 256 + 114) * 256 + 97) := Decidable.not_not.mp hc
        refine i1 c_255_54 ?_
        exact i90 c_255_55 t
    · have t := iT t (Decidable.not_not.mp hc)
      have ha5 : (τ 83 11) = (((112 * 65536 + 114 * 256 + 105) * 256 + 99) * 256 + 101) := Decidable.not_not.mp hc
      refine i1 c_255_31 ?_
      exact i90 c_255_32 t
  · have t := iF t hc
    have ha2 : ¬ ((σ 83 9) = 2) := hc
    refine i1 c_255_8 ?_
    exact i90 c_255_9 t
theorem q_255 {d : Nat} {S : zS} {σ τ : zI} {Q : zQ} {T : Int → Int} {n : Int} {s : Int} (p0 : TB T n) (p1 : TR T n s σ τ) (t : Q (some (.int (wI (srtO (tk T n s))))) S σ τ) : wc (d + 6) 255 [.ref 83] S σ τ Q := by
  have k9 := p1.2.2.2.2.1
  have r2 := (rk_tk p0 p1.1).2.2.1
  have w3 := TR_w p1 p0 (t := 3) (v := ((112 * 65536 + 114 * 256 + 105) * 256 + 99) * 256 + 101) (by omega) (fun x => by rw [wcd_3]; omega)
  have w4 := TR_w p1 p0 (t := 4) (v := ((101 * 65536 + 120 * 256 + 116) * 256 + 114) * 256 + 97) (by omega) (fun x => by rw [wcd_4]; omega)
  have w5 := TR_w p1 p0 (t := 5) (v := (119 * 65536 + 104 * 256 + 101) * 256 + 110) (by omega) (fun x => by rw [wcd_5]; omega)
  have w6 := TR_w p1 p0 (t := 6) (v := ((108 * 65536 + 101 * 256 + 97) * 256 + 115) * 256 + 116) (by omega) (fun x => by rw [wcd_6]; omega)
  have w7 := TR_w p1 p0 (t := 7) (v := 97 * 65536 + 103 * 256 + 101) (by omega) (fun x => by rw [wcd_7]; omega)
  have w8 := TR_w p1 p0 (t := 8) (v := ((109 * 65536 + 101 * 256 + 97) * 256 + 108) * 256 + 115) (by omega) (fun x => by rw [wcd_8]; omega)
  have w9 := TR_w p1 p0 (t := 9) (v := ((99 * 65536 + 108 * 256 + 101) * 256 + 97) * 256 + 110) (by omega) (fun x => by rw [wcd_9]; omega)
  have yes : ∀ k v, tk T n s = k → srtO k = v → Q (some (.int (wI v))) S σ τ := fun k v e h => by rw [e, h] at t; exact t
  have no : (tk T n s < 3 ∨ 9 < tk T n s) → Q (some (.int (wI 0))) S σ τ := fun h => by
    unfold srtO at t
    rw [if_neg (by omega), if_neg (by omega), if_neg (by omega), if_neg (by omega)] at t; exact t
  refine wc_of mi_255 rfl (u_255_0 (ifI (fun e => ?_) (fun e => no ?_)))
  · refine ⟨by omega, by decide, ifI (fun e3 => yes 3 1 (w3.mp ⟨e, e3⟩) (by decide)) (fun e3 => ?_)⟩
    refine ⟨by omega, by decide, ifI (fun e4 => yes 4 2 (w4.mp ⟨e, e4⟩) (by decide)) (fun e4 => ?_)⟩
    refine ⟨by omega, by decide, ifI (fun e5 => yes 5 4 (w5.mp ⟨e, e5⟩) (by decide)) (fun e5 => ?_)⟩
    refine ⟨by omega, by decide, ifI (fun e6 => yes 6 6 (w6.mp ⟨e, e6⟩) (by decide)) (fun e6 => ?_)⟩
    refine ⟨by omega, by decide, ifI (fun e7 => yes 7 7 (w7.mp ⟨e, e7⟩) (by decide)) (fun e7 => ?_)⟩
    refine ⟨by omega, by decide, ifI (fun e8 => yes 8 8 (w8.mp ⟨e, e8⟩) (by decide)) (fun e8 => ?_)⟩
    refine ⟨by omega, by decide, ifI (fun e9 => yes 9 9 (w9.mp ⟨e, e9⟩) (by decide)) (fun e9 => ?_)⟩
    have n3 : tk T n s ≠ 3 := fun z => e3 (w3.mpr z).2
    have n4 : tk T n s ≠ 4 := fun z => e4 (w4.mpr z).2
    have n5 : tk T n s ≠ 5 := fun z => e5 (w5.mpr z).2
    have n6 : tk T n s ≠ 6 := fun z => e6 (w6.mpr z).2
    have n7 : tk T n s ≠ 7 := fun z => e7 (w7.mpr z).2
    have n8 : tk T n s ≠ 8 := fun z => e8 (w8.mpr z).2
    have n9 : tk T n s ≠ 9 := fun z => e9 (w9.mpr z).2
    exact no (by clear w3 e3 w4 e4 w5 e5 w6 e6 w7 e7 w8 e8 w9 e9; omega)
  · have := r2 (by rw [← k9]; exact e)
    clear w3 w4 w5 w6 w7 w8 w9
    omega
-- method 253: MillTownModel.sumOf(I)I
theorem c_253_0 : pg_cd 253 0 = (5, 1, 0, 0, 0) := by decide +kernel
theorem c_253_1 : pg_cd 253 1 = (45, 12, 8, 0, 0) := by decide +kernel
theorem c_253_4 : pg_cd 253 4 = (3, 1, 0, 1, 0) := by decide +kernel
theorem c_253_5 : pg_cd 253 5 = (1, 2, 0, 0, 6) := by decide +kernel
theorem c_253_7 : pg_cd 253 7 = (10, 1, 0, 0, 0) := by decide +kernel
theorem c_253_8 : pg_cd 253 8 = (5, 1, 0, 0, 0) := by decide +kernel
theorem c_253_9 : pg_cd 253 9 = (43, 12, 174, 14, 0) := by decide +kernel
theorem c_253_12 : pg_cd 253 12 = (54, 1, 0, 0, 0) := by decide +kernel
theorem c_253_13 : pg_cd 253 13 = (5, 1, 0, 0, 0) := by decide +kernel
theorem c_253_14 : pg_cd 253 14 = (80, 247, 225, 0, 0) := by decide +kernel
theorem c_253_17 : pg_cd 253 17 = (6, 1, 0, 2, 0) := by decide +kernel
theorem c_253_18 : pg_cd 253 18 = (5, 1, 0, 0, 0) := by decide +kernel
theorem c_253_19 : pg_cd 253 19 = (45, 12, 8, 0, 0) := by decide +kernel
theorem c_253_22 : pg_cd 253 22 = (3, 1, 0, 1, 0) := by decide +kernel
theorem c_253_23 : pg_cd 253 23 = (1, 2, 0, 0, 7) := by decide +kernel
theorem c_253_25 : pg_cd 253 25 = (10, 1, 0, 0, 0) := by decide +kernel
theorem c_253_26 : pg_cd 253 26 = (5, 1, 0, 0, 0) := by decide +kernel
theorem c_253_27 : pg_cd 253 27 = (43, 12, 174, 14, 0) := by decide +kernel
theorem c_253_30 : pg_cd 253 30 = (54, 1, 0, 0, 0) := by decide +kernel
theorem c_253_31 : pg_cd 253 31 = (3, 1, 0, 2, 0) := by decide +kernel
theorem c_253_32 : pg_cd 253 32 = (90, 0, 0, 0, 0) := by decide +kernel
theorem mi_253 : pg_mc 253 = 12 ∧ pg_na 253 = 1 ∧ pg_mx 253 = 3 := by decide +kernel
set_option maxRecDepth 20000 in
theorem u_253_0 {d : Nat} {S : zS} {σ τ : zI} {Q : zQ} {x1 : Int} (t : (0 ≤ x1 + 6 ∧ x1 + 6 < 112300) ∧ ∃ T3 : Int → Int, ∃ n4 : Int, ∃ s5 : Int, ∃ k6 : Nat, (TB T3 n4) ∧ (TR T3 n4 s5 (uc σ 84 (u1 (σ 84) (x1 + 6) (σ 83 14))) τ) ∧ (EB (uc σ 84 (u1 (σ 84) (x1 + 6) (σ 83 14)))) ∧ ((uc σ 84 (u1 (σ 84) (x1 + 6) (σ 83 14))) 83 14 < s5) ∧ (k6 ≤ 8) ∧ ((uc σ 84 (u1 (σ 84) (x1 + 6) (σ 83 14))) 83 17 = 8 - k6) ∧ ∀ (σ113 : zI) (τ114 : zI), 0 ≤ (sumO T3 n4 (oneK T3 n4 k6) s5).1 ∧ (sumO T3 n4 (oneK T3 n4 k6) s5).1 ≤ 3 → TR T3 n4 (sumO T3 n4 (oneK T3 n4 k6) s5).2.1 σ113 τ114 → ((sumO T3 n4 (oneK T3 n4 k6) s5).1 = 0 → PF (uc σ 84 (u1 (σ 84) (x1 + 6) (σ 83 14))) σ113 τ τ114 (sumO T3 n4 (oneK T3 n4 k6) s5).2.2 ∧ σ113 83 17 = 8 - k6) → σ113 83 14 ≤ 310 → ((∀ c, c ≠ 83 → c ≠ 84 → c ≠ 88 → σ113 c = (uc σ 84 (u1 (σ 84) (x1 + 6) (σ 83 14))) c) ∧ (∀ k6, k6 < 7 ∨ (11 ≤ k6 ∧ k6 < 14) ∨ k6 = 15 ∨ 18 < k6 → σ113 83 k6 = (uc σ 84 (u1 (σ 84) (x1 + 6) (σ 83 14))) 83 k6) ∧ (∀ c, c ≠ 83 → τ114 c = τ c) ∧ ∀ k6, k6 ≠ 11 → τ114 83 k6 = τ 83 k6) → (∃ L, PF (uc σ 84 (u1 (σ 84) (x1 + 6) (σ 83 14))) σ113 τ τ114 L) → (0 ≤ x1 + 7 ∧ x1 + 7 < 112300) ∧ Q (some (.int (wI ((sumO T3 n4 (oneK T3 n4 k6) s5).1)))) S (uc σ113 84 (u1 (σ113 84) (x1 + 7) (σ113 83 14))) τ114) : wi (d + 11) 253 0 [.ref 83, .int (wI x1), .retAddr 0] [] S σ τ Q := by
  refine i5 c_253_0 rfl (i45 c_253_1 (lo (c := 83) (kd := 112) (n := 0) rfl (by decide)) (lro (c := 83) (k := 0) (j := 84) (by decide)) (i3 c_253_4 rfl (i1 c_253_5 (i10 c_253_7 (i5 c_253_8 rfl (wi_ok (fun K1 => ?_)))))))
  obtain ⟨r2, t⟩ := t
  obtain ⟨T3, t⟩ := t
  obtain ⟨n4, t⟩ := t
  obtain ⟨s5, t⟩ := t
  obtain ⟨k6, t⟩ := t
  obtain ⟨p7, t⟩ := t
  obtain ⟨p8, t⟩ := t
  obtain ⟨p9, t⟩ := t
  obtain ⟨p10, t⟩ := t
  obtain ⟨p11, t⟩ := t
  obtain ⟨p12, t⟩ := t
  refine i43 (v := σ 83 14) c_253_9 (lo (c := 83) (kd := 112) (n := 0) rfl (by decide)) rfl (i54 (σ1 := uc σ 84 (u1 (σ 84) (x1 + 6) (σ 83 14))) c_253_12 (lo (c := 84) (kd := 0) (n := 112300) rfl (by decide)) (by decide) r2 (by decide) rfl (rge_ K1 rfl) (wr_ rfl rfl) (i5 c_253_13 rfl ?_))
  refine i80 (As := []) (rest := []) c_253_14 mi_247 rfl rfl (Nat.le_of_ble_eq_true rfl) (Nat.le_of_ble_eq_true rfl) (lo (c := 83) (kd := 112) (n := 0) rfl (by decide)) (q_247 (T := T3) (n := n4) (s := s5) (k := k6) p7 p8 p9 p10 p11 p12 (fun σ113 τ114 q15 q16 q17 q18 q19 q20 => ?_))
  have t := t σ113 τ114 q15 q16 q17 q18 q19 q20
  show wi (d + 11) 253 17 [.ref 83, .int (wI x1), .retAddr 0] [.int (wI ((sumO T3 n4 (oneK T3 n4 k6) s5).1))] S σ113 τ114 Q
  refine i6 (L' := [.ref 83, .int (wI x1), .int (wI ((sumO T3 n4 (oneK T3 n4 k6) s5).1))]) c_253_17 rfl (i5 c_253_18 rfl (i45 c_253_19 (lo (c := 83) (kd := 112) (n := 0) rfl (by decide)) (lro (c := 83) (k := 0) (j := 84) (by decide)) (i3 c_253_22 rfl (i1 c_253_23 (i10 c_253_25 (i5 c_253_26 rfl (wi_ok (fun K21 => ?_))))))))
  obtain ⟨r22, t⟩ := t
  refine i43 (v := σ113 83 14) c_253_27 (lo (c := 83) (kd := 112) (n := 0) rfl (by decide)) rfl (i54 (σ1 := uc σ113 84 (u1 (σ113 84) (x1 + 7) (σ113 83 14))) c_253_30 (lo (c := 84) (kd := 0) (n := 112300) rfl (by decide)) (by decide) r22 (by decide) rfl (rge_ K21 rfl) (wr_ rfl rfl) (i3 c_253_31 rfl ?_))
  exact i90 c_253_32 t
theorem q_253 {d : Nat} {S : zS} {σ τ : zI} {Q : zQ} {q : Int} {T : Int → Int} {n : Int} {s : Int} (p0 : TB T n) (p1 : TR T n s σ τ) (p2 : EB σ) (p3 : σ 83 12 ≤ q ∧ q + 8 ≤ σ 83 12 + 200) (p4 : σ 83 14 < s) (p5 : σ 83 17 = 0) (t : ∀ (σ1 : zI) (τ1 : zI), 0 ≤ (smO T n q (σ 83 14) s).1 ∧ (smO T n q (σ 83 14) s).1 ≤ 4 → GF T n σ τ (smO T n q (σ 83 14) s) σ1 τ1 → Q (some (.int (wI ((smO T n q (σ 83 14) s).1)))) S σ1 τ1) : wc (d + 11) 253 [.ref 83, .int (wI q)] S σ τ Q := by
  have w0 : PGc σ (uc σ 84 (u1 (σ 84) (q + 6) (σ 83 14))) τ τ [] [(q + 6, σ 83 14)] 0 := PGc_w (by omega)
  have q83 : (uc σ 84 (u1 (σ 84) (q + 6) (σ 83 14))) 83 = σ 83 := uc_n (by decide)
  refine wc_of mi_253 rfl (u_253_0 ⟨by have := p2.1; omega, T, n, s, 8, p0, TR_84 p1, EB_f p2 (by rw [q83]) (by rw [q83]; exact p2.2), by rw [q83]; exact p4, by omega, by rw [q83, p5]; rfl, fun σ1 τ1 rb tr ok b fr ex => ⟨by have := p2.1; omega, ?_⟩⟩)
  obtain ⟨L, pf⟩ := ex
  have e12 : σ1 83 12 = σ 83 12 := by rw [pf.2.2.1 12 (by omega), q83]
  have w1 : PGc σ1 (uc σ1 84 (u1 (σ1 84) (q + 7) (σ1 83 14))) τ1 τ1 [] [(q + 7, σ1 83 14)] 0 := PGc_w (by omega)
  have g83 : (uc σ1 84 (u1 (σ1 84) (q + 7) (σ1 83 14))) 83 = σ1 83 := uc_n (by decide)
  have tr1 : TR T n (sumO T n (oneK T n 8) s).2.1 (uc σ1 84 (u1 (σ1 84) (q + 7) (σ1 83 14))) τ1 := TR_84 tr
  have gen : ∃ L W, PGc σ (uc σ1 84 (u1 (σ1 84) (q + 7) (σ1 83 14))) τ τ1 L W 0 ∧ (uc σ1 84 (u1 (σ1 84) (q + 7) (σ1 83 14))) 83 14 ≤ 310 := ⟨_, _, PGc_t (PGc_t w0 (PGc_P pf) p2.2.1) w1 p2.2.1, by rw [g83]; exact b⟩
  by_cases e : (sumO T n (oneK T n 8) s).1 ≠ 0
  · have ev : smO T n q (σ 83 14) s = ((sumO T n (oneK T n 8) s).1, (sumO T n (oneK T n 8) s).2.1, [], []) := if_pos e
    have h := t (uc σ1 84 (u1 (σ1 84) (q + 7) (σ1 83 14))) τ1
    rw [ev] at h
    exact h (by show 0 ≤ (sumO T n (oneK T n 8) s).1 ∧ (sumO T n (oneK T n 8) s).1 ≤ 4; omega) ⟨tr1, fun z => absurd z e, gen⟩
  · have e0 : (sumO T n (oneK T n 8) s).1 = 0 := by omega
    have ev : smO T n q (σ 83 14) s = (0, (sumO T n (oneK T n 8) s).2.1, (sumO T n (oneK T n 8) s).2.2, [(q + 6, σ 83 14), (q + 7, σ 83 14 + (sumO T n (oneK T n 8) s).2.2.length)]) := if_neg e
    obtain ⟨pf0, h17⟩ := ok e0
    have e14 : σ1 83 14 = σ 83 14 + (sumO T n (oneK T n 8) s).2.2.length := by rw [pf0.1.1, q83]
    have pg := PGc_t (PGc_t w0 (PGc_P pf0) p2.2.1) w1 p2.2.1
    have h := t (uc σ1 84 (u1 (σ1 84) (q + 7) (σ1 83 14))) τ1
    rw [ev] at h
    rw [e0]
    refine h (by show (0 : Int) ≤ 0 ∧ (0 : Int) ≤ 4; omega) ⟨tr1, fun _ => ⟨?_, by rw [g83, h17, p5]; rfl⟩, gen⟩
    rw [e14, List.nil_append, List.append_nil] at pg
    rw [e14]
    exact pg
section CLU
variable {T : Int → Int} {n : Int} {R : RW} {σ σ1 τ τ1 : zI}
theorem GF_b (h : EB σ) (g : GF T n σ τ R σ1 τ1) : EB σ1 ∧ σ1 83 12 = σ 83 12 := by
  obtain ⟨_, _, L, W, pg, b⟩ := g
  have e12 := pg.2.2.1 12 (by omega)
  exact ⟨EB_f h e12 (by have := pg.1.1; have := h.2; omega), e12⟩
theorem numO_0 {lo hi j s : Int} (e : (numO T n lo hi j s).1 = 0) : numO T n lo hi j s = (0, nx T n s, [], [(j, nm T n s)]) ∧ tk T n s = 2 ∧ lo ≤ nm T n s ∧ nm T n s ≤ hi := by
  unfold numO at e ⊢
  by_cases c : tk T n s = 2
  · rw [if_pos c] at e ⊢
    by_cases c2 : lo ≤ nm T n s ∧ nm T n s ≤ hi
    · rw [if_pos c2]
      exact ⟨rfl, c, c2⟩
    · rw [if_neg c2] at e
      exact absurd (show (2 : Int) = 0 from e) (by decide)
  · rw [if_neg c] at e
    exact absurd (show (1 : Int) = 0 from e) (by decide)
theorem nedO_0 {t s : Int} (e : (nedO T n t s).1 = 0) : nedO T n t s = (0, nx T n s, [], []) ∧ tk T n s = t := by
  unfold nedO at e ⊢
  by_cases c : tk T n s = t
  · rw [if_pos c]
    exact ⟨rfl, c⟩
  · rw [if_neg c] at e
    exact absurd (show (1 : Int) = 0 from e) (by decide)
end CLU
-- method 256: MillTownModel.age(I)I
theorem c_256_0 : pg_cd 256 0 = (5, 1, 0, 0, 0) := by decide +kernel
theorem c_256_1 : pg_cd 256 1 = (1, 1, 0, 0, 0) := by decide +kernel
theorem c_256_2 : pg_cd 256 2 = (1, 2, 0, 0, 99) := by decide +kernel
theorem c_256_4 : pg_cd 256 4 = (3, 1, 0, 1, 0) := by decide +kernel
theorem c_256_5 : pg_cd 256 5 = (1, 1, 0, 0, 1) := by decide +kernel
theorem c_256_6 : pg_cd 256 6 = (10, 1, 0, 0, 0) := by decide +kernel
theorem c_256_7 : pg_cd 256 7 = (80, 237, 246, 0, 0) := by decide +kernel
theorem c_256_10 : pg_cd 256 10 = (6, 1, 0, 2, 0) := by decide +kernel
theorem c_256_11 : pg_cd 256 11 = (3, 1, 0, 2, 0) := by decide +kernel
theorem c_256_12 : pg_cd 256 12 = (36, 3, 0, 1, 24) := by decide +kernel
theorem c_256_15 : pg_cd 256 15 = (5, 1, 0, 0, 0) := by decide +kernel
theorem c_256_16 : pg_cd 256 16 = (43, 12, 144, 9, 0) := by decide +kernel
theorem c_256_19 : pg_cd 256 19 = (1, 1, 0, 0, 2) := by decide +kernel
theorem c_256_20 : pg_cd 256 20 = (37, 3, 0, 1, 14) := by decide +kernel
theorem c_256_23 : pg_cd 256 23 = (5, 1, 0, 0, 0) := by decide +kernel
theorem c_256_24 : pg_cd 256 24 = (44, 12, 156, 11, 0) := by decide +kernel
theorem c_256_27 : pg_cd 256 27 = (2, 3, 250, 0, 29807) := by decide +kernel
theorem c_256_30 : pg_cd 256 30 = (28, 1, 0, 0, 0) := by decide +kernel
theorem c_256_31 : pg_cd 256 31 = (36, 3, 0, 0, 5) := by decide +kernel
theorem c_256_34 : pg_cd 256 34 = (1, 1, 0, 0, 1) := by decide +kernel
theorem c_256_35 : pg_cd 256 35 = (6, 1, 0, 2, 0) := by decide +kernel
theorem c_256_36 : pg_cd 256 36 = (3, 1, 0, 2, 0) := by decide +kernel
theorem c_256_37 : pg_cd 256 37 = (36, 3, 0, 0, 5) := by decide +kernel
theorem c_256_40 : pg_cd 256 40 = (3, 1, 0, 2, 0) := by decide +kernel
theorem c_256_41 : pg_cd 256 41 = (90, 0, 0, 0, 0) := by decide +kernel
theorem c_256_42 : pg_cd 256 42 = (5, 1, 0, 0, 0) := by decide +kernel
theorem c_256_43 : pg_cd 256 43 = (80, 231, 168, 0, 0) := by decide +kernel
theorem c_256_46 : pg_cd 256 46 = (5, 1, 0, 0, 0) := by decide +kernel
theorem c_256_47 : pg_cd 256 47 = (5, 1, 0, 0, 0) := by decide +kernel
theorem c_256_48 : pg_cd 256 48 = (45, 12, 8, 0, 0) := by decide +kernel
theorem c_256_51 : pg_cd 256 51 = (3, 1, 0, 1, 0) := by decide +kernel
theorem c_256_52 : pg_cd 256 52 = (1, 1, 0, 0, 1) := by decide +kernel
theorem c_256_53 : pg_cd 256 53 = (10, 1, 0, 0, 0) := by decide +kernel
theorem c_256_54 : pg_cd 256 54 = (50, 1, 0, 0, 0) := by decide +kernel
theorem c_256_55 : pg_cd 256 55 = (1, 2, 0, 0, 99) := by decide +kernel
theorem c_256_57 : pg_cd 256 57 = (3, 1, 0, 1, 0) := by decide +kernel
theorem c_256_58 : pg_cd 256 58 = (1, 1, 0, 0, 2) := by decide +kernel
theorem c_256_59 : pg_cd 256 59 = (10, 1, 0, 0, 0) := by decide +kernel
theorem c_256_60 : pg_cd 256 60 = (80, 237, 246, 0, 0) := by decide +kernel
theorem c_256_63 : pg_cd 256 63 = (6, 1, 0, 2, 0) := by decide +kernel
theorem c_256_64 : pg_cd 256 64 = (3, 1, 0, 2, 0) := by decide +kernel
theorem c_256_65 : pg_cd 256 65 = (36, 3, 0, 1, 21) := by decide +kernel
theorem c_256_68 : pg_cd 256 68 = (5, 1, 0, 0, 0) := by decide +kernel
theorem c_256_69 : pg_cd 256 69 = (1, 2, 0, 0, 104) := by decide +kernel
theorem c_256_71 : pg_cd 256 71 = (1, 2, 0, 0, 111) := by decide +kernel
theorem c_256_73 : pg_cd 256 73 = (1, 2, 0, 0, 117) := by decide +kernel
theorem c_256_75 : pg_cd 256 75 = (1, 2, 0, 0, 114) := by decide +kernel
theorem c_256_77 : pg_cd 256 77 = (1, 2, 0, 0, 115) := by decide +kernel
theorem c_256_79 : pg_cd 256 79 = (81, 233, 191, 0, 0) := by decide +kernel
theorem c_256_82 : pg_cd 256 82 = (80, 236, 252, 0, 0) := by decide +kernel
theorem c_256_85 : pg_cd 256 85 = (6, 1, 0, 2, 0) := by decide +kernel
theorem c_256_86 : pg_cd 256 86 = (3, 1, 0, 2, 0) := by decide +kernel
theorem c_256_87 : pg_cd 256 87 = (36, 3, 0, 1, 16) := by decide +kernel
theorem c_256_90 : pg_cd 256 90 = (5, 1, 0, 0, 0) := by decide +kernel
theorem c_256_91 : pg_cd 256 91 = (1, 1, 0, 0, 0) := by decide +kernel
theorem c_256_92 : pg_cd 256 92 = (1, 2, 0, 0, 80) := by decide +kernel
theorem c_256_94 : pg_cd 256 94 = (3, 1, 0, 1, 0) := by decide +kernel
theorem c_256_95 : pg_cd 256 95 = (1, 1, 0, 0, 3) := by decide +kernel
theorem c_256_96 : pg_cd 256 96 = (10, 1, 0, 0, 0) := by decide +kernel
theorem c_256_97 : pg_cd 256 97 = (80, 237, 246, 0, 0) := by decide +kernel
theorem c_256_100 : pg_cd 256 100 = (38, 3, 0, 0, 4) := by decide +kernel
theorem c_256_103 : pg_cd 256 103 = (3, 1, 0, 2, 0) := by decide +kernel
theorem c_256_104 : pg_cd 256 104 = (90, 0, 0, 0, 0) := by decide +kernel
theorem mi_256 : pg_mc 256 = 12 ∧ pg_na 256 = 1 ∧ pg_mx 256 = 3 := by decide +kernel
set_option maxRecDepth 20000 in
theorem u_256_0 {d : Nat} {S : zS} {σ τ : zI} {Q : zQ} {x1 : Int} (t : ∃ T1 : Int → Int, ∃ n2 : Int, ∃ s3 : Int, (TB T1 n2) ∧ (TR T1 n2 s3 σ τ) ∧ (EB σ) ∧ (σ 83 12 ≤ (x1 + 1) ∧ (x1 + 1) < σ 83 12 + 200) ∧ ∀ (σ18 : zI) (τ19 : zI), 0 ≤ (numO T1 n2 0 99 (x1 + 1) s3).1 ∧ (numO T1 n2 0 99 (x1 + 1) s3).1 ≤ 4 → GF T1 n2 σ τ (numO T1 n2 0 99 (x1 + 1) s3) σ18 τ19 → (rg ((numO T1 n2 0 99 (x1 + 1) s3).1)) ∧ if ((numO T1 n2 0 99 (x1 + 1) s3).1) = 0 then (if (σ18 83 9) = 2 then (if (τ19 83 11) = 29807 then (∃ T19 : Int → Int, ∃ n20 : Int, ∃ s21 : Int, (TB T19 n20) ∧ (TR T19 n20 s21 σ18 τ19) ∧ (s21 < n20) ∧ ∀ (σ125 : zI) (τ126 : zI), FK σ18 σ125 τ19 τ126 → TR T19 n20 (nx T19 n20 s21) σ125 τ126 → (0 ≤ x1 + 1 ∧ x1 + 1 < 112300) ∧ ∃ T31 : Int → Int, ∃ n32 : Int, ∃ s33 : Int, (TB T31 n32) ∧ (TR T31 n32 s33 σ125 τ126) ∧ (EB σ125) ∧ (σ125 83 12 ≤ (x1 + 2) ∧ (x1 + 2) < σ125 83 12 + 200) ∧ ∀ (σ138 : zI) (τ139 : zI), 0 ≤ (numO T31 n32 (σ125 84 (x1 + 1)) 99 (x1 + 2) s33).1 ∧ (numO T31 n32 (σ125 84 (x1 + 1)) 99 (x1 + 2) s33).1 ≤ 4 → GF T31 n32 σ125 τ126 (numO T31 n32 (σ125 84 (x1 + 1)) 99 (x1 + 2) s33) σ138 τ139 → (rg ((numO T31 n32 (σ125 84 (x1 + 1)) 99 (x1 + 2) s33).1)) ∧ if ((numO T31 n32 (σ125 84 (x1 + 1)) 99 (x1 + 2) s33).1) = 0 then ((((0 : Int) ≤ 104 ∧ 104 ≤ (127 : Int)) ∧ ((0 : Int) ≤ 111 ∧ 111 ≤ (127 : Int)) ∧ ((0 : Int) ≤ 117 ∧ 117 ≤ (127 : Int)) ∧ ((0 : Int) ≤ 114 ∧ 114 ≤ (127 : Int)) ∧ ((0 : Int) ≤ 115 ∧ 115 ≤ (127 : Int))) ∧ ∃ T46 : Int → Int, ∃ n47 : Int, ∃ s48 : Int, ∃ w49 : Int, (TB T46 n47) ∧ (TR T46 n47 s48 σ138 τ139) ∧ (EB σ138) ∧ (rj (((104 * 65536 + 111 * 256 + 117) * 256 + 114) * 256 + 115)) ∧ ((3 ≤ w49 ∧ w49 ≤ 22) ∧ ∀ x, wcd x = w49 ↔ x = (((104 * 65536 + 111 * 256 + 117) * 256 + 114) * 256 + 115)) ∧ ∀ (σ155 : zI) (τ156 : zI), 0 ≤ (nedO T46 n47 w49 s48).1 ∧ (nedO T46 n47 w49 s48).1 ≤ 4 → GF T46 n47 σ138 τ139 (nedO T46 n47 w49 s48) σ155 τ156 → (rg ((nedO T46 n47 w49 s48).1)) ∧ if ((nedO T46 n47 w49 s48).1) = 0 then (∃ T61 : Int → Int, ∃ n62 : Int, ∃ s63 : Int, (TB T61 n62) ∧ (TR T61 n62 s63 σ155 τ156) ∧ (EB σ155) ∧ (σ155 83 12 ≤ (x1 + 3) ∧ (x1 + 3) < σ155 83 12 + 200) ∧ ∀ (σ168 : zI) (τ169 : zI), 0 ≤ (numO T61 n62 0 80 (x1 + 3) s63).1 ∧ (numO T61 n62 0 80 (x1 + 3) s63).1 ≤ 4 → GF T61 n62 σ155 τ156 (numO T61 n62 0 80 (x1 + 3) s63) σ168 τ169 → Q (some (.int (wI ((numO T61 n62 0 80 (x1 + 3) s63).1)))) S σ168 τ169) else (Q (some (.int (wI ((nedO T46 n47 w49 s48).1)))) S σ155 τ156)) else (Q (some (.int (wI ((numO T31 n32 (σ125 84 (x1 + 1)) 99 (x1 + 2) s33).1)))) S σ138 τ139)) else (Q (some (.int (wI 1))) S σ18 τ19)) else (Q (some (.int (wI 1))) S σ18 τ19)) else (Q (some (.int (wI ((numO T1 n2 0 99 (x1 + 1) s3).1)))) S σ18 τ19)) : wi (d + 8) 256 0 [.ref 83, .int (wI x1), .retAddr 0] [] S σ τ Q := by
  obtain ⟨T1, t⟩ := t
  obtain ⟨n2, t⟩ := t
  obtain ⟨s3, t⟩ := t
  obtain ⟨p4, t⟩ := t
  obtain ⟨p5, t⟩ := t
  obtain ⟨p6, t⟩ := t
  obtain ⟨p7, t⟩ := t
  refine i5 c_256_0 rfl (i1 c_256_1 (i1 c_256_2 (i3 c_256_4 rfl (i1 c_256_5 (i10 c_256_6 ?_)))))
  refine i80 (As := [.int (wI 0), .int (wI 99), .int (wI (x1 + 1))]) (rest := []) c_256_7 mi_237 rfl rfl (Nat.le_of_ble_eq_true rfl) (Nat.le_of_ble_eq_true rfl) (lo (c := 83) (kd := 112) (n := 0) rfl (by decide)) (q_237 (T := T1) (n := n2) (s := s3) p4 p5 p6 p7 (by decide) (by decide) (fun σ18 τ19 q10 q11 => ?_))
  have t := t σ18 τ19 q10 q11
  show wi (d + 8) 256 10 [.ref 83, .int (wI x1), .retAddr 0] [.int (wI ((numO T1 n2 0 99 (x1 + 1) s3).1))] S σ18 τ19 Q
  obtain ⟨r12, t⟩ := t
  refine i6 (L' := [.ref 83, .int (wI x1), .int (wI ((numO T1 n2 0 99 (x1 + 1) s3).1))]) c_256_10 rfl (i3 c_256_11 rfl ?_)
  refine i36 c_256_12 r12 rfl (fun hc => ?_) (fun hc => ?_)
  · have t := iF t hc
    have ha13 : ¬ (((numO T1 n2 0 99 (x1 + 1) s3).1) = 0) := hc
    refine i3 c_256_36 rfl ?_
    refine i36 c_256_37 r12 rfl (fun hc => absurd hc (show ¬ (((numO T1 n2 0 99 (x1 + 1) s3).1) = 0) by omega)) (fun _ => ?_)
    refine i3 c_256_40 rfl ?_
    exact i90 c_256_41 t
  · have t := iT t (Decidable.not_not.mp hc)
    have ha13 : ((numO T1 n2 0 99 (x1 + 1) s3).1) = 0 := Decidable.not_not.mp hc
    refine i5 c_256_15 rfl (wi_ok (fun K15 => ?_))
    refine i43 (v := σ18 83 9) c_256_16 (lo (c := 83) (kd := 112) (n := 0) rfl (by decide)) rfl (i1 c_256_19 ?_)
    refine i37 c_256_20 (rge_ K15 rfl) (by decide) rfl (fun hc => ?_) (fun hc => ?_)
    · have t := iF t hc
      have ha16 : ¬ ((σ18 83 9) = 2) := hc
      refine i1 c_256_34 (i6 (L' := [.ref 83, .int (wI x1), .int (wI 1)]) c_256_35 rfl (i3 c_256_36 rfl (i36k (pc1 := 40) c_256_37 (by decide) (i3 c_256_40 rfl ?_))))
      exact i90 c_256_41 t
    · have t := iT t (Decidable.not_not.mp hc)
      have ha16 : (σ18 83 9) = 2 := Decidable.not_not.mp hc
      refine i5 c_256_23 rfl (i44 (v := τ19 83 11) c_256_24 (lo (c := 83) (kd := 112) (n := 0) rfl (by decide)) rfl (i2 c_256_27 (i28 c_256_30 ?_)))
      refine i36l c_256_31 (rje_ K15 rfl) (by decide) rfl (fun hc => ?_) (fun hc => ?_)
      · have t := iT t hc
        have ha17 : (τ19 83 11) = 29807 := hc
        refine i3 c_256_36 rfl ?_
        refine i36 c_256_37 r12 rfl (fun _ => ?_) (fun hc => absurd (show ((numO T1 n2 0 99 (x1 + 1) s3).1) = 0 by omega) hc)
        obtain ⟨T19, t⟩ := t
        obtain ⟨n20, t⟩ := t
        obtain ⟨s21, t⟩ := t
        obtain ⟨p22, t⟩ := t
        obtain ⟨p23, t⟩ := t
        obtain ⟨p24, t⟩ := t
        refine i5 c_256_42 rfl ?_
        refine i80 (As := []) (rest := []) c_256_43 mi_231 rfl rfl (Nat.le_of_ble_eq_true rfl) (Nat.le_of_ble_eq_true rfl) (lo (c := 83) (kd := 112) (n := 0) rfl (by decide)) (q_231t (T := T19) (n := n20) (s := s21) p22 p23 p24 (fun σ125 τ126 q27 q28 => ?_))
        have t := t σ125 τ126 q27 q28
        show wi (d + 8) 256 46 [.ref 83, .int (wI x1), .int (wI ((numO T1 n2 0 99 (x1 + 1) s3).1))] [] S σ125 τ126 Q
        obtain ⟨r29, t⟩ := t
        refine i5 c_256_46 rfl (i5 c_256_47 rfl (i45 c_256_48 (lo (c := 83) (kd := 112) (n := 0) rfl (by decide)) (lro (c := 83) (k := 0) (j := 84) (by decide)) (i3 c_256_51 rfl (i1 c_256_52 (i10 c_256_53 (wi_ok (fun K30 => ?_)))))))
        obtain ⟨T31, t⟩ := t
        obtain ⟨n32, t⟩ := t
        obtain ⟨s33, t⟩ := t
        obtain ⟨p34, t⟩ := t
        obtain ⟨p35, t⟩ := t
        obtain ⟨p36, t⟩ := t
        obtain ⟨p37, t⟩ := t
        refine i50 (v := σ125 84 (x1 + 1)) c_256_54 (lo (c := 84) (kd := 0) (n := 112300) rfl (by decide)) (by decide) r29 rfl (i1 c_256_55 (i3 c_256_57 rfl (i1 c_256_58 (i10 c_256_59 ?_))))
        refine i80 (As := [.int (wI (σ125 84 (x1 + 1))), .int (wI 99), .int (wI (x1 + 2))]) (rest := []) c_256_60 mi_237 rfl rfl (Nat.le_of_ble_eq_true rfl) (Nat.le_of_ble_eq_true rfl) (lo (c := 83) (kd := 112) (n := 0) rfl (by decide)) (q_237 (T := T31) (n := n32) (s := s33) p34 p35 p36 p37 (rge_ K30 rfl) (by decide) (fun σ138 τ139 q40 q41 => ?_))
        have t := t σ138 τ139 q40 q41
        show wi (d + 8) 256 63 [.ref 83, .int (wI x1), .int (wI ((numO T1 n2 0 99 (x1 + 1) s3).1))] [.int (wI ((numO T31 n32 (σ125 84 (x1 + 1)) 99 (x1 + 2) s33).1))] S σ138 τ139 Q
        obtain ⟨r42, t⟩ := t
        refine i6 (L' := [.ref 83, .int (wI x1), .int (wI ((numO T31 n32 (σ125 84 (x1 + 1)) 99 (x1 + 2) s33).1))]) c_256_63 rfl (i3 c_256_64 rfl ?_)
        refine i36 c_256_65 r42 rfl (fun hc => ?_) (fun hc => ?_)
        · have t := iF t hc
          have ha43 : ¬ (((numO T31 n32 (σ125 84 (x1 + 1)) 99 (x1 + 2) s33).1) = 0) := hc
          refine i3 c_256_86 rfl ?_
          refine i36 c_256_87 r42 rfl (fun _ => ?_) (fun hc => absurd (show ¬ (((numO T31 n32 (σ125 84 (x1 + 1)) 99 (x1 + 2) s33).1) = 0) by omega) hc)
          refine i3 c_256_103 rfl ?_
          exact i90 c_256_104 t
        · have t := iT t (Decidable.not_not.mp hc)
          have ha43 : ((numO T31 n32 (σ125 84 (x1 + 1)) 99 (x1 + 2) s33).1) = 0 := Decidable.not_not.mp hc
          obtain ⟨p45, t⟩ := t
          refine i5 c_256_68 rfl (i1 c_256_69 (i1 c_256_71 (i1 c_256_73 (i1 c_256_75 (i1 c_256_77 ?_)))))
          refine i81 (As := [.int (wI 104), .int (wI 111), .int (wI 117), .int (wI 114), .int (wI 115)]) (rest := [.ref 83]) c_256_79 mi_233 rfl rfl (Nat.le_of_ble_eq_true rfl) (Nat.le_of_ble_eq_true rfl) (q_233 p45 ?_)
          show wi (d + 8) 256 82 [.ref 83, .int (wI x1), .int (wI ((numO T31 n32 (σ125 84 (x1 + 1)) 99 (x1 + 2) s33).1))] [.long (wJ (((104 * 65536 + 111 * 256 + 117) * 256 + 114) * 256 + 115)), .ref 83] S σ138 τ139 Q
          obtain ⟨T46, t⟩ := t
          obtain ⟨n47, t⟩ := t
          obtain ⟨s48, t⟩ := t
          obtain ⟨w49, t⟩ := t
          obtain ⟨p50, t⟩ := t
          obtain ⟨p51, t⟩ := t
          obtain ⟨p52, t⟩ := t
          obtain ⟨p53, t⟩ := t
          obtain ⟨p54, t⟩ := t
          refine i80 (As := [.long (wJ (((104 * 65536 + 111 * 256 + 117) * 256 + 114) * 256 + 115))]) (rest := []) c_256_82 mi_236 rfl rfl (Nat.le_of_ble_eq_true rfl) (Nat.le_of_ble_eq_true rfl) (lo (c := 83) (kd := 112) (n := 0) rfl (by decide)) (q_236 (T := T46) (n := n47) (s := s48) (w := w49) p50 p51 p52 p53 p54 (fun σ155 τ156 q57 q58 => ?_))
          have t := t σ155 τ156 q57 q58
          show wi (d + 8) 256 85 [.ref 83, .int (wI x1), .int (wI ((numO T31 n32 (σ125 84 (x1 + 1)) 99 (x1 + 2) s33).1))] [.int (wI ((nedO T46 n47 w49 s48).1))] S σ155 τ156 Q
          obtain ⟨r59, t⟩ := t
          refine i6 (L' := [.ref 83, .int (wI x1), .int (wI ((nedO T46 n47 w49 s48).1))]) c_256_85 rfl (i3 c_256_86 rfl ?_)
          refine i36 c_256_87 r59 rfl (fun hc => ?_) (fun hc => ?_)
          · have t := iF t hc
            have ha60 : ¬ (((nedO T46 n47 w49 s48).1) = 0) := hc
            refine i3 c_256_103 rfl ?_
            exact i90 c_256_104 t
          · have t := iT t (Decidable.not_not.mp hc)
            have ha60 : ((nedO T46 n47 w49 s48).1) = 0 := Decidable.not_not.mp hc
            obtain ⟨T61, t⟩ := t
            obtain ⟨n62, t⟩ := t
            obtain ⟨s63, t⟩ := t
            obtain ⟨p64, t⟩ := t
            obtain ⟨p65, t⟩ := t
            obtain ⟨p66, t⟩ := t
            obtain ⟨p67, t⟩ := t
            refine i5 c_256_90 rfl (i1 c_256_91 (i1 c_256_92 (i3 c_256_94 rfl (i1 c_256_95 (i10 c_256_96 ?_)))))
            refine i80 (As := [.int (wI 0), .int (wI 80), .int (wI (x1 + 3))]) (rest := []) c_256_97 mi_237 rfl rfl (Nat.le_of_ble_eq_true rfl) (Nat.le_of_ble_eq_true rfl) (lo (c := 83) (kd := 112) (n := 0) rfl (by decide)) (q_237 (T := T61) (n := n62) (s := s63) p64 p65 p66 p67 (by decide) (by decide) (fun σ168 τ169 q70 q71 => ?_))
            have t := t σ168 τ169 q70 q71
            show wi (d + 8) 256 100 [.ref 83, .int (wI x1), .int (wI ((nedO T46 n47 w49 s48).1))] [.int (wI ((numO T61 n62 0 80 (x1 + 3) s63).1))] S σ168 τ169 Q
            refine i38 c_256_100 rfl ?_
            exact i90 c_256_104 t
      · have t := iF t hc
        have ha17 : ¬ ((τ19 83 11) = 29807) := hc
        refine i1 c_256_34 (i6 (L' := [.ref 83, .int (wI x1), .int (wI 1)]) c_256_35 rfl (i3 c_256_36 rfl (i36k (pc1 := 40) c_256_37 (by decide) (i3 c_256_40 rfl ?_))))
        exact i90 c_256_41 t
theorem q_256 {d : Nat} {S : zS} {σ τ : zI} {Q : zQ} {q : Int} {T : Int → Int} {n : Int} {s : Int} (p0 : TB T n) (p1 : TR T n s σ τ) (p2 : EB σ) (p3 : σ 83 12 ≤ q ∧ q + 8 ≤ σ 83 12 + 200) (t : ∀ (σ1 : zI) (τ1 : zI), 0 ≤ (ageO T n q s).1 ∧ (ageO T n q s).1 ≤ 4 → GF T n σ τ (ageO T n q s) σ1 τ1 → Q (some (.int (wI ((ageO T n q s).1)))) S σ1 τ1) : wc (d + 8) 256 [.ref 83, .int (wI q)] S σ τ Q := by
  have fin : ∀ (r : Int) (σ1 τ1 : zI), (ageO T n q s).1 = r → 0 ≤ r ∧ r ≤ 4 → GF T n σ τ (ageO T n q s) σ1 τ1 → Q (some (.int (wI r))) S σ1 τ1 := by
    intro r σ1 τ1 hR hr g
    have h := t σ1 τ1
    rw [hR] at h
    exact h hr g
  have b0 := p2.2.1
  refine wc_of mi_256 rfl (u_256_0 ⟨T, n, s, p0, p1, p2, by omega, fun σ1 τ1 rb1 g1 => ⟨by omega, ifI (fun e1 => ?_) (fun e1 => fin _ σ1 τ1 (by unfold ageO; rw [bnd_1 e1]) rb1 (GF_1 e1 g1))⟩⟩)
  have v1 := numO_0 e1
  have B1 := GF_b p2 g1
  have c1 : σ1 84 (q + 1) = nm T n s := by
    have pg := (g1.2.1 e1).1
    rw [v1.1] at pg
    have h3 := pg.1.2.2.2 (q + 1) (by omega)
    rw [h3]
    show u1 (σ 84) (q + 1) (nm T n s) (q + 1) = nm T n s
    rw [u1_s]
  have w12 := TR_w g1.1 p0 (t := 12) (v := 29807) (by omega) (fun x => by rw [wcd_12])
  have bad2 : ¬ (σ1 83 9 = 2 ∧ τ1 83 11 = 29807) → Q (some (.int (wI 1))) S σ1 τ1 := fun h => by
    have ne : nedO T n 12 (numO T n 0 99 (q + 1) s).2.1 = (1, (numO T n 0 99 (q + 1) s).2.1, [], []) := if_neg (fun z => h (w12.mpr z))
    have ne1 : (nedO T n 12 (numO T n 0 99 (q + 1) s).2.1).1 ≠ 0 := by rw [ne]; exact (show (1 : Int) ≠ 0 by decide)
    refine fin 1 σ1 τ1 ?_ (by omega) (GF_2 e1 g1 b0 (GF_1 ne1 ?_))
    · unfold ageO
      rw [bnd_2 e1, bnd_1 ne1, ne]
    · rw [ne]
      exact GF_e (by decide) g1.1 B1.1.2.2
  refine ifI (fun a => ifI (fun b => ?_) (fun b => bad2 (fun z => b z.2))) (fun a => bad2 (fun z => a z.1))
  have t12 := w12.mp ⟨a, b⟩
  have n2 : nedO T n 12 (numO T n 0 99 (q + 1) s).2.1 = (0, nx T n (numO T n 0 99 (q + 1) s).2.1, [], []) := if_pos t12
  have e2 : (nedO T n 12 (numO T n 0 99 (q + 1) s).2.1).1 = 0 := by rw [n2]
  refine ⟨T, n, _, p0, g1.1, tk_n (T := T) (by omega), fun σ2 τ2 fk tr2 => ?_⟩
  have g2 : GF T n σ1 τ1 (nedO T n 12 (numO T n 0 99 (q + 1) s).2.1) σ2 τ2 := by
    rw [n2]
    exact GF_v tr2 (PGc_P (PF_F fk)) (fk.2.1 17 (by omega)) B1.1.2.2
  have B2 := GF_b B1.1 g2
  have c2 : σ2 84 (q + 1) = nm T n s := by rw [fk.1 84 (by decide)]; exact c1
  rw [c2]
  refine ⟨by have := p2.1; omega, T, n, _, p0, g2.1, B2.1, by omega, fun σ3 τ3 rb3 g3 => ⟨by omega, ifI (fun e3 => ?_) (fun e3 => fin _ σ3 τ3 ?_ rb3 (GF_2 e1 g1 b0 (GF_2 e2 g2 B1.1.2.1 (GF_1 e3 g3))))⟩⟩
  · have B3 := GF_b B2.1 g3
    refine ⟨by omega, T, n, _, 13, p0, g3.1, B3.1, by decide, ⟨by omega, fun x => by rw [wcd_13]; omega⟩, fun σ4 τ4 rb4 g4 => ⟨by omega, ifI (fun e4 => ?_) (fun e4 => fin _ σ4 τ4 ?_ rb4 (GF_2 e1 g1 b0 (GF_2 e2 g2 B1.1.2.1 (GF_2 e3 g3 B2.1.2.1 (GF_1 e4 g4)))))⟩⟩
    · have B4 := GF_b B3.1 g4
      refine ⟨T, n, _, p0, g4.1, B4.1, by omega, fun σ5 τ5 rb5 g5 => fin _ σ5 τ5 ?_ rb5 (GF_2 e1 g1 b0 (GF_2 e2 g2 B1.1.2.1 (GF_2 e3 g3 B2.1.2.1 (GF_2 e4 g4 B3.1.2.1 g5))))⟩
      unfold ageO
      rw [bnd_2 e1, bnd_2 e2, bnd_2 e3, bnd_2 e4]
    · unfold ageO
      rw [bnd_2 e1, bnd_2 e2, bnd_2 e3, bnd_1 e4]
  · unfold ageO
    rw [bnd_2 e1, bnd_2 e2, bnd_1 e3]
