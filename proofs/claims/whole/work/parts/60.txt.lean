/-! ===== TEXTS: how the class shows what the reference holds; HOURS of the class (segments printed by wip/whole, contracts own work) ===== -/
theorem rt8 {cnt : Int} {f : Int → Int} {k row : Int} (h : 0 ≤ row ∧ row < cnt) : rt_ cnt f 8 k row = f (row * 8 + k) := rt_p h
theorem isR_hi {r : Nat} (h : 100 ≤ r) : isR r = false := by
  cases e : isR r
  · rfl
  · unfold isR at e
    have e := of_decide_eq_true e
    simp only [List.mem_cons, List.not_mem_nil, or_false] at e
    omega
/-- a sort of CLAUSES in the class's numbers -/
def srt (s : Int) : Int := if s = 1 then 3 else if s ≤ 3 then 4 else if s ≤ 5 then 5 else s
/-- a step in the class's numbers -/
def stE (o v : Int) : Int := if o = 0 then 20000 + v else if o = 1 then (16 + v) * 10000 else if o = 2 then 370000 else if o = 3 then 290000 else if o = 4 then 300000 else if o = 5 then 310000 else if o = 6 then 320000 else if o = 7 then 210000 else if o = 8 then 220000 else if o ≤ 15 then (13 + o) * 10000 else if o = 20 then 160000 else if o = 21 then 150000 else 140000
/-- one CLAUSE: the class's row f at 8 * c, the reference's C -/
def TC (f : Int → Int) (c : Int) (a : Int → Int) (C : Int) : Prop := f (c * 8 + 0) = srt (a C) ∧ (a C = 7 → f (c * 8 + 1) = a (C + 1) ∧ f (c * 8 + 2) = a (C + 2) ∧ f (c * 8 + 3) = a (C + 3)) ∧ (a C = 2 ∨ a C = 3 ∨ a C = 6 ∨ a C = 8 ∨ a C = 9 → f (c * 8 + 1) = a (C + 1)) ∧ (a C ≤ 5 → f (c * 8 + 4) = (if a C = 3 ∨ a C = 5 then 30 else 29) ∧ f (c * 8 + 6) = a (C + 6) ∧ f (c * 8 + 7) = a (C + 7)) ∧ (a C = 4 ∨ a C = 5 → f (c * 8 + 5) = a (C + 4) ∧ a (C + 5) = a (C + 6))
/-- the TEXT at x shows the reference's TEXT n -/
def TX (σ : zI) (x : Nat) (a : Int → Int) (n : Int) : Prop := σ (x + 1) 0 = 8 ∧ σ (x + 1) 2 = a (5500 + 840 * n) ∧ (∀ c, 0 ≤ c → c < a (5500 + 840 * n) → TC (σ (x + 2)) c a (5500 + 840 * n + 1 + 8 * c)) ∧ (∀ s, 3 ≤ s → s ≤ 9 → (zand (zush (σ x 3) s) 1 = 0 ↔ ∀ c, 0 ≤ c → c < a (5500 + 840 * n) → srt (a (5500 + 840 * n + 1 + 8 * c)) ≠ s)) ∧ (0 ≤ σ x 2 ∧ σ x 2 ≤ 300) ∧ (∀ i, 0 ≤ i → i < σ x 2 → σ (x + 3) i = stE (a (5500 + 840 * n + 200 + 2 * i)) (a (5500 + 840 * n + 200 + 2 * i + 1))) ∧ ∀ c, 0 ≤ c → c < a (5500 + 840 * n) → a (5500 + 840 * n + 1 + 8 * c) ≤ 5 → a (5500 + 840 * n + 1 + 8 * c + 7) ≤ σ x 2
/-- the class holds the TEXTS of a -/
def RX (S : zS) (σ : zI) (a : Int → Int) : Prop := (0 ≤ a 5 ∧ a 5 ≤ 20) ∧ ∀ n, 0 ≤ n → n < a 5 → ∃ x, S.2.2.2 55 n.toNat = some x ∧ oT S x ∧ TX σ x a n
theorem TX_w {S : zS} {σ : zI} {x : Nat} {a : Int → Int} {n : Int} (h : TX σ x a n) (o : oT S x) (j : jv_T a) (h0 : 0 ≤ n) (h1 : n < a 5) : oW S σ (x + 1) 8 192 := by
  have jt := (j n h0 h1).1
  refine ⟨oT_1 o, oT_r2 o, oT_2 o, h.1, by omega, by rw [h.2.1]; omega, by rw [h.2.1]; omega, by omega, ?_, ?_, by omega⟩
  · have := oT_b o
    exact isR_hi (by omega)
  · intro q hq e
    have := oT_b o
    have : ∀ q ∈ lwT, q.1 < 100 := by decide
    have := this q hq
    omega
theorem srt7 {s k : Int} (h : 1 ≤ s ∧ s ≤ 9) (hk : 6 ≤ k) : srt s = k ↔ s = k := by
  unfold srt
  repeat' split
  all_goals omega
theorem srt1 {s : Int} (h : 1 ≤ s ∧ s ≤ 9) : srt s = 3 ↔ s = 1 := by
  unfold srt
  repeat' split
  all_goals omega
theorem TX_hc {σ : zI} {x : Nat} {a : Int → Int} {n s k : Int} (h : TX σ x a n) (j : jv_T a) (h0 : 0 ≤ n) (h1 : n < a 5) (hs : (s = 1 ∧ k = 3) ∨ (6 ≤ s ∧ s ≤ 9 ∧ k = s)) : zand (zush (σ x 3) k) 1 = 0 ↔ ¬ r_hc a n s = true := by
  have jt := j n h0 h1
  rw [h.2.2.2.1 k (by omega) (by omega)]
  unfold r_hc
  rw [r_hcN_iff]
  constructor
  · rintro q ⟨c, c0, c1, c2⟩
    refine q c c0 (by omega) ?_
    have b := (jt.2 c c0 (by omega)).1
    rcases hs with ⟨e1, e2⟩ | ⟨e1, e2, e3⟩
    · rw [e2]; exact (srt1 b).mpr (by omega)
    · exact (srt7 b (by omega)).mpr (by omega)
  · intro q c c0 c1 e
    refine q ⟨c, c0, by omega, ?_⟩
    have b := (jt.2 c c0 (by omega)).1
    rcases hs with ⟨e1, e2⟩ | ⟨e1, e2, e3⟩
    · rw [e2] at e; rw [e1]; exact (srt1 b).mp e
    · have := (srt7 b (by omega)).mp e; omega
-- method 10: MillTown$Law.textAt(I)LMillTown$Text;
theorem c_10_0 : pg_cd 10 0 = (3, 1, 0, 1, 0) := by decide +kernel
theorem c_10_1 : pg_cd 10 1 = (36, 3, 0, 2, 21) := by decide +kernel
theorem c_10_4 : pg_cd 10 4 = (3, 1, 0, 1, 0) := by decide +kernel
theorem c_10_5 : pg_cd 10 5 = (5, 1, 0, 0, 0) := by decide +kernel
theorem c_10_6 : pg_cd 10 6 = (45, 1, 11, 0, 0) := by decide +kernel
theorem c_10_9 : pg_cd 10 9 = (58, 10, 0, 0, 0) := by decide +kernel
theorem c_10_10 : pg_cd 10 10 = (37, 3, 0, 3, 12) := by decide +kernel
theorem c_10_13 : pg_cd 10 13 = (5, 1, 0, 0, 0) := by decide +kernel
theorem c_10_14 : pg_cd 10 14 = (45, 1, 11, 0, 0) := by decide +kernel
theorem c_10_17 : pg_cd 10 17 = (3, 1, 0, 1, 0) := by decide +kernel
theorem c_10_18 : pg_cd 10 18 = (53, 7, 0, 0, 0) := by decide +kernel
theorem c_10_19 : pg_cd 10 19 = (38, 3, 0, 0, 4) := by decide +kernel
theorem c_10_22 : pg_cd 10 22 = (41, 1, 0, 0, 0) := by decide +kernel
theorem c_10_23 : pg_cd 10 23 = (93, 0, 0, 0, 0) := by decide +kernel
theorem mi_10 : pg_mc 10 = 1 ∧ pg_na 10 = 1 ∧ pg_mx 10 = 2 := by decide +kernel
set_option maxRecDepth 20000 in
theorem u_10_0 {d : Nat} {S : zS} {σ τ : zI} {Q : zQ} {x1 : Int} (t : (rg x1) ∧ if x1 < 0 then (Q (some (.null)) S σ τ) else (if (20 : Int) ≤ x1 then (Q (some (.null)) S σ τ) else ((0 ≤ x1 ∧ x1 < 20) ∧ ((S.2.2.2 55 (x1).toNat = none → Q (some (.null)) S σ τ) ∧ ∀ j5 : Nat, S.2.2.2 55 (x1).toNat = some j5 → oT S j5 ∧ Q (some (.ref j5)) S σ τ)))) : wi (d + 0) 10 0 [.ref 54, .int (wI x1)] [] S σ τ Q := by
  obtain ⟨r1, t⟩ := t
  refine i3 c_10_0 rfl ?_
  refine i36 c_10_1 r1 rfl (fun hc => ?_) (fun hc => ?_)
  · have t := iT t hc
    have ha2 : x1 < 0 := hc
    refine i41 c_10_22 ?_
    exact i93n c_10_23 t
  · have t := iF t hc
    have ha2 : ¬ (x1 < 0) := hc
    refine i3 c_10_4 rfl (i5 c_10_5 rfl (i45 c_10_6 (lo (c := 54) (kd := 101) (n := 0) rfl (by decide)) (lro (c := 54) (k := 0) (j := 55) (by decide)) (i58 (v := 20) c_10_9 (lo (c := 55) (kd := 10) (n := 20) rfl (by decide)) rfl ?_)))
    refine i37 c_10_10 r1 (by decide) rfl (fun hc => ?_) (fun hc => ?_)
    · have t := iT t hc
      have ha3 : (20 : Int) ≤ x1 := hc
      refine i41 c_10_22 ?_
      exact i93n c_10_23 t
    · have t := iF t hc
      have ha3 : ¬ ((20 : Int) ≤ x1) := hc
      obtain ⟨r4, t⟩ := t
      refine i5 c_10_13 rfl (i45 c_10_14 (lo (c := 54) (kd := 101) (n := 0) rfl (by decide)) (lro (c := 54) (k := 0) (j := 55) (by decide)) (i3 c_10_17 rfl ?_))
      refine i53 c_10_18 (lo (c := 55) (kd := 10) (n := 20) rfl (by decide)) (by decide) r4 (fun hr => ?_) (fun j5 hr => ?_)
      · have t := t.1 hr
        refine i38 c_10_19 rfl ?_
        exact i93n c_10_23 t
      · obtain ⟨hj5, t⟩ := t.2 _ hr
        refine i38 c_10_19 rfl ?_
        exact i93a c_10_23 t
theorem q_10 {d : Nat} {S : zS} {σ τ : zI} {Q : zQ} {number : Int} {a : Int → Int} (p0 : RX S σ a) (p1 : rg number) (p2 : number < a 5) (t1 : number < 0 → Q (some .null) S σ τ) (t2 : ∀ j : Nat, oT S j → 0 ≤ number → TX σ j a number → Q (some (.ref j)) S σ τ) : wc (d + 0) 10 [.ref 54, .int (wI number)] S σ τ Q := by
  refine wc_of mi_10 rfl (u_10_0 ⟨p1, ?_⟩)
  have b := p0.1
  refine ifI (fun e => t1 e) (fun e => ?_)
  rw [if_neg (by omega)]
  obtain ⟨x, hx, ho, ht⟩ := p0.2 number (by omega) p2
  refine ⟨by omega, fun e => ?_, fun j e => ?_⟩
  · rw [hx] at e; cases e
  · rw [hx] at e
    cases e
    exact ⟨ho, t2 _ ho (by omega) ht⟩
-- method 83: MillTown$Text.hasSort(I)Z
theorem c_83_0 : pg_cd 83 0 = (5, 1, 0, 0, 0) := by decide +kernel
theorem c_83_1 : pg_cd 83 1 = (43, 7, 31, 3, 0) := by decide +kernel
theorem c_83_4 : pg_cd 83 4 = (3, 1, 0, 1, 0) := by decide +kernel
theorem c_83_5 : pg_cd 83 5 = (20, 1, 0, 0, 0) := by decide +kernel
theorem c_83_6 : pg_cd 83 6 = (1, 1, 0, 0, 1) := by decide +kernel
theorem c_83_7 : pg_cd 83 7 = (13, 1, 0, 0, 0) := by decide +kernel
theorem c_83_8 : pg_cd 83 8 = (36, 3, 0, 0, 7) := by decide +kernel
theorem c_83_11 : pg_cd 83 11 = (1, 1, 0, 0, 1) := by decide +kernel
theorem c_83_12 : pg_cd 83 12 = (38, 3, 0, 0, 4) := by decide +kernel
theorem c_83_15 : pg_cd 83 15 = (1, 1, 0, 0, 0) := by decide +kernel
theorem c_83_16 : pg_cd 83 16 = (91, 0, 0, 0, 0) := by decide +kernel
theorem mi_83 : pg_mc 83 = 7 ∧ pg_na 83 = 1 ∧ pg_mx 83 = 2 := by decide +kernel
set_option maxRecDepth 20000 in
theorem u_83_0 {d : Nat} {S : zS} {σ τ : zI} {Q : zQ} {x0 : Nat} {x1 : Int} (hx0 : oT S x0) (t : if (zand (zush (σ x0 3) x1) 1) = 0 then (Q (some (.int (wI 0))) S σ τ) else (Q (some (.int (wI 1))) S σ τ)) : wi (d + 0) 83 0 [.ref x0, .int (wI x1)] [] S σ τ Q := by
  refine i5 c_83_0 rfl (wi_ok (fun K1 => ?_))
  refine i43 (v := σ x0 3) c_83_1 (fun _ => oT_0 hx0) rfl (i3 c_83_4 rfl (i20 c_83_5 (i1 c_83_6 (i13 c_83_7 ?_))))
  refine i36 c_83_8 (rg_toInt _) rfl (fun hc => ?_) (fun hc => ?_)
  · have t := iT t hc
    have ha2 : (zand (zush (σ x0 3) x1) 1) = 0 := hc
    refine i1 c_83_15 ?_
    exact i91 c_83_16 (by decide) t
  · have t := iF t hc
    have ha2 : ¬ ((zand (zush (σ x0 3) x1) 1) = 0) := hc
    refine i1 c_83_11 (i38 c_83_12 rfl ?_)
    exact i91 c_83_16 (by decide) t
theorem q_83 {d : Nat} {S : zS} {σ τ : zI} {Q : zQ} {x : Nat} {s : Int} (hx : oT S x) (t : Q (some (.int (wI (if ¬ zand (zush (σ x 3) s) 1 = 0 then 1 else 0)))) S σ τ) : wc (d + 0) 83 [.ref x, .int (wI s)] S σ τ Q := by
  refine wc_of mi_83 rfl (u_83_0 hx ?_)
  refine ifI (fun e => ?_) (fun e => ?_)
  · rw [if_neg (by simp [e])] at t; exact t
  · rw [if_pos e] at t; exact t
-- method 85: MillTown$Text.greatest(I)I
theorem c_85_0 : pg_cd 85 0 = (1, 1, 0, 0, 0) := by decide +kernel
theorem c_85_1 : pg_cd 85 1 = (6, 1, 0, 2, 0) := by decide +kernel
theorem c_85_2 : pg_cd 85 2 = (1, 1, 0, 0, 0) := by decide +kernel
theorem c_85_3 : pg_cd 85 3 = (6, 1, 0, 3, 0) := by decide +kernel
theorem c_85_4 : pg_cd 85 4 = (3, 1, 0, 3, 0) := by decide +kernel
theorem c_85_5 : pg_cd 85 5 = (5, 1, 0, 0, 0) := by decide +kernel
theorem c_85_6 : pg_cd 85 6 = (45, 7, 14, 0, 0) := by decide +kernel
theorem c_85_9 : pg_cd 85 9 = (43, 4, 24, 2, 0) := by decide +kernel
theorem c_85_12 : pg_cd 85 12 = (37, 3, 0, 3, 36) := by decide +kernel
theorem c_85_15 : pg_cd 85 15 = (5, 1, 0, 0, 0) := by decide +kernel
theorem c_85_16 : pg_cd 85 16 = (45, 7, 14, 0, 0) := by decide +kernel
theorem c_85_19 : pg_cd 85 19 = (3, 1, 0, 3, 0) := by decide +kernel
theorem c_85_20 : pg_cd 85 20 = (1, 1, 0, 0, 0) := by decide +kernel
theorem c_85_21 : pg_cd 85 21 = (80, 55, 42, 0, 0) := by decide +kernel
theorem c_85_24 : pg_cd 85 24 = (3, 1, 0, 1, 0) := by decide +kernel
theorem c_85_25 : pg_cd 85 25 = (37, 3, 0, 1, 17) := by decide +kernel
theorem c_85_28 : pg_cd 85 28 = (3, 1, 0, 2, 0) := by decide +kernel
theorem c_85_29 : pg_cd 85 29 = (5, 1, 0, 0, 0) := by decide +kernel
theorem c_85_30 : pg_cd 85 30 = (45, 7, 14, 0, 0) := by decide +kernel
theorem c_85_33 : pg_cd 85 33 = (3, 1, 0, 3, 0) := by decide +kernel
theorem c_85_34 : pg_cd 85 34 = (1, 1, 0, 0, 1) := by decide +kernel
theorem c_85_35 : pg_cd 85 35 = (80, 55, 42, 0, 0) := by decide +kernel
theorem c_85_38 : pg_cd 85 38 = (73, 0, 46, 0, 0) := by decide +kernel
theorem c_85_41 : pg_cd 85 41 = (6, 1, 0, 2, 0) := by decide +kernel
theorem c_85_42 : pg_cd 85 42 = (9, 3, 0, 3, 1) := by decide +kernel
theorem c_85_45 : pg_cd 85 45 = (38, 3, 0, 0, (-41)) := by decide +kernel
theorem c_85_48 : pg_cd 85 48 = (3, 1, 0, 2, 0) := by decide +kernel
theorem c_85_49 : pg_cd 85 49 = (90, 0, 0, 0, 0) := by decide +kernel
theorem mi_85 : pg_mc 85 = 7 ∧ pg_na 85 = 1 ∧ pg_mx 85 = 4 := by decide +kernel
set_option maxRecDepth 20000 in
theorem u_85_0 {d : Nat} {S : zS} {σ τ : zI} {Q : zQ} {x0 : Nat} {x1 : Int} (hx0 : oT S x0) (t : wi (d + 7) 85 4 [.ref x0, .int (wI x1), .int (wI 0), .int (wI 0)] [] S σ τ Q) : wi (d + 7) 85 0 [.ref x0, .int (wI x1), .retAddr 0, .retAddr 0] [] S σ τ Q := by
  refine i1 c_85_0 (i6 (L' := [.ref x0, .int (wI x1), .int (wI 0), .retAddr 0]) c_85_1 rfl (i1 c_85_2 (i6 (L' := [.ref x0, .int (wI x1), .int (wI 0), .int (wI 0)]) c_85_3 rfl t)))
set_option maxRecDepth 20000 in
theorem u_85_4 {d : Nat} {S : zS} {σ τ : zI} {Q : zQ} {x0 : Nat} {x1 : Int} {x2 : Int} {x3 : Int} (hx0 : oT S x0) (t : (rg x3) ∧ if (σ (x0 + 1) 2) ≤ x3 then (Q (some (.int (wI x2))) S σ τ) else ((oW S σ (x0 + 1) 8 192) ∧ (rg x1) ∧ if (rt_ (σ (x0 + 1) 2) (σ (x0 + 2)) 8 0 x3) = x1 then ((rg x2) ∧ wi (d + 7) 85 4 [.ref x0, .int (wI x1), .int (wI (max x2 (rt_ (σ (x0 + 1) 2) (σ (x0 + 2)) 8 1 x3))), .int (wI (x3 + 1))] [] S σ τ Q) else (wi (d + 7) 85 4 [.ref x0, .int (wI x1), .int (wI x2), .int (wI (x3 + 1))] [] S σ τ Q))) : wi (d + 7) 85 4 [.ref x0, .int (wI x1), .int (wI x2), .int (wI x3)] [] S σ τ Q := by
  refine i3 c_85_4 rfl (i5 c_85_5 rfl (i45 c_85_6 (fun _ => oT_0 hx0) (fun _ => oT_r0 hx0) (wi_ok (fun K1 => ?_))))
  obtain ⟨r2, t⟩ := t
  refine i43 (v := σ (x0 + 1) 2) c_85_9 (fun _ => oT_1 hx0) rfl ?_
  refine i37 c_85_12 r2 (rge_ K1 rfl) rfl (fun hc => ?_) (fun hc => ?_)
  · have t := iT t hc
    have ha3 : (σ (x0 + 1) 2) ≤ x3 := hc
    refine i3 c_85_48 rfl ?_
    exact i90 c_85_49 t
  · have t := iF t hc
    have ha3 : ¬ ((σ (x0 + 1) 2) ≤ x3) := hc
    obtain ⟨o4, t⟩ := t
    refine i5 c_85_15 rfl (i45 c_85_16 (fun _ => oT_0 hx0) (fun _ => oT_r0 hx0) (i3 c_85_19 rfl (i1 c_85_20 ?_)))
    refine i80 (As := [.int (wI x3), .int (wI 0)]) (rest := []) c_85_21 mi_55 rfl rfl (Nat.le_of_ble_eq_true rfl) (Nat.le_of_ble_eq_true rfl) (fun _ => oT_1 hx0) (q_at (fun _ => o4) r2 (by decide) ?_)
    show wi (d + 7) 85 24 [.ref x0, .int (wI x1), .int (wI x2), .int (wI x3)] [.int (wI (rt_ (σ (x0 + 1) 2) (σ (x0 + 2)) 8 0 x3))] S σ τ Q
    obtain ⟨r5, t⟩ := t
    refine i3 c_85_24 rfl ?_
    refine i37 c_85_25 (rg_rt_ (fun k => kO_r K1 _ k) _ _ _ _) r5 rfl (fun hc => ?_) (fun hc => ?_)
    · have t := iF t hc
      have ha6 : ¬ ((rt_ (σ (x0 + 1) 2) (σ (x0 + 2)) 8 0 x3) = x1) := hc
      refine i9 (L' := [.ref x0, .int (wI x1), .int (wI x2), .int (wI (x3 + 1))]) c_85_42 rfl rfl (i38 c_85_45 rfl t)
    · have t := iT t (Decidable.not_not.mp hc)
      have ha6 : (rt_ (σ (x0 + 1) 2) (σ (x0 + 2)) 8 0 x3) = x1 := Decidable.not_not.mp hc
      refine i3 c_85_28 rfl (i5 c_85_29 rfl (i45 c_85_30 (fun _ => oT_0 hx0) (fun _ => oT_r0 hx0) (i3 c_85_33 rfl (i1 c_85_34 ?_))))
      refine i80 (As := [.int (wI x3), .int (wI 1)]) (rest := [.int (wI x2)]) c_85_35 mi_55 rfl rfl (Nat.le_of_ble_eq_true rfl) (Nat.le_of_ble_eq_true rfl) (fun _ => oT_1 hx0) (q_at (fun _ => o4) r2 (by decide) ?_)
      show wi (d + 7) 85 38 [.ref x0, .int (wI x1), .int (wI x2), .int (wI x3)] [.int (wI (rt_ (σ (x0 + 1) 2) (σ (x0 + 2)) 8 1 x3)), .int (wI x2)] S σ τ Q
      obtain ⟨r7, t⟩ := t
      refine i73 c_85_38 (Nat.le_of_ble_eq_true rfl) (by omega) r7 (rg_rt_ (fun k => kO_r K1 _ k) _ _ _ _) (i6 (L' := [.ref x0, .int (wI x1), .int (wI (max x2 (rt_ (σ (x0 + 1) 2) (σ (x0 + 2)) 8 1 x3))), .int (wI x3)]) c_85_41 rfl (i9 (L' := [.ref x0, .int (wI x1), .int (wI (max x2 (rt_ (σ (x0 + 1) 2) (σ (x0 + 2)) 8 1 x3))), .int (wI (x3 + 1))]) c_85_42 rfl rfl (i38 c_85_45 rfl t)))
theorem q_85 {d : Nat} {S : zS} {σ τ : zI} {Q : zQ} {x : Nat} {s : Int} {a : Int → Int} {n : Int} (hx : oT S x) (p0 : TX σ x a n) (p1 : jv_T a) (p2 : 0 ≤ n ∧ n < a 5) (p3 : (6 : Int) ≤ s ∧ s ≤ (9 : Int) ∧ s ≠ (7 : Int)) (t : Q (some (.int (wI (r_mx a n s (a (5500 + 840 * n)))))) S σ τ) : wc (d + 7) 85 [.ref x, .int (wI s)] S σ τ Q := by
  have ow := TX_w p0 hx p1 p2.1 p2.2
  have jt := p1 n p2.1 p2.2
  have cn := p0.2.1
  refine wc_of mi_85 rfl (u_85_0 hx ?_)
  have key : ∀ c, 0 ≤ c → c ≤ a (5500 + 840 * n) → ∀ v, v = r_mx a n s c → wi (d + 7) 85 4 [.ref x, .int (wI s), .int (wI v), .int (wI c)] [] S σ τ Q := by
    refine lp_up (fun c c0 c1 ih => ?_)
    intro v hv
    have bv : 0 ≤ r_mx a n s c ∧ r_mx a n s c ≤ 9999 := r_mx_b c0 (by omega) (fun k k0 k1 k2 => by
      have := jt.2 k k0 (by omega)
      omega)
    rw [← hv] at bv
    refine u_85_4 hx ⟨by omega, ?_⟩
    refine ifI (fun e => ?_) (fun e => ?_)
    · have : c = a (5500 + 840 * n) := by omega
      rw [hv, this]; exact t
    · have tc := p0.2.2.1 c c0 (by omega)
      have jc := jt.2 c c0 (by omega)
      have ih := ih (by omega)
      rw [r_mx_s c0, ← hv] at ih
      refine ⟨ow, by omega, ?_⟩
      rw [rt8 ⟨c0, by omega⟩, rt8 ⟨c0, by omega⟩, tc.1]
      refine ifI (fun e2 => ?_) (fun e2 => ?_)
      · have e3 := (srt7 jc.1 p3.1).mp e2
        rw [tc.2.2.1 (by omega)]
        refine ⟨by omega, ?_⟩
        refine ih _ ?_
        split <;> omega
      · refine ih _ ?_
        rw [if_neg (fun h => e2 ((srt7 jc.1 p3.1).mpr h.1))]
  exact key 0 (by omega) (by omega) 0 rfl
-- method 12: MillTown$Law.forceFor(LMillTown$Town;IIII)I
theorem c_12_0 : pg_cd 12 0 = (5, 1, 0, 1, 0) := by decide +kernel
theorem c_12_1 : pg_cd 12 1 = (45, 8, 42, 7, 0) := by decide +kernel
theorem c_12_4 : pg_cd 12 4 = (8, 2, 0, 6, 0) := by decide +kernel
theorem c_12_6 : pg_cd 12 6 = (5, 2, 0, 6, 0) := by decide +kernel
theorem c_12_8 : pg_cd 12 8 = (43, 4, 37, 2, 0) := by decide +kernel
theorem c_12_11 : pg_cd 12 11 = (1, 1, 0, 0, 1) := by decide +kernel
theorem c_12_12 : pg_cd 12 12 = (11, 1, 0, 0, 0) := by decide +kernel
theorem c_12_13 : pg_cd 12 13 = (6, 2, 0, 7, 0) := by decide +kernel
theorem c_12_15 : pg_cd 12 15 = (3, 2, 0, 7, 0) := by decide +kernel
theorem c_12_17 : pg_cd 12 17 = (36, 3, 0, 2, 101) := by decide +kernel
theorem c_12_20 : pg_cd 12 20 = (5, 2, 0, 6, 0) := by decide +kernel
theorem c_12_22 : pg_cd 12 22 = (3, 2, 0, 7, 0) := by decide +kernel
theorem c_12_24 : pg_cd 12 24 = (1, 1, 0, 0, 1) := by decide +kernel
theorem c_12_25 : pg_cd 12 25 = (80, 55, 47, 0, 0) := by decide +kernel
theorem c_12_28 : pg_cd 12 28 = (6, 2, 0, 8, 0) := by decide +kernel
theorem c_12_30 : pg_cd 12 30 = (5, 1, 0, 0, 0) := by decide +kernel
theorem c_12_31 : pg_cd 12 31 = (5, 2, 0, 6, 0) := by decide +kernel
theorem c_12_33 : pg_cd 12 33 = (3, 2, 0, 7, 0) := by decide +kernel
theorem c_12_35 : pg_cd 12 35 = (1, 1, 0, 0, 0) := by decide +kernel
theorem c_12_36 : pg_cd 12 36 = (80, 55, 47, 0, 0) := by decide +kernel
theorem c_12_39 : pg_cd 12 39 = (80, 10, 29, 0, 0) := by decide +kernel
theorem c_12_42 : pg_cd 12 42 = (8, 2, 0, 9, 0) := by decide +kernel
theorem c_12_44 : pg_cd 12 44 = (3, 2, 0, 8, 0) := by decide +kernel
theorem c_12_46 : pg_cd 12 46 = (1, 1, 0, 0, (-1)) := by decide +kernel
theorem c_12_47 : pg_cd 12 47 = (37, 3, 0, 0, 9) := by decide +kernel
theorem c_12_50 : pg_cd 12 50 = (3, 2, 0, 8, 0) := by decide +kernel
theorem c_12_52 : pg_cd 12 52 = (3, 1, 0, 3, 0) := by decide +kernel
theorem c_12_53 : pg_cd 12 53 = (37, 3, 0, 1, 59) := by decide +kernel
theorem c_12_56 : pg_cd 12 56 = (5, 2, 0, 6, 0) := by decide +kernel
theorem c_12_58 : pg_cd 12 58 = (3, 2, 0, 7, 0) := by decide +kernel
theorem c_12_60 : pg_cd 12 60 = (1, 1, 0, 0, 4) := by decide +kernel
theorem c_12_61 : pg_cd 12 61 = (80, 55, 47, 0, 0) := by decide +kernel
theorem c_12_64 : pg_cd 12 64 = (3, 2, 0, 5, 0) := by decide +kernel
theorem c_12_66 : pg_cd 12 66 = (37, 3, 0, 4, 46) := by decide +kernel
theorem c_12_69 : pg_cd 12 69 = (5, 2, 0, 6, 0) := by decide +kernel
theorem c_12_71 : pg_cd 12 71 = (3, 2, 0, 7, 0) := by decide +kernel
theorem c_12_73 : pg_cd 12 73 = (1, 1, 0, 0, 2) := by decide +kernel
theorem c_12_74 : pg_cd 12 74 = (80, 55, 47, 0, 0) := by decide +kernel
theorem c_12_77 : pg_cd 12 77 = (3, 2, 0, 4, 0) := by decide +kernel
theorem c_12_79 : pg_cd 12 79 = (37, 3, 0, 4, 33) := by decide +kernel
theorem c_12_82 : pg_cd 12 82 = (3, 2, 0, 4, 0) := by decide +kernel
theorem c_12_84 : pg_cd 12 84 = (5, 2, 0, 6, 0) := by decide +kernel
theorem c_12_86 : pg_cd 12 86 = (3, 2, 0, 7, 0) := by decide +kernel
theorem c_12_88 : pg_cd 12 88 = (1, 1, 0, 0, 3) := by decide +kernel
theorem c_12_89 : pg_cd 12 89 = (80, 55, 47, 0, 0) := by decide +kernel
theorem c_12_92 : pg_cd 12 92 = (37, 3, 0, 4, 20) := by decide +kernel
theorem c_12_95 : pg_cd 12 95 = (5, 2, 0, 9, 0) := by decide +kernel
theorem c_12_97 : pg_cd 12 97 = (39, 3, 0, 0, 15) := by decide +kernel
theorem c_12_100 : pg_cd 12 100 = (5, 2, 0, 9, 0) := by decide +kernel
theorem c_12_102 : pg_cd 12 102 = (3, 1, 0, 2, 0) := by decide +kernel
theorem c_12_103 : pg_cd 12 103 = (80, 83, 51, 0, 0) := by decide +kernel
theorem c_12_106 : pg_cd 12 106 = (36, 3, 0, 0, 6) := by decide +kernel
theorem c_12_109 : pg_cd 12 109 = (3, 2, 0, 7, 0) := by decide +kernel
theorem c_12_111 : pg_cd 12 111 = (90, 0, 0, 0, 0) := by decide +kernel
theorem c_12_112 : pg_cd 12 112 = (9, 3, 0, 7, (-1)) := by decide +kernel
theorem c_12_115 : pg_cd 12 115 = (38, 3, 0, 0, (-100)) := by decide +kernel
theorem c_12_118 : pg_cd 12 118 = (1, 1, 0, 0, (-1)) := by decide +kernel
theorem c_12_119 : pg_cd 12 119 = (90, 0, 0, 0, 0) := by decide +kernel
theorem mi_12 : pg_mc 12 = 1 ∧ pg_na 12 = 5 ∧ pg_mx 12 = 10 := by decide +kernel
set_option maxRecDepth 20000 in
theorem u_12_0 {d : Nat} {S : zS} {σ τ : zI} {Q : zQ} {x1 : Nat} {x2 : Int} {x3 : Int} {x4 : Int} {x5 : Int} (hx1 : tw x1) (t : wi (d + 6) 12 15 [.ref 54, .ref x1, .int (wI x2), .int (wI x3), .int (wI x4), .int (wI x5), .ref (x1 + 15), .int (wI ((σ (x1 + 15) 2) - 1)), .retAddr 0, .retAddr 0] [] S σ τ Q) : wi (d + 6) 12 0 [.ref 54, .ref x1, .int (wI x2), .int (wI x3), .int (wI x4), .int (wI x5), .retAddr 0, .retAddr 0, .retAddr 0, .retAddr 0] [] S σ τ Q := by
  refine i5 c_12_0 rfl (i45 c_12_1 (lo (lyt_0 hx1) (by have := tw_b hx1; omega)) (lro (lrt_7 hx1)) (i8 (L' := [.ref 54, .ref x1, .int (wI x2), .int (wI x3), .int (wI x4), .int (wI x5), .ref (x1 + 15), .retAddr 0, .retAddr 0, .retAddr 0]) c_12_4 rfl (i5 c_12_6 rfl (wi_ok (fun K1 => ?_)))))
  refine i43 (v := σ (x1 + 15) 2) c_12_8 (lo (lyt_15 hx1) (by have := tw_b hx1; omega)) rfl (i1 c_12_11 (i11 c_12_12 (i6 (L' := [.ref 54, .ref x1, .int (wI x2), .int (wI x3), .int (wI x4), .int (wI x5), .ref (x1 + 15), .int (wI ((σ (x1 + 15) 2) - 1)), .retAddr 0, .retAddr 0]) c_12_13 rfl t)))
set_option maxRecDepth 20000 in
theorem u_12_15 {d : Nat} {S : zS} {σ τ : zI} {Q : zQ} {x1 : Nat} {x2 : Int} {x3 : Int} {x4 : Int} {x5 : Int} {x7 : Int} {y8 : Value} {y9 : Value} (hx1 : tw x1) (t : (rg x7) ∧ if x7 < 0 then (Q (some (.int (wI (-1)))) S σ τ) else (∃ a4 : Int → Int, (RX S σ a4) ∧ ((rt_ (σ (x1 + 15) 2) (σ (x1 + 16)) 5 0 x7) < a4 5) ∧ (((rt_ (σ (x1 + 15) 2) (σ (x1 + 16)) 5 0 x7) < 0 → if (rt_ (σ (x1 + 15) 2) (σ (x1 + 16)) 5 1 x7) = (-1) then ((rg x5) ∧ if x5 < (rt_ (σ (x1 + 15) 2) (σ (x1 + 16)) 5 4 x7) then (wi (d + 6) 12 15 [.ref 54, .ref x1, .int (wI x2), .int (wI x3), .int (wI x4), .int (wI x5), .ref (x1 + 15), .int (wI (x7 + (-1))), .int (wI (rt_ (σ (x1 + 15) 2) (σ (x1 + 16)) 5 1 x7)), .null] [] S σ τ Q) else ((rg x4) ∧ if x4 < (rt_ (σ (x1 + 15) 2) (σ (x1 + 16)) 5 2 x7) then (wi (d + 6) 12 15 [.ref 54, .ref x1, .int (wI x2), .int (wI x3), .int (wI x4), .int (wI x5), .ref (x1 + 15), .int (wI (x7 + (-1))), .int (wI (rt_ (σ (x1 + 15) 2) (σ (x1 + 16)) 5 1 x7)), .null] [] S σ τ Q) else (if (rt_ (σ (x1 + 15) 2) (σ (x1 + 16)) 5 3 x7) < x4 then (wi (d + 6) 12 15 [.ref 54, .ref x1, .int (wI x2), .int (wI x3), .int (wI x4), .int (wI x5), .ref (x1 + 15), .int (wI (x7 + (-1))), .int (wI (rt_ (σ (x1 + 15) 2) (σ (x1 + 16)) 5 1 x7)), .null] [] S σ τ Q) else (wi (d + 6) 12 15 [.ref 54, .ref x1, .int (wI x2), .int (wI x3), .int (wI x4), .int (wI x5), .ref (x1 + 15), .int (wI (x7 + (-1))), .int (wI (rt_ (σ (x1 + 15) 2) (σ (x1 + 16)) 5 1 x7)), .null] [] S σ τ Q)))) else ((rg x3) ∧ if (rt_ (σ (x1 + 15) 2) (σ (x1 + 16)) 5 1 x7) = x3 then ((rg x5) ∧ if x5 < (rt_ (σ (x1 + 15) 2) (σ (x1 + 16)) 5 4 x7) then (wi (d + 6) 12 15 [.ref 54, .ref x1, .int (wI x2), .int (wI x3), .int (wI x4), .int (wI x5), .ref (x1 + 15), .int (wI (x7 + (-1))), .int (wI (rt_ (σ (x1 + 15) 2) (σ (x1 + 16)) 5 1 x7)), .null] [] S σ τ Q) else ((rg x4) ∧ if x4 < (rt_ (σ (x1 + 15) 2) (σ (x1 + 16)) 5 2 x7) then (wi (d + 6) 12 15 [.ref 54, .ref x1, .int (wI x2), .int (wI x3), .int (wI x4), .int (wI x5), .ref (x1 + 15), .int (wI (x7 + (-1))), .int (wI (rt_ (σ (x1 + 15) 2) (σ (x1 + 16)) 5 1 x7)), .null] [] S σ τ Q) else (if (rt_ (σ (x1 + 15) 2) (σ (x1 + 16)) 5 3 x7) < x4 then (wi (d + 6) 12 15 [.ref 54, .ref x1, .int (wI x2), .int (wI x3), .int (wI x4), .int (wI x5), .ref (x1 + 15), .int (wI (x7 + (-1))), .int (wI (rt_ (σ (x1 + 15) 2) (σ (x1 + 16)) 5 1 x7)), .null] [] S σ τ Q) else (wi (d + 6) 12 15 [.ref 54, .ref x1, .int (wI x2), .int (wI x3), .int (wI x4), .int (wI x5), .ref (x1 + 15), .int (wI (x7 + (-1))), .int (wI (rt_ (σ (x1 + 15) 2) (σ (x1 + 16)) 5 1 x7)), .null] [] S σ τ Q)))) else (wi (d + 6) 12 15 [.ref 54, .ref x1, .int (wI x2), .int (wI x3), .int (wI x4), .int (wI x5), .ref (x1 + 15), .int (wI (x7 + (-1))), .int (wI (rt_ (σ (x1 + 15) 2) (σ (x1 + 16)) 5 1 x7)), .null] [] S σ τ Q))) ∧ ∀ j7 : Nat, oT S j7 → 0 ≤ (rt_ (σ (x1 + 15) 2) (σ (x1 + 16)) 5 0 x7) → TX σ j7 a4 (rt_ (σ (x1 + 15) 2) (σ (x1 + 16)) 5 0 x7) → if (rt_ (σ (x1 + 15) 2) (σ (x1 + 16)) 5 1 x7) = (-1) then ((rg x5) ∧ if x5 < (rt_ (σ (x1 + 15) 2) (σ (x1 + 16)) 5 4 x7) then (wi (d + 6) 12 15 [.ref 54, .ref x1, .int (wI x2), .int (wI x3), .int (wI x4), .int (wI x5), .ref (x1 + 15), .int (wI (x7 + (-1))), .int (wI (rt_ (σ (x1 + 15) 2) (σ (x1 + 16)) 5 1 x7)), .ref j7] [] S σ τ Q) else ((rg x4) ∧ if x4 < (rt_ (σ (x1 + 15) 2) (σ (x1 + 16)) 5 2 x7) then (wi (d + 6) 12 15 [.ref 54, .ref x1, .int (wI x2), .int (wI x3), .int (wI x4), .int (wI x5), .ref (x1 + 15), .int (wI (x7 + (-1))), .int (wI (rt_ (σ (x1 + 15) 2) (σ (x1 + 16)) 5 1 x7)), .ref j7] [] S σ τ Q) else (if (rt_ (σ (x1 + 15) 2) (σ (x1 + 16)) 5 3 x7) < x4 then (wi (d + 6) 12 15 [.ref 54, .ref x1, .int (wI x2), .int (wI x3), .int (wI x4), .int (wI x5), .ref (x1 + 15), .int (wI (x7 + (-1))), .int (wI (rt_ (σ (x1 + 15) 2) (σ (x1 + 16)) 5 1 x7)), .ref j7] [] S σ τ Q) else (if ¬ zand (zush (σ j7 3) x2) 1 = 0 then (Q (some (.int (wI x7))) S σ τ) else (wi (d + 6) 12 15 [.ref 54, .ref x1, .int (wI x2), .int (wI x3), .int (wI x4), .int (wI x5), .ref (x1 + 15), .int (wI (x7 + (-1))), .int (wI (rt_ (σ (x1 + 15) 2) (σ (x1 + 16)) 5 1 x7)), .ref j7] [] S σ τ Q))))) else ((rg x3) ∧ if (rt_ (σ (x1 + 15) 2) (σ (x1 + 16)) 5 1 x7) = x3 then ((rg x5) ∧ if x5 < (rt_ (σ (x1 + 15) 2) (σ (x1 + 16)) 5 4 x7) then (wi (d + 6) 12 15 [.ref 54, .ref x1, .int (wI x2), .int (wI x3), .int (wI x4), .int (wI x5), .ref (x1 + 15), .int (wI (x7 + (-1))), .int (wI (rt_ (σ (x1 + 15) 2) (σ (x1 + 16)) 5 1 x7)), .ref j7] [] S σ τ Q) else ((rg x4) ∧ if x4 < (rt_ (σ (x1 + 15) 2) (σ (x1 + 16)) 5 2 x7) then (wi (d + 6) 12 15 [.ref 54, .ref x1, .int (wI x2), .int (wI x3), .int (wI x4), .int (wI x5), .ref (x1 + 15), .int (wI (x7 + (-1))), .int (wI (rt_ (σ (x1 + 15) 2) (σ (x1 + 16)) 5 1 x7)), .ref j7] [] S σ τ Q) else (if (rt_ (σ (x1 + 15) 2) (σ (x1 + 16)) 5 3 x7) < x4 then (wi (d + 6) 12 15 [.ref 54, .ref x1, .int (wI x2), .int (wI x3), .int (wI x4), .int (wI x5), .ref (x1 + 15), .int (wI (x7 + (-1))), .int (wI (rt_ (σ (x1 + 15) 2) (σ (x1 + 16)) 5 1 x7)), .ref j7] [] S σ τ Q) else (if ¬ zand (zush (σ j7 3) x2) 1 = 0 then (Q (some (.int (wI x7))) S σ τ) else (wi (d + 6) 12 15 [.ref 54, .ref x1, .int (wI x2), .int (wI x3), .int (wI x4), .int (wI x5), .ref (x1 + 15), .int (wI (x7 + (-1))), .int (wI (rt_ (σ (x1 + 15) 2) (σ (x1 + 16)) 5 1 x7)), .ref j7] [] S σ τ Q))))) else (wi (d + 6) 12 15 [.ref 54, .ref x1, .int (wI x2), .int (wI x3), .int (wI x4), .int (wI x5), .ref (x1 + 15), .int (wI (x7 + (-1))), .int (wI (rt_ (σ (x1 + 15) 2) (σ (x1 + 16)) 5 1 x7)), .ref j7] [] S σ τ Q))))) : wi (d + 6) 12 15 [.ref 54, .ref x1, .int (wI x2), .int (wI x3), .int (wI x4), .int (wI x5), .ref (x1 + 15), .int (wI x7), y8, y9] [] S σ τ Q := by
  obtain ⟨r1, t⟩ := t
  refine i3 c_12_15 rfl ?_
  refine i36 c_12_17 r1 rfl (fun hc => ?_) (fun hc => ?_)
  · have t := iT t hc
    have ha2 : x7 < 0 := hc
    refine i1 c_12_118 ?_
    exact i90 c_12_119 t
  · have t := iF t hc
    have ha2 : ¬ (x7 < 0) := hc
    refine i5 c_12_20 rfl (i3 c_12_22 rfl (i1 c_12_24 (wi_ok (fun K3 => ?_))))
    refine i80 (As := [.int (wI x7), .int (wI 1)]) (rest := []) c_12_25 mi_55 rfl rfl (Nat.le_of_ble_eq_true rfl) (Nat.le_of_ble_eq_true rfl) (lo (lyt_15 hx1) (by have := tw_b hx1; omega)) (q_at (ow_forces hx1) r1 (by decide) ?_)
    show wi (d + 6) 12 28 [.ref 54, .ref x1, .int (wI x2), .int (wI x3), .int (wI x4), .int (wI x5), .ref (x1 + 15), .int (wI x7), y8, y9] [.int (wI (rt_ (σ (x1 + 15) 2) (σ (x1 + 16)) 5 1 x7))] S σ τ Q
    refine i6 (L' := [.ref 54, .ref x1, .int (wI x2), .int (wI x3), .int (wI x4), .int (wI x5), .ref (x1 + 15), .int (wI x7), .int (wI (rt_ (σ (x1 + 15) 2) (σ (x1 + 16)) 5 1 x7)), y9]) c_12_28 rfl (i5 c_12_30 rfl (i5 c_12_31 rfl (i3 c_12_33 rfl (i1 c_12_35 ?_))))
    refine i80 (As := [.int (wI x7), .int (wI 0)]) (rest := [.ref 54]) c_12_36 mi_55 rfl rfl (Nat.le_of_ble_eq_true rfl) (Nat.le_of_ble_eq_true rfl) (lo (lyt_15 hx1) (by have := tw_b hx1; omega)) (q_at (ow_forces hx1) r1 (by decide) ?_)
    show wi (d + 6) 12 39 [.ref 54, .ref x1, .int (wI x2), .int (wI x3), .int (wI x4), .int (wI x5), .ref (x1 + 15), .int (wI x7), .int (wI (rt_ (σ (x1 + 15) 2) (σ (x1 + 16)) 5 1 x7)), y9] [.int (wI (rt_ (σ (x1 + 15) 2) (σ (x1 + 16)) 5 0 x7)), .ref 54] S σ τ Q
    obtain ⟨a4, t⟩ := t
    obtain ⟨p5, t⟩ := t
    obtain ⟨p6, t⟩ := t
    refine i80 (As := [.int (wI (rt_ (σ (x1 + 15) 2) (σ (x1 + 16)) 5 0 x7))]) (rest := []) c_12_39 mi_10 rfl rfl (Nat.le_of_ble_eq_true rfl) (Nat.le_of_ble_eq_true rfl) (lo (c := 54) (kd := 101) (n := 0) rfl (by decide)) (q_10 (a := a4) p5 (rg_rt_ (fun k => kO_r K3 _ k) _ _ _ _) p6 (fun hn8 => ?_) (fun j7 q9 q10 q11 => ?_))
    · have t := t.1 hn8
      show wi (d + 6) 12 42 [.ref 54, .ref x1, .int (wI x2), .int (wI x3), .int (wI x4), .int (wI x5), .ref (x1 + 15), .int (wI x7), .int (wI (rt_ (σ (x1 + 15) 2) (σ (x1 + 16)) 5 1 x7)), y9] [.null] S σ τ Q
      refine i8n (L' := [.ref 54, .ref x1, .int (wI x2), .int (wI x3), .int (wI x4), .int (wI x5), .ref (x1 + 15), .int (wI x7), .int (wI (rt_ (σ (x1 + 15) 2) (σ (x1 + 16)) 5 1 x7)), .null]) c_12_42 rfl (i3 c_12_44 rfl (i1 c_12_46 ?_))
      refine i37 c_12_47 (rg_rt_ (fun k => kO_r K3 _ k) _ _ _ _) (by decide) rfl (fun hc => ?_) (fun hc => ?_)
      · have t := iT t hc
        have ha12 : (rt_ (σ (x1 + 15) 2) (σ (x1 + 16)) 5 1 x7) = (-1) := hc
        refine i5 c_12_56 rfl (i3 c_12_58 rfl (i1 c_12_60 ?_))
        refine i80 (As := [.int (wI x7), .int (wI 4)]) (rest := []) c_12_61 mi_55 rfl rfl (Nat.le_of_ble_eq_true rfl) (Nat.le_of_ble_eq_true rfl) (lo (lyt_15 hx1) (by have := tw_b hx1; omega)) (q_at (ow_forces hx1) r1 (by decide) ?_)
        show wi (d + 6) 12 64 [.ref 54, .ref x1, .int (wI x2), .int (wI x3), .int (wI x4), .int (wI x5), .ref (x1 + 15), .int (wI x7), .int (wI (rt_ (σ (x1 + 15) 2) (σ (x1 + 16)) 5 1 x7)), .null] [.int (wI (rt_ (σ (x1 + 15) 2) (σ (x1 + 16)) 5 4 x7))] S σ τ Q
        obtain ⟨r13, t⟩ := t
        refine i3 c_12_64 rfl ?_
        refine i37 c_12_66 (rg_rt_ (fun k => kO_r K3 _ k) _ _ _ _) r13 rfl (fun hc => ?_) (fun hc => ?_)
        · have t := iT t hc
          have ha14 : x5 < (rt_ (σ (x1 + 15) 2) (σ (x1 + 16)) 5 4 x7) := hc
          refine i9 (L' := [.ref 54, .ref x1, .int (wI x2), .int (wI x3), .int (wI x4), .int (wI x5), .ref (x1 + 15), .int (wI (x7 + (-1))), .int (wI (rt_ (σ (x1 + 15) 2) (σ (x1 + 16)) 5 1 x7)), .null]) c_12_112 rfl rfl (i38 c_12_115 rfl t)
        · have t := iF t hc
          have ha14 : ¬ (x5 < (rt_ (σ (x1 + 15) 2) (σ (x1 + 16)) 5 4 x7)) := hc
          refine i5 c_12_69 rfl (i3 c_12_71 rfl (i1 c_12_73 ?_))
          refine i80 (As := [.int (wI x7), .int (wI 2)]) (rest := []) c_12_74 mi_55 rfl rfl (Nat.le_of_ble_eq_true rfl) (Nat.le_of_ble_eq_true rfl) (lo (lyt_15 hx1) (by have := tw_b hx1; omega)) (q_at (ow_forces hx1) r1 (by decide) ?_)
          show wi (d + 6) 12 77 [.ref 54, .ref x1, .int (wI x2), .int (wI x3), .int (wI x4), .int (wI x5), .ref (x1 + 15), .int (wI x7), .int (wI (rt_ (σ (x1 + 15) 2) (σ (x1 + 16)) 5 1 x7)), .null] [.int (wI (rt_ (σ (x1 + 15) 2) (σ (x1 + 16)) 5 2 x7))] S σ τ Q
          obtain ⟨r15, t⟩ := t
          refine i3 c_12_77 rfl ?_
          refine i37 c_12_79 (rg_rt_ (fun k => kO_r K3 _ k) _ _ _ _) r15 rfl (fun hc => ?_) (fun hc => ?_)
          · have t := iT t hc
            have ha16 : x4 < (rt_ (σ (x1 + 15) 2) (σ (x1 + 16)) 5 2 x7) := hc
            refine i9 (L' := [.ref 54, .ref x1, .int (wI x2), .int (wI x3), .int (wI x4), .int (wI x5), .ref (x1 + 15), .int (wI (x7 + (-1))), .int (wI (rt_ (σ (x1 + 15) 2) (σ (x1 + 16)) 5 1 x7)), .null]) c_12_112 rfl rfl (i38 c_12_115 rfl t)
          · have t := iF t hc
            have ha16 : ¬ (x4 < (rt_ (σ (x1 + 15) 2) (σ (x1 + 16)) 5 2 x7)) := hc
            refine i3 c_12_82 rfl (i5 c_12_84 rfl (i3 c_12_86 rfl (i1 c_12_88 ?_)))
            refine i80 (As := [.int (wI x7), .int (wI 3)]) (rest := [.int (wI x4)]) c_12_89 mi_55 rfl rfl (Nat.le_of_ble_eq_true rfl) (Nat.le_of_ble_eq_true rfl) (lo (lyt_15 hx1) (by have := tw_b hx1; omega)) (q_at (ow_forces hx1) r1 (by decide) ?_)
            show wi (d + 6) 12 92 [.ref 54, .ref x1, .int (wI x2), .int (wI x3), .int (wI x4), .int (wI x5), .ref (x1 + 15), .int (wI x7), .int (wI (rt_ (σ (x1 + 15) 2) (σ (x1 + 16)) 5 1 x7)), .null] [.int (wI (rt_ (σ (x1 + 15) 2) (σ (x1 + 16)) 5 3 x7)), .int (wI x4)] S σ τ Q
            refine i37 c_12_92 r15 (rg_rt_ (fun k => kO_r K3 _ k) _ _ _ _) rfl (fun hc => ?_) (fun hc => ?_)
            · have t := iT t hc
              have ha17 : (rt_ (σ (x1 + 15) 2) (σ (x1 + 16)) 5 3 x7) < x4 := hc
              refine i9 (L' := [.ref 54, .ref x1, .int (wI x2), .int (wI x3), .int (wI x4), .int (wI x5), .ref (x1 + 15), .int (wI (x7 + (-1))), .int (wI (rt_ (σ (x1 + 15) 2) (σ (x1 + 16)) 5 1 x7)), .null]) c_12_112 rfl rfl (i38 c_12_115 rfl t)
            · have t := iF t hc
              have ha17 : ¬ ((rt_ (σ (x1 + 15) 2) (σ (x1 + 16)) 5 3 x7) < x4) := hc
              refine i5n c_12_95 rfl (i39n c_12_97 rfl (i9 (L' := [.ref 54, .ref x1, .int (wI x2), .int (wI x3), .int (wI x4), .int (wI x5), .ref (x1 + 15), .int (wI (x7 + (-1))), .int (wI (rt_ (σ (x1 + 15) 2) (σ (x1 + 16)) 5 1 x7)), .null]) c_12_112 rfl rfl (i38 c_12_115 rfl t)))
      · have t := iF t hc
        have ha12 : ¬ ((rt_ (σ (x1 + 15) 2) (σ (x1 + 16)) 5 1 x7) = (-1)) := hc
        obtain ⟨r18, t⟩ := t
        refine i3 c_12_50 rfl (i3 c_12_52 rfl ?_)
        refine i37 c_12_53 (rg_rt_ (fun k => kO_r K3 _ k) _ _ _ _) r18 rfl (fun hc => ?_) (fun hc => ?_)
        · have t := iF t hc
          have ha19 : ¬ ((rt_ (σ (x1 + 15) 2) (σ (x1 + 16)) 5 1 x7) = x3) := hc
          refine i9 (L' := [.ref 54, .ref x1, .int (wI x2), .int (wI x3), .int (wI x4), .int (wI x5), .ref (x1 + 15), .int (wI (x7 + (-1))), .int (wI (rt_ (σ (x1 + 15) 2) (σ (x1 + 16)) 5 1 x7)), .null]) c_12_112 rfl rfl (i38 c_12_115 rfl t)
        · have t := iT t (Decidable.not_not.mp hc)
          have ha19 : (rt_ (σ (x1 + 15) 2) (σ (x1 + 16)) 5 1 x7) = x3 := Decidable.not_not.mp hc
          refine i5 c_12_56 rfl (i3 c_12_58 rfl (i1 c_12_60 ?_))
          refine i80 (As := [.int (wI x7), .int (wI 4)]) (rest := []) c_12_61 mi_55 rfl rfl (Nat.le_of_ble_eq_true rfl) (Nat.le_of_ble_eq_true rfl) (lo (lyt_15 hx1) (by have := tw_b hx1; omega)) (q_at (ow_forces hx1) r1 (by decide) ?_)
          show wi (d + 6) 12 64 [.ref 54, .ref x1, .int (wI x2), .int (wI x3), .int (wI x4), .int (wI x5), .ref (x1 + 15), .int (wI x7), .int (wI (rt_ (σ (x1 + 15) 2) (σ (x1 + 16)) 5 1 x7)), .null] [.int (wI (rt_ (σ (x1 + 15) 2) (σ (x1 + 16)) 5 4 x7))] S σ τ Q
          obtain ⟨r20, t⟩ := t
          refine i3 c_12_64 rfl ?_
          refine i37 c_12_66 (rg_rt_ (fun k => kO_r K3 _ k) _ _ _ _) r20 rfl (fun hc => ?_) (fun hc => ?_)
          · have t := iT t hc
            have ha21 : x5 < (rt_ (σ (x1 + 15) 2) (σ (x1 + 16)) 5 4 x7) := hc
            refine i9 (L' := [.ref 54, .ref x1, .int (wI x2), .int (wI x3), .int (wI x4), .int (wI x5), .ref (x1 + 15), .int (wI (x7 + (-1))), .int (wI (rt_ (σ (x1 + 15) 2) (σ (x1 + 16)) 5 1 x7)), .null]) c_12_112 rfl rfl (i38 c_12_115 rfl t)
          · have t := iF t hc
            have ha21 : ¬ (x5 < (rt_ (σ (x1 + 15) 2) (σ (x1 + 16)) 5 4 x7)) := hc
            refine i5 c_12_69 rfl (i3 c_12_71 rfl (i1 c_12_73 ?_))
            refine i80 (As := [.int (wI x7), .int (wI 2)]) (rest := []) c_12_74 mi_55 rfl rfl (Nat.le_of_ble_eq_true rfl) (Nat.le_of_ble_eq_true rfl) (lo (lyt_15 hx1) (by have := tw_b hx1; omega)) (q_at (ow_forces hx1) r1 (by decide) ?_)
            show wi (d + 6) 12 77 [.ref 54, .ref x1, .int (wI x2), .int (wI x3), .int (wI x4), .int (wI x5), .ref (x1 + 15), .int (wI x7), .int (wI (rt_ (σ (x1 + 15) 2) (σ (x1 + 16)) 5 1 x7)), .null] [.int (wI (rt_ (σ (x1 + 15) 2) (σ (x1 + 16)) 5 2 x7))] S σ τ Q
            obtain ⟨r22, t⟩ := t
            refine i3 c_12_77 rfl ?_
            refine i37 c_12_79 (rg_rt_ (fun k => kO_r K3 _ k) _ _ _ _) r22 rfl (fun hc => ?_) (fun hc => ?_)
            · have t := iT t hc
              have ha23 : x4 < (rt_ (σ (x1 + 15) 2) (σ (x1 + 16)) 5 2 x7) := hc
              refine i9 (L' := [.ref 54, .ref x1, .int (wI x2), .int (wI x3), .int (wI x4), .int (wI x5), .ref (x1 + 15), .int (wI (x7 + (-1))), .int (wI (rt_ (σ (x1 + 15) 2) (σ (x1 + 16)) 5 1 x7)), .null]) c_12_112 rfl rfl (i38 c_12_115 rfl t)
            · have t := iF t hc
              have ha23 : ¬ (x4 < (rt_ (σ (x1 + 15) 2) (σ (x1 + 16)) 5 2 x7)) := hc
              refine i3 c_12_82 rfl (i5 c_12_84 rfl (i3 c_12_86 rfl (i1 c_12_88 ?_)))
              refine i80 (As := [.int (wI x7), .int (wI 3)]) (rest := [.int (wI x4)]) c_12_89 mi_55 rfl rfl (Nat.le_of_ble_eq_true rfl) (Nat.le_of_ble_eq_true rfl) (lo (lyt_15 hx1) (by have := tw_b hx1; omega)) (q_at (ow_forces hx1) r1 (by decide) ?_)
              show wi (d + 6) 12 92 [.ref 54, .ref x1, .int (wI x2), .int (wI x3), .int (wI x4), .int (wI x5), .ref (x1 + 15), .int (wI x7), .int (wI (rt_ (σ (x1 + 15) 2) (σ (x1 + 16)) 5 1 x7)), .null] [.int (wI (rt_ (σ (x1 + 15) 2) (σ (x1 + 16)) 5 3 x7)), .int (wI x4)] S σ τ Q
              refine i37 c_12_92 r22 (rg_rt_ (fun k => kO_r K3 _ k) _ _ _ _) rfl (fun hc => ?_) (fun hc => ?_)
              · have t := iT t hc
                have ha24 : (rt_ (σ (x1 + 15) 2) (σ (x1 + 16)) 5 3 x7) < x4 := hc
                refine i9 (L' := [.ref 54, .ref x1, .int (wI x2), .int (wI x3), .int (wI x4), .int (wI x5), .ref (x1 + 15), .int (wI (x7 + (-1))), .int (wI (rt_ (σ (x1 + 15) 2) (σ (x1 + 16)) 5 1 x7)), .null]) c_12_112 rfl rfl (i38 c_12_115 rfl t)
              · have t := iF t hc
                have ha24 : ¬ ((rt_ (σ (x1 + 15) 2) (σ (x1 + 16)) 5 3 x7) < x4) := hc
                refine i5n c_12_95 rfl (i39n c_12_97 rfl (i9 (L' := [.ref 54, .ref x1, .int (wI x2), .int (wI x3), .int (wI x4), .int (wI x5), .ref (x1 + 15), .int (wI (x7 + (-1))), .int (wI (rt_ (σ (x1 + 15) 2) (σ (x1 + 16)) 5 1 x7)), .null]) c_12_112 rfl rfl (i38 c_12_115 rfl t)))
    · have t := t.2 j7 q9 q10 q11
      have hj7 := q9
      show wi (d + 6) 12 42 [.ref 54, .ref x1, .int (wI x2), .int (wI x3), .int (wI x4), .int (wI x5), .ref (x1 + 15), .int (wI x7), .int (wI (rt_ (σ (x1 + 15) 2) (σ (x1 + 16)) 5 1 x7)), y9] [.ref j7] S σ τ Q
      refine i8 (L' := [.ref 54, .ref x1, .int (wI x2), .int (wI x3), .int (wI x4), .int (wI x5), .ref (x1 + 15), .int (wI x7), .int (wI (rt_ (σ (x1 + 15) 2) (σ (x1 + 16)) 5 1 x7)), .ref j7]) c_12_42 rfl (i3 c_12_44 rfl (i1 c_12_46 ?_))
      refine i37 c_12_47 (rg_rt_ (fun k => kO_r K3 _ k) _ _ _ _) (by decide) rfl (fun hc => ?_) (fun hc => ?_)
      · have t := iT t hc
        have ha25 : (rt_ (σ (x1 + 15) 2) (σ (x1 + 16)) 5 1 x7) = (-1) := hc
        refine i5 c_12_56 rfl (i3 c_12_58 rfl (i1 c_12_60 ?_))
        refine i80 (As := [.int (wI x7), .int (wI 4)]) (rest := []) c_12_61 mi_55 rfl rfl (Nat.le_of_ble_eq_true rfl) (Nat.le_of_ble_eq_true rfl) (lo (lyt_15 hx1) (by have := tw_b hx1; omega)) (q_at (ow_forces hx1) r1 (by decide) ?_)
        show wi (d + 6) 12 64 [.ref 54, .ref x1, .int (wI x2), .int (wI x3), .int (wI x4), .int (wI x5), .ref (x1 + 15), .int (wI x7), .int (wI (rt_ (σ (x1 + 15) 2) (σ (x1 + 16)) 5 1 x7)), .ref j7] [.int (wI (rt_ (σ (x1 + 15) 2) (σ (x1 + 16)) 5 4 x7))] S σ τ Q
        obtain ⟨r26, t⟩ := t
        refine i3 c_12_64 rfl ?_
        refine i37 c_12_66 (rg_rt_ (fun k => kO_r K3 _ k) _ _ _ _) r26 rfl (fun hc => ?_) (fun hc => ?_)
        · have t := iT t hc
          have ha27 : x5 < (rt_ (σ (x1 + 15) 2) (σ (x1 + 16)) 5 4 x7) := hc
          refine i9 (L' := [.ref 54, .ref x1, .int (wI x2), .int (wI x3), .int (wI x4), .int (wI x5), .ref (x1 + 15), .int (wI (x7 + (-1))), .int (wI (rt_ (σ (x1 + 15) 2) (σ (x1 + 16)) 5 1 x7)), .ref j7]) c_12_112 rfl rfl (i38 c_12_115 rfl t)
        · have t := iF t hc
          have ha27 : ¬ (x5 < (rt_ (σ (x1 + 15) 2) (σ (x1 + 16)) 5 4 x7)) := hc
          refine i5 c_12_69 rfl (i3 c_12_71 rfl (i1 c_12_73 ?_))
          refine i80 (As := [.int (wI x7), .int (wI 2)]) (rest := []) c_12_74 mi_55 rfl rfl (Nat.le_of_ble_eq_true rfl) (Nat.le_of_ble_eq_true rfl) (lo (lyt_15 hx1) (by have := tw_b hx1; omega)) (q_at (ow_forces hx1) r1 (by decide) ?_)
          show wi (d + 6) 12 77 [.ref 54, .ref x1, .int (wI x2), .int (wI x3), .int (wI x4), .int (wI x5), .ref (x1 + 15), .int (wI x7), .int (wI (rt_ (σ (x1 + 15) 2) (σ (x1 + 16)) 5 1 x7)), .ref j7] [.int (wI (rt_ (σ (x1 + 15) 2) (σ (x1 + 16)) 5 2 x7))] S σ τ Q
          obtain ⟨r28, t⟩ := t
          refine i3 c_12_77 rfl ?_
          refine i37 c_12_79 (rg_rt_ (fun k => kO_r K3 _ k) _ _ _ _) r28 rfl (fun hc => ?_) (fun hc => ?_)
          · have t := iT t hc
            have ha29 : x4 < (rt_ (σ (x1 + 15) 2) (σ (x1 + 16)) 5 2 x7) := hc
            refine i9 (L' := [.ref 54, .ref x1, .int (wI x2), .int (wI x3), .int (wI x4), .int (wI x5), .ref (x1 + 15), .int (wI (x7 + (-1))), .int (wI (rt_ (σ (x1 + 15) 2) (σ (x1 + 16)) 5 1 x7)), .ref j7]) c_12_112 rfl rfl (i38 c_12_115 rfl t)
          · have t := iF t hc
            have ha29 : ¬ (x4 < (rt_ (σ (x1 + 15) 2) (σ (x1 + 16)) 5 2 x7)) := hc
            refine i3 c_12_82 rfl (i5 c_12_84 rfl (i3 c_12_86 rfl (i1 c_12_88 ?_)))
            refine i80 (As := [.int (wI x7), .int (wI 3)]) (rest := [.int (wI x4)]) c_12_89 mi_55 rfl rfl (Nat.le_of_ble_eq_true rfl) (Nat.le_of_ble_eq_true rfl) (lo (lyt_15 hx1) (by have := tw_b hx1; omega)) (q_at (ow_forces hx1) r1 (by decide) ?_)
            show wi (d + 6) 12 92 [.ref 54, .ref x1, .int (wI x2), .int (wI x3), .int (wI x4), .int (wI x5), .ref (x1 + 15), .int (wI x7), .int (wI (rt_ (σ (x1 + 15) 2) (σ (x1 + 16)) 5 1 x7)), .ref j7] [.int (wI (rt_ (σ (x1 + 15) 2) (σ (x1 + 16)) 5 3 x7)), .int (wI x4)] S σ τ Q
            refine i37 c_12_92 r28 (rg_rt_ (fun k => kO_r K3 _ k) _ _ _ _) rfl (fun hc => ?_) (fun hc => ?_)
            · have t := iT t hc
              have ha30 : (rt_ (σ (x1 + 15) 2) (σ (x1 + 16)) 5 3 x7) < x4 := hc
              refine i9 (L' := [.ref 54, .ref x1, .int (wI x2), .int (wI x3), .int (wI x4), .int (wI x5), .ref (x1 + 15), .int (wI (x7 + (-1))), .int (wI (rt_ (σ (x1 + 15) 2) (σ (x1 + 16)) 5 1 x7)), .ref j7]) c_12_112 rfl rfl (i38 c_12_115 rfl t)
            · have t := iF t hc
              have ha30 : ¬ ((rt_ (σ (x1 + 15) 2) (σ (x1 + 16)) 5 3 x7) < x4) := hc
              refine i5 c_12_95 rfl (i39a c_12_97 (i5 c_12_100 rfl (i3 c_12_102 rfl ?_)))
              refine i80 (As := [.int (wI x2)]) (rest := []) c_12_103 mi_83 rfl rfl (Nat.le_of_ble_eq_true rfl) (Nat.le_of_ble_eq_true rfl) (fun _ => oT_0 hj7) (q_83 hj7 ?_)
              show wi (d + 6) 12 106 [.ref 54, .ref x1, .int (wI x2), .int (wI x3), .int (wI x4), .int (wI x5), .ref (x1 + 15), .int (wI x7), .int (wI (rt_ (σ (x1 + 15) 2) (σ (x1 + 16)) 5 1 x7)), .ref j7] [.int (wI (if ¬ zand (zush (σ j7 3) x2) 1 = 0 then 1 else 0))] S σ τ Q
              refine i36e c_12_106 rfl (fun hc => ?_) (fun hc => ?_)
              · have t := iT t hc
                have ha31 : ¬ zand (zush (σ j7 3) x2) 1 = 0 := hc
                refine i3 c_12_109 rfl ?_
                exact i90 c_12_111 t
              · have t := iF t hc
                have ha31 : ¬ (¬ zand (zush (σ j7 3) x2) 1 = 0) := hc
                refine i9 (L' := [.ref 54, .ref x1, .int (wI x2), .int (wI x3), .int (wI x4), .int (wI x5), .ref (x1 + 15), .int (wI (x7 + (-1))), .int (wI (rt_ (σ (x1 + 15) 2) (σ (x1 + 16)) 5 1 x7)), .ref j7]) c_12_112 rfl rfl (i38 c_12_115 rfl t)
      · have t := iF t hc
        have ha25 : ¬ ((rt_ (σ (x1 + 15) 2) (σ (x1 + 16)) 5 1 x7) = (-1)) := hc
        obtain ⟨r32, t⟩ := t
        refine i3 c_12_50 rfl (i3 c_12_52 rfl ?_)
        refine i37 c_12_53 (rg_rt_ (fun k => kO_r K3 _ k) _ _ _ _) r32 rfl (fun hc => ?_) (fun hc => ?_)
        · have t := iF t hc
          have ha33 : ¬ ((rt_ (σ (x1 + 15) 2) (σ (x1 + 16)) 5 1 x7) = x3) := hc
          refine i9 (L' := [.ref 54, .ref x1, .int (wI x2), .int (wI x3), .int (wI x4), .int (wI x5), .ref (x1 + 15), .int (wI (x7 + (-1))), .int (wI (rt_ (σ (x1 + 15) 2) (σ (x1 + 16)) 5 1 x7)), .ref j7]) c_12_112 rfl rfl (i38 c_12_115 rfl t)
        · have t := iT t (Decidable.not_not.mp hc)
          have ha33 : (rt_ (σ (x1 + 15) 2) (σ (x1 + 16)) 5 1 x7) = x3 := Decidable.not_not.mp hc
          refine i5 c_12_56 rfl (i3 c_12_58 rfl (i1 c_12_60 ?_))
          refine i80 (As := [.int (wI x7), .int (wI 4)]) (rest := []) c_12_61 mi_55 rfl rfl (Nat.le_of_ble_eq_true rfl) (Nat.le_of_ble_eq_true rfl) (lo (lyt_15 hx1) (by have := tw_b hx1; omega)) (q_at (ow_forces hx1) r1 (by decide) ?_)
          show wi (d + 6) 12 64 [.ref 54, .ref x1, .int (wI x2), .int (wI x3), .int (wI x4), .int (wI x5), .ref (x1 + 15), .int (wI x7), .int (wI (rt_ (σ (x1 + 15) 2) (σ (x1 + 16)) 5 1 x7)), .ref j7] [.int (wI (rt_ (σ (x1 + 15) 2) (σ (x1 + 16)) 5 4 x7))] S σ τ Q
          obtain ⟨r34, t⟩ := t
          refine i3 c_12_64 rfl ?_
          refine i37 c_12_66 (rg_rt_ (fun k => kO_r K3 _ k) _ _ _ _) r34 rfl (fun hc => ?_) (fun hc => ?_)
          · have t := iT t hc
            have ha35 : x5 < (rt_ (σ (x1 + 15) 2) (σ (x1 + 16)) 5 4 x7) := hc
            refine i9 (L' := [.ref 54, .ref x1, .int (wI x2), .int (wI x3), .int (wI x4), .int (wI x5), .ref (x1 + 15), .int (wI (x7 + (-1))), .int (wI (rt_ (σ (x1 + 15) 2) (σ (x1 + 16)) 5 1 x7)), .ref j7]) c_12_112 rfl rfl (i38 c_12_115 rfl t)
          · have t := iF t hc
            have ha35 : ¬ (x5 < (rt_ (σ (x1 + 15) 2) (σ (x1 + 16)) 5 4 x7)) := hc
            refine i5 c_12_69 rfl (i3 c_12_71 rfl (i1 c_12_73 ?_))
            refine i80 (As := [.int (wI x7), .int (wI 2)]) (rest := []) c_12_74 mi_55 rfl rfl (Nat.le_of_ble_eq_true rfl) (Nat.le_of_ble_eq_true rfl) (lo (lyt_15 hx1) (by have := tw_b hx1; omega)) (q_at (ow_forces hx1) r1 (by decide) ?_)
            show wi (d + 6) 12 77 [.ref 54, .ref x1, .int (wI x2), .int (wI x3), .int (wI x4), .int (wI x5), .ref (x1 + 15), .int (wI x7), .int (wI (rt_ (σ (x1 + 15) 2) (σ (x1 + 16)) 5 1 x7)), .ref j7] [.int (wI (rt_ (σ (x1 + 15) 2) (σ (x1 + 16)) 5 2 x7))] S σ τ Q
            obtain ⟨r36, t⟩ := t
            refine i3 c_12_77 rfl ?_
            refine i37 c_12_79 (rg_rt_ (fun k => kO_r K3 _ k) _ _ _ _) r36 rfl (fun hc => ?_) (fun hc => ?_)
            · have t := iT t hc
              have ha37 : x4 < (rt_ (σ (x1 + 15) 2) (σ (x1 + 16)) 5 2 x7) := hc
              refine i9 (L' := [.ref 54, .ref x1, .int (wI x2), .int (wI x3), .int (wI x4), .int (wI x5), .ref (x1 + 15), .int (wI (x7 + (-1))), .int (wI (rt_ (σ (x1 + 15) 2) (σ (x1 + 16)) 5 1 x7)), .ref j7]) c_12_112 rfl rfl (i38 c_12_115 rfl t)
            · have t := iF t hc
              have ha37 : ¬ (x4 < (rt_ (σ (x1 + 15) 2) (σ (x1 + 16)) 5 2 x7)) := hc
              refine i3 c_12_82 rfl (i5 c_12_84 rfl (i3 c_12_86 rfl (i1 c_12_88 ?_)))
              refine i80 (As := [.int (wI x7), .int (wI 3)]) (rest := [.int (wI x4)]) c_12_89 mi_55 rfl rfl (Nat.le_of_ble_eq_true rfl) (Nat.le_of_ble_eq_true rfl) (lo (lyt_15 hx1) (by have := tw_b hx1; omega)) (q_at (ow_forces hx1) r1 (by decide) ?_)
              show wi (d + 6) 12 92 [.ref 54, .ref x1, .int (wI x2), .int (wI x3), .int (wI x4), .int (wI x5), .ref (x1 + 15), .int (wI x7), .int (wI (rt_ (σ (x1 + 15) 2) (σ (x1 + 16)) 5 1 x7)), .ref j7] [.int (wI (rt_ (σ (x1 + 15) 2) (σ (x1 + 16)) 5 3 x7)), .int (wI x4)] S σ τ Q
              refine i37 c_12_92 r36 (rg_rt_ (fun k => kO_r K3 _ k) _ _ _ _) rfl (fun hc => ?_) (fun hc => ?_)
              · have t := iT t hc
                have ha38 : (rt_ (σ (x1 + 15) 2) (σ (x1 + 16)) 5 3 x7) < x4 := hc
                refine i9 (L' := [.ref 54, .ref x1, .int (wI x2), .int (wI x3), .int (wI x4), .int (wI x5), .ref (x1 + 15), .int (wI (x7 + (-1))), .int (wI (rt_ (σ (x1 + 15) 2) (σ (x1 + 16)) 5 1 x7)), .ref j7]) c_12_112 rfl rfl (i38 c_12_115 rfl t)
              · have t := iF t hc
                have ha38 : ¬ ((rt_ (σ (x1 + 15) 2) (σ (x1 + 16)) 5 3 x7) < x4) := hc
                refine i5 c_12_95 rfl (i39a c_12_97 (i5 c_12_100 rfl (i3 c_12_102 rfl ?_)))
                refine i80 (As := [.int (wI x2)]) (rest := []) c_12_103 mi_83 rfl rfl (Nat.le_of_ble_eq_true rfl) (Nat.le_of_ble_eq_true rfl) (fun _ => oT_0 hj7) (q_83 hj7 ?_)
                show wi (d + 6) 12 106 [.ref 54, .ref x1, .int (wI x2), .int (wI x3), .int (wI x4), .int (wI x5), .ref (x1 + 15), .int (wI x7), .int (wI (rt_ (σ (x1 + 15) 2) (σ (x1 + 16)) 5 1 x7)), .ref j7] [.int (wI (if ¬ zand (zush (σ j7 3) x2) 1 = 0 then 1 else 0))] S σ τ Q
                refine i36e c_12_106 rfl (fun hc => ?_) (fun hc => ?_)
                · have t := iT t hc
                  have ha39 : ¬ zand (zush (σ j7 3) x2) 1 = 0 := hc
                  refine i3 c_12_109 rfl ?_
                  exact i90 c_12_111 t
                · have t := iF t hc
                  have ha39 : ¬ (¬ zand (zush (σ j7 3) x2) 1 = 0) := hc
                  refine i9 (L' := [.ref 54, .ref x1, .int (wI x2), .int (wI x3), .int (wI x4), .int (wI x5), .ref (x1 + 15), .int (wI (x7 + (-1))), .int (wI (rt_ (σ (x1 + 15) 2) (σ (x1 + 16)) 5 1 x7)), .ref j7]) c_12_112 rfl rfl (i38 c_12_115 rfl t)
theorem q_12 {d : Nat} {S : zS} {σ τ : zI} {Q : zQ} {tn : Nat} {k : Int} {mill : Int} {week : Int} {known : Int} {a : Int → Int} {sort : Int} (htn : tw tn) (p0 : RT σ tn a) (p1 : RX S σ a) (p2 : Jl a) (p3 : jv_T a) (p4 : (sort = (1 : Int) ∧ k = (3 : Int)) ∨ ((6 : Int) ≤ sort ∧ sort ≤ 9 ∧ k = sort)) (p5 : rg mill) (p6 : rg week) (p7 : rg known) (t : Q (some (.int (wI (r_fc a sort mill week known)))) S σ τ) : wc (d + 6) 12 [.ref 54, .ref tn, .int (wI k), .int (wI mill), .int (wI week), .int (wI known)] S σ τ Q := by
  have hC := lC p2
  unfold jv_C at hC
  have hF := lF p2
  have c6 := cF p0
  unfold r_fc at t
  refine wc_of mi_12 rfl (u_12_0 htn ?_)
  have key : ∀ f, -1 ≤ f → f < a 6 → Q (some (.int (wI (r_fcI a sort mill week known f)))) S σ τ → ∀ y z, wi (d + 6) 12 15 [.ref 54, .ref tn, .int (wI k), .int (wI mill), .int (wI week), .int (wI known), .ref (tn + 15), .int (wI f), y, z] [] S σ τ Q := by
    refine lp_dn (fun f hf ih => ?_)
    intro h1 t y z
    refine u_12_15 htn ⟨by omega, ?_⟩
    by_cases c : f < 0
    · have : f = -1 := by omega
      subst this
      rw [if_pos (by omega)]
      exact t
    · have q := hF f (by omega) h1
      rw [if_neg c]
      rw [r_fcI_s (by omega)] at t
      have hr : 0 ≤ f ∧ f < a 6 := ⟨by omega, h1⟩
      rw [vF0 p0 hr, vF1 p0 hr, vF2 p0 hr, vF3 p0 hr, vF4 p0 hr]
      have tn_ : ¬ fc_c a sort mill week known f → ∀ y z, wi (d + 6) 12 15 [.ref 54, .ref tn, .int (wI k), .int (wI mill), .int (wI week), .int (wI known), .ref (tn + 15), .int (wI (f + -1)), y, z] [] S σ τ Q := fun h y z => by
        rw [if_neg h] at t
        exact ih (by omega) (by omega) t y z
      have tp : fc_c a sort mill week known f → Q (some (.int (wI f))) S σ τ := fun h => by rw [if_pos h] at t; exact t
      clear t ih
      refine ⟨a, p1, q.1.2, fun e => absurd e (by omega), fun j oj _ tx => ?_⟩
      have hc := TX_hc tx p3 q.1.1 q.1.2 p4
      generalize zand (zush (σ j 3) k) 1 = Z at hc
      clear tx
      repeat' (first | exact tn_ (fun h => by have := h.2.2.1; have := h.2.1; have := h.1; omega) _ _ | refine ⟨p5, ?_⟩ | refine ⟨p6, ?_⟩ | refine ⟨p7, ?_⟩ | refine ifI (fun _ => ?_) (fun _ => ?_))
      all_goals first | exact tp ⟨by omega, by omega, by omega, Decidable.not_not.mp (fun h => by simp_all)⟩ | exact tn_ (fun h => absurd h.2.2.2 (hc.mp (Decidable.not_not.mp (by assumption)))) _ _
  have e := key (a 6 - 1) (by omega) (by omega) t
  rw [← c6] at e
  exact e _ _
-- method 13: MillTown$Law.textFor(LMillTown$Town;IIII)LMillTown$Text;
theorem c_13_0 : pg_cd 13 0 = (5, 1, 0, 0, 0) := by decide +kernel
theorem c_13_1 : pg_cd 13 1 = (5, 1, 0, 1, 0) := by decide +kernel
theorem c_13_2 : pg_cd 13 2 = (45, 8, 42, 7, 0) := by decide +kernel
theorem c_13_5 : pg_cd 13 5 = (5, 1, 0, 0, 0) := by decide +kernel
theorem c_13_6 : pg_cd 13 6 = (5, 1, 0, 1, 0) := by decide +kernel
theorem c_13_7 : pg_cd 13 7 = (3, 1, 0, 2, 0) := by decide +kernel
theorem c_13_8 : pg_cd 13 8 = (3, 1, 0, 3, 0) := by decide +kernel
theorem c_13_9 : pg_cd 13 9 = (3, 2, 0, 4, 0) := by decide +kernel
theorem c_13_11 : pg_cd 13 11 = (3, 2, 0, 5, 0) := by decide +kernel
theorem c_13_13 : pg_cd 13 13 = (80, 12, 55, 0, 0) := by decide +kernel
theorem c_13_16 : pg_cd 13 16 = (1, 1, 0, 0, 0) := by decide +kernel
theorem c_13_17 : pg_cd 13 17 = (80, 55, 47, 0, 0) := by decide +kernel
theorem c_13_20 : pg_cd 13 20 = (80, 10, 29, 0, 0) := by decide +kernel
theorem c_13_23 : pg_cd 13 23 = (93, 0, 0, 0, 0) := by decide +kernel
theorem mi_13 : pg_mc 13 = 1 ∧ pg_na 13 = 5 ∧ pg_mx 13 = 6 := by decide +kernel
set_option maxRecDepth 20000 in
theorem u_13_0 {d : Nat} {S : zS} {σ τ : zI} {Q : zQ} {x1 : Nat} {x2 : Int} {x3 : Int} {x4 : Int} {x5 : Int} (hx1 : tw x1) (t : ∃ a1 : Int → Int, ∃ sort2 : Int, (RT σ x1 a1) ∧ (RX S σ a1) ∧ (Jl a1) ∧ (jv_T a1) ∧ ((sort2 = (1 : Int) ∧ x2 = (3 : Int)) ∨ ((6 : Int) ≤ sort2 ∧ sort2 ≤ 9 ∧ x2 = sort2)) ∧ (rg x3) ∧ (rg x4) ∧ (rg x5) ∧ (rg (r_fc a1 sort2 x3 x4 x5)) ∧ ∃ a13 : Int → Int, (RX S σ a13) ∧ ((rt_ (σ (x1 + 15) 2) (σ (x1 + 16)) 5 0 (r_fc a1 sort2 x3 x4 x5)) < a13 5) ∧ (((rt_ (σ (x1 + 15) 2) (σ (x1 + 16)) 5 0 (r_fc a1 sort2 x3 x4 x5)) < 0 → Q (some (.null)) S σ τ) ∧ ∀ j16 : Nat, oT S j16 → 0 ≤ (rt_ (σ (x1 + 15) 2) (σ (x1 + 16)) 5 0 (r_fc a1 sort2 x3 x4 x5)) → TX σ j16 a13 (rt_ (σ (x1 + 15) 2) (σ (x1 + 16)) 5 0 (r_fc a1 sort2 x3 x4 x5)) → Q (some (.ref j16)) S σ τ)) : wi (d + 7) 13 0 [.ref 54, .ref x1, .int (wI x2), .int (wI x3), .int (wI x4), .int (wI x5)] [] S σ τ Q := by
  obtain ⟨a1, t⟩ := t
  obtain ⟨sort2, t⟩ := t
  obtain ⟨p3, t⟩ := t
  obtain ⟨p4, t⟩ := t
  obtain ⟨p5, t⟩ := t
  obtain ⟨p6, t⟩ := t
  obtain ⟨p7, t⟩ := t
  obtain ⟨r8, t⟩ := t
  obtain ⟨r9, t⟩ := t
  obtain ⟨r10, t⟩ := t
  refine i5 c_13_0 rfl (i5 c_13_1 rfl (i45 c_13_2 (lo (lyt_0 hx1) (by have := tw_b hx1; omega)) (lro (lrt_7 hx1)) (i5 c_13_5 rfl (i5 c_13_6 rfl (i3 c_13_7 rfl (i3 c_13_8 rfl (i3 c_13_9 rfl (i3 c_13_11 rfl ?_))))))))
  refine i80 (As := [.ref x1, .int (wI x2), .int (wI x3), .int (wI x4), .int (wI x5)]) (rest := [.ref (x1 + 15), .ref 54]) c_13_13 mi_12 rfl rfl (Nat.le_of_ble_eq_true rfl) (Nat.le_of_ble_eq_true rfl) (lo (c := 54) (kd := 101) (n := 0) rfl (by decide)) (q_12 (a := a1) (sort := sort2) hx1 p3 p4 p5 p6 p7 r8 r9 r10 ?_)
  show wi (d + 7) 13 16 [.ref 54, .ref x1, .int (wI x2), .int (wI x3), .int (wI x4), .int (wI x5)] [.int (wI (r_fc a1 sort2 x3 x4 x5)), .ref (x1 + 15), .ref 54] S σ τ Q
  obtain ⟨r11, t⟩ := t
  refine i1 c_13_16 (wi_ok (fun K12 => ?_))
  refine i80 (As := [.int (wI (r_fc a1 sort2 x3 x4 x5)), .int (wI 0)]) (rest := [.ref 54]) c_13_17 mi_55 rfl rfl (Nat.le_of_ble_eq_true rfl) (Nat.le_of_ble_eq_true rfl) (lo (lyt_15 hx1) (by have := tw_b hx1; omega)) (q_at (ow_forces hx1) r11 (by decide) ?_)
  show wi (d + 7) 13 20 [.ref 54, .ref x1, .int (wI x2), .int (wI x3), .int (wI x4), .int (wI x5)] [.int (wI (rt_ (σ (x1 + 15) 2) (σ (x1 + 16)) 5 0 (r_fc a1 sort2 x3 x4 x5))), .ref 54] S σ τ Q
  obtain ⟨a13, t⟩ := t
  obtain ⟨p14, t⟩ := t
  obtain ⟨p15, t⟩ := t
  refine i80 (As := [.int (wI (rt_ (σ (x1 + 15) 2) (σ (x1 + 16)) 5 0 (r_fc a1 sort2 x3 x4 x5)))]) (rest := []) c_13_20 mi_10 rfl rfl (Nat.le_of_ble_eq_true rfl) (Nat.le_of_ble_eq_true rfl) (lo (c := 54) (kd := 101) (n := 0) rfl (by decide)) (q_10 (a := a13) p14 (rg_rt_ (fun k => kO_r K12 _ k) _ _ _ _) p15 (fun hn17 => ?_) (fun j16 q18 q19 q20 => ?_))
  · have t := t.1 hn17
    show wi (d + 7) 13 23 [.ref 54, .ref x1, .int (wI x2), .int (wI x3), .int (wI x4), .int (wI x5)] [.null] S σ τ Q
    exact i93n c_13_23 t
  · have t := t.2 j16 q18 q19 q20
    have hj16 := q18
    show wi (d + 7) 13 23 [.ref 54, .ref x1, .int (wI x2), .int (wI x3), .int (wI x4), .int (wI x5)] [.ref j16] S σ τ Q
    exact i93a c_13_23 t
theorem q_13 {d : Nat} {S : zS} {σ τ : zI} {Q : zQ} {tn : Nat} {k : Int} {mill : Int} {week : Int} {known : Int} {a : Int → Int} {sort : Int} (htn : tw tn) (p0 : RT σ tn a) (p1 : RX S σ a) (p2 : Jl a) (p3 : jv_T a) (p4 : (sort = (1 : Int) ∧ k = (3 : Int)) ∨ ((6 : Int) ≤ sort ∧ sort ≤ 9 ∧ k = sort)) (p5 : rg mill) (p6 : rg week) (p7 : rg known) (t1 : r_fc a sort mill week known < 0 → Q (some .null) S σ τ) (t2 : ∀ j : Nat, oT S j → 0 ≤ r_fc a sort mill week known → TX σ j a (a (5012 + 8 * r_fc a sort mill week known)) → Q (some (.ref j)) S σ τ) : wc (d + 7) 13 [.ref 54, .ref tn, .int (wI k), .int (wI mill), .int (wI week), .int (wI known)] S σ τ Q := by
  have hC := lC p2
  unfold jv_C at hC
  have hF := lF p2
  have b := r_fc_b (a := a) (sort := sort) (mill := mill) (week := week) (known := known) (by omega)
  refine wc_of mi_13 rfl (u_13_0 htn ⟨a, sort, p0, p1, p2, p3, p4, p5, p6, p7, by omega, a, p1, ?_⟩)
  by_cases e : r_fc a sort mill week known < 0
  · rw [rt_n (by omega)]
    exact ⟨by omega, fun _ => t1 e, fun j _ h => absurd h (by omega)⟩
  · rw [vF0 p0 ⟨by omega, b.2.1⟩]
    have q := hF _ (by omega) b.2.1
    exact ⟨q.1.2, fun h => absurd h (by omega), fun j oj h tx => t2 j oj (by omega) tx⟩
-- method 11: MillTown$Law.clausesOf(I)I
theorem c_11_0 : pg_cd 11 0 = (5, 1, 0, 0, 0) := by decide +kernel
theorem c_11_1 : pg_cd 11 1 = (3, 1, 0, 1, 0) := by decide +kernel
theorem c_11_2 : pg_cd 11 2 = (80, 10, 29, 0, 0) := by decide +kernel
theorem c_11_5 : pg_cd 11 5 = (8, 1, 0, 2, 0) := by decide +kernel
theorem c_11_6 : pg_cd 11 6 = (5, 1, 0, 2, 0) := by decide +kernel
theorem c_11_7 : pg_cd 11 7 = (40, 3, 0, 0, 7) := by decide +kernel
theorem c_11_10 : pg_cd 11 10 = (1, 1, 0, 0, (-1)) := by decide +kernel
theorem c_11_11 : pg_cd 11 11 = (38, 3, 0, 0, 10) := by decide +kernel
theorem c_11_14 : pg_cd 11 14 = (5, 1, 0, 2, 0) := by decide +kernel
theorem c_11_15 : pg_cd 11 15 = (45, 7, 33, 0, 0) := by decide +kernel
theorem c_11_18 : pg_cd 11 18 = (43, 4, 37, 2, 0) := by decide +kernel
theorem c_11_21 : pg_cd 11 21 = (90, 0, 0, 0, 0) := by decide +kernel
theorem mi_11 : pg_mc 11 = 1 ∧ pg_na 11 = 1 ∧ pg_mx 11 = 3 := by decide +kernel
set_option maxRecDepth 20000 in
theorem u_11_0 {d : Nat} {S : zS} {σ τ : zI} {Q : zQ} {x1 : Int} (t : ∃ a1 : Int → Int, (RX S σ a1) ∧ (rg x1) ∧ (x1 < a1 5) ∧ ((x1 < 0 → Q (some (.int (wI (-1)))) S σ τ) ∧ ∀ j5 : Nat, oT S j5 → 0 ≤ x1 → TX σ j5 a1 x1 → Q (some (.int (wI (σ (j5 + 1) 2)))) S σ τ)) : wi (d + 1) 11 0 [.ref 54, .int (wI x1), .retAddr 0] [] S σ τ Q := by
  obtain ⟨a1, t⟩ := t
  obtain ⟨p2, t⟩ := t
  obtain ⟨r3, t⟩ := t
  obtain ⟨p4, t⟩ := t
  refine i5 c_11_0 rfl (i3 c_11_1 rfl ?_)
  refine i80 (As := [.int (wI x1)]) (rest := []) c_11_2 mi_10 rfl rfl (Nat.le_of_ble_eq_true rfl) (Nat.le_of_ble_eq_true rfl) (lo (c := 54) (kd := 101) (n := 0) rfl (by decide)) (q_10 (a := a1) p2 r3 p4 (fun hn6 => ?_) (fun j5 q7 q8 q9 => ?_))
  · have t := t.1 hn6
    show wi (d + 1) 11 5 [.ref 54, .int (wI x1), .retAddr 0] [.null] S σ τ Q
    refine i8n (L' := [.ref 54, .int (wI x1), .null]) c_11_5 rfl (i5n c_11_6 rfl (i40n c_11_7 (i1 c_11_10 (i38 c_11_11 rfl ?_))))
    exact i90 c_11_21 t
  · have t := t.2 j5 q7 q8 q9
    have hj5 := q7
    show wi (d + 1) 11 5 [.ref 54, .int (wI x1), .retAddr 0] [.ref j5] S σ τ Q
    refine i8 (L' := [.ref 54, .int (wI x1), .ref j5]) c_11_5 rfl (i5 c_11_6 rfl (i40a c_11_7 rfl (i5 c_11_14 rfl (i45 c_11_15 (fun _ => oT_0 hj5) (fun _ => oT_r0 hj5) (wi_ok (fun K10 => ?_))))))
    refine i43 (v := σ (j5 + 1) 2) c_11_18 (fun _ => oT_1 hj5) rfl ?_
    exact i90 c_11_21 t
theorem q_11 {d : Nat} {S : zS} {σ τ : zI} {Q : zQ} {number : Int} {a : Int → Int} (p0 : RX S σ a) (p1 : rg number) (p2 : number < a 5) (t : Q (some (.int (wI (if number < 0 then -1 else a (5500 + 840 * number))))) S σ τ) : wc (d + 1) 11 [.ref 54, .int (wI number)] S σ τ Q := by
  refine wc_of mi_11 rfl (u_11_0 ⟨a, p0, p1, p2, fun h => ?_, fun j oj h tx => ?_⟩)
  · rw [if_pos h] at t; exact t
  · rw [if_neg (by omega)] at t; rw [tx.2.1]; exact t
-- method 15: MillTown$Law.breaksAt(LMillTown$Town;III)I
theorem c_15_0 : pg_cd 15 0 = (5, 1, 0, 0, 0) := by decide +kernel
theorem c_15_1 : pg_cd 15 1 = (5, 1, 0, 1, 0) := by decide +kernel
theorem c_15_2 : pg_cd 15 2 = (1, 2, 0, 0, 8) := by decide +kernel
theorem c_15_4 : pg_cd 15 4 = (3, 1, 0, 2, 0) := by decide +kernel
theorem c_15_5 : pg_cd 15 5 = (3, 1, 0, 3, 0) := by decide +kernel
theorem c_15_6 : pg_cd 15 6 = (3, 2, 0, 4, 0) := by decide +kernel
theorem c_15_8 : pg_cd 15 8 = (80, 13, 59, 0, 0) := by decide +kernel
theorem c_15_11 : pg_cd 15 11 = (8, 2, 0, 5, 0) := by decide +kernel
theorem c_15_13 : pg_cd 15 13 = (5, 1, 0, 0, 0) := by decide +kernel
theorem c_15_14 : pg_cd 15 14 = (5, 1, 0, 1, 0) := by decide +kernel
theorem c_15_15 : pg_cd 15 15 = (1, 2, 0, 0, 9) := by decide +kernel
theorem c_15_17 : pg_cd 15 17 = (3, 1, 0, 2, 0) := by decide +kernel
theorem c_15_18 : pg_cd 15 18 = (3, 1, 0, 3, 0) := by decide +kernel
theorem c_15_19 : pg_cd 15 19 = (3, 2, 0, 4, 0) := by decide +kernel
theorem c_15_21 : pg_cd 15 21 = (80, 13, 59, 0, 0) := by decide +kernel
theorem c_15_24 : pg_cd 15 24 = (8, 2, 0, 6, 0) := by decide +kernel
theorem c_15_26 : pg_cd 15 26 = (5, 2, 0, 5, 0) := by decide +kernel
theorem c_15_28 : pg_cd 15 28 = (40, 3, 0, 0, 7) := by decide +kernel
theorem c_15_31 : pg_cd 15 31 = (1, 1, 0, 0, 0) := by decide +kernel
theorem c_15_32 : pg_cd 15 32 = (38, 3, 0, 0, 10) := by decide +kernel
theorem c_15_35 : pg_cd 15 35 = (5, 2, 0, 5, 0) := by decide +kernel
theorem c_15_37 : pg_cd 15 37 = (1, 2, 0, 0, 8) := by decide +kernel
theorem c_15_39 : pg_cd 15 39 = (80, 85, 71, 0, 0) := by decide +kernel
theorem c_15_42 : pg_cd 15 42 = (6, 2, 0, 7, 0) := by decide +kernel
theorem c_15_44 : pg_cd 15 44 = (5, 2, 0, 6, 0) := by decide +kernel
theorem c_15_46 : pg_cd 15 46 = (40, 3, 0, 0, 8) := by decide +kernel
theorem c_15_49 : pg_cd 15 49 = (3, 2, 0, 7, 0) := by decide +kernel
theorem c_15_51 : pg_cd 15 51 = (38, 3, 0, 0, 13) := by decide +kernel
theorem c_15_54 : pg_cd 15 54 = (3, 2, 0, 7, 0) := by decide +kernel
theorem c_15_56 : pg_cd 15 56 = (5, 2, 0, 6, 0) := by decide +kernel
theorem c_15_58 : pg_cd 15 58 = (1, 2, 0, 0, 9) := by decide +kernel
theorem c_15_60 : pg_cd 15 60 = (80, 85, 71, 0, 0) := by decide +kernel
theorem c_15_63 : pg_cd 15 63 = (10, 1, 0, 0, 0) := by decide +kernel
theorem c_15_64 : pg_cd 15 64 = (90, 0, 0, 0, 0) := by decide +kernel
theorem mi_15 : pg_mc 15 = 1 ∧ pg_na 15 = 4 ∧ pg_mx 15 = 8 := by decide +kernel
set_option maxRecDepth 20000 in
theorem u_15_0 {d : Nat} {S : zS} {σ τ : zI} {Q : zQ} {x1 : Nat} {x2 : Int} {x3 : Int} {x4 : Int} (hx1 : tw x1) (t : ∃ a1 : Int → Int, ∃ sort2 : Int, (RT σ x1 a1) ∧ (RX S σ a1) ∧ (Jl a1) ∧ (jv_T a1) ∧ ((sort2 = (1 : Int) ∧ 8 = (3 : Int)) ∨ ((6 : Int) ≤ sort2 ∧ sort2 ≤ 9 ∧ 8 = sort2)) ∧ (rg x2) ∧ (rg x3) ∧ (rg x4) ∧ ((r_fc a1 sort2 x2 x3 x4 < 0 → ∃ a16 : Int → Int, ∃ sort17 : Int, (RT σ x1 a16) ∧ (RX S σ a16) ∧ (Jl a16) ∧ (jv_T a16) ∧ ((sort17 = (1 : Int) ∧ 9 = (3 : Int)) ∨ ((6 : Int) ≤ sort17 ∧ sort17 ≤ 9 ∧ 9 = sort17)) ∧ ((r_fc a16 sort17 x2 x3 x4 < 0 → Q (some (.int (wI 0))) S σ τ) ∧ ∀ j23 : Nat, oT S j23 → 0 ≤ r_fc a16 sort17 x2 x3 x4 → TX σ j23 a16 (a16 (5012 + 8 * r_fc a16 sort17 x2 x3 x4)) → ∃ a28 : Int → Int, ∃ n29 : Int, (TX σ j23 a28 n29) ∧ (jv_T a28) ∧ (0 ≤ n29 ∧ n29 < a28 5) ∧ ((6 : Int) ≤ 9 ∧ 9 ≤ (9 : Int) ∧ 9 ≠ (7 : Int)) ∧ Q (some (.int (wI (0 + (r_mx a28 n29 9 (a28 (5500 + 840 * n29))))))) S σ τ)) ∧ ∀ j11 : Nat, oT S j11 → 0 ≤ r_fc a1 sort2 x2 x3 x4 → TX σ j11 a1 (a1 (5012 + 8 * r_fc a1 sort2 x2 x3 x4)) → ∃ a34 : Int → Int, ∃ sort35 : Int, (RT σ x1 a34) ∧ (RX S σ a34) ∧ (Jl a34) ∧ (jv_T a34) ∧ ((sort35 = (1 : Int) ∧ 9 = (3 : Int)) ∨ ((6 : Int) ≤ sort35 ∧ sort35 ≤ 9 ∧ 9 = sort35)) ∧ ((r_fc a34 sort35 x2 x3 x4 < 0 → ∃ a46 : Int → Int, ∃ n47 : Int, (TX σ j11 a46 n47) ∧ (jv_T a46) ∧ (0 ≤ n47 ∧ n47 < a46 5) ∧ ((6 : Int) ≤ 8 ∧ 8 ≤ (9 : Int) ∧ 8 ≠ (7 : Int)) ∧ Q (some (.int (wI (r_mx a46 n47 8 (a46 (5500 + 840 * n47)))))) S σ τ) ∧ ∀ j41 : Nat, oT S j41 → 0 ≤ r_fc a34 sort35 x2 x3 x4 → TX σ j41 a34 (a34 (5012 + 8 * r_fc a34 sort35 x2 x3 x4)) → ∃ a52 : Int → Int, ∃ n53 : Int, (TX σ j11 a52 n53) ∧ (jv_T a52) ∧ (0 ≤ n53 ∧ n53 < a52 5) ∧ ((6 : Int) ≤ 8 ∧ 8 ≤ (9 : Int) ∧ 8 ≠ (7 : Int)) ∧ ∃ a58 : Int → Int, ∃ n59 : Int, (TX σ j41 a58 n59) ∧ (jv_T a58) ∧ (0 ≤ n59 ∧ n59 < a58 5) ∧ ((6 : Int) ≤ 9 ∧ 9 ≤ (9 : Int) ∧ 9 ≠ (7 : Int)) ∧ Q (some (.int (wI ((r_mx a52 n53 8 (a52 (5500 + 840 * n53))) + (r_mx a58 n59 9 (a58 (5500 + 840 * n59))))))) S σ τ))) : wi (d + 8) 15 0 [.ref 54, .ref x1, .int (wI x2), .int (wI x3), .int (wI x4), .retAddr 0, .retAddr 0, .retAddr 0] [] S σ τ Q := by
  obtain ⟨a1, t⟩ := t
  obtain ⟨sort2, t⟩ := t
  obtain ⟨p3, t⟩ := t
  obtain ⟨p4, t⟩ := t
  obtain ⟨p5, t⟩ := t
  obtain ⟨p6, t⟩ := t
  obtain ⟨p7, t⟩ := t
  obtain ⟨r8, t⟩ := t
  obtain ⟨r9, t⟩ := t
  obtain ⟨r10, t⟩ := t
  refine i5 c_15_0 rfl (i5 c_15_1 rfl (i1 c_15_2 (i3 c_15_4 rfl (i3 c_15_5 rfl (i3 c_15_6 rfl ?_)))))
  refine i80 (As := [.ref x1, .int (wI 8), .int (wI x2), .int (wI x3), .int (wI x4)]) (rest := []) c_15_8 mi_13 rfl rfl (Nat.le_of_ble_eq_true rfl) (Nat.le_of_ble_eq_true rfl) (lo (c := 54) (kd := 101) (n := 0) rfl (by decide)) (q_13 (a := a1) (sort := sort2) hx1 p3 p4 p5 p6 p7 r8 r9 r10 (fun hn12 => ?_) (fun j11 q13 q14 q15 => ?_))
  · have t := t.1 hn12
    show wi (d + 8) 15 11 [.ref 54, .ref x1, .int (wI x2), .int (wI x3), .int (wI x4), .retAddr 0, .retAddr 0, .retAddr 0] [.null] S σ τ Q
    obtain ⟨a16, t⟩ := t
    obtain ⟨sort17, t⟩ := t
    obtain ⟨p18, t⟩ := t
    obtain ⟨p19, t⟩ := t
    obtain ⟨p20, t⟩ := t
    obtain ⟨p21, t⟩ := t
    obtain ⟨p22, t⟩ := t
    refine i8n (L' := [.ref 54, .ref x1, .int (wI x2), .int (wI x3), .int (wI x4), .null, .retAddr 0, .retAddr 0]) c_15_11 rfl (i5 c_15_13 rfl (i5 c_15_14 rfl (i1 c_15_15 (i3 c_15_17 rfl (i3 c_15_18 rfl (i3 c_15_19 rfl ?_))))))
    refine i80 (As := [.ref x1, .int (wI 9), .int (wI x2), .int (wI x3), .int (wI x4)]) (rest := []) c_15_21 mi_13 rfl rfl (Nat.le_of_ble_eq_true rfl) (Nat.le_of_ble_eq_true rfl) (lo (c := 54) (kd := 101) (n := 0) rfl (by decide)) (q_13 (a := a16) (sort := sort17) hx1 p18 p19 p20 p21 p22 r8 r9 r10 (fun hn24 => ?_) (fun j23 q25 q26 q27 => ?_))
    · have t := t.1 hn24
      show wi (d + 8) 15 24 [.ref 54, .ref x1, .int (wI x2), .int (wI x3), .int (wI x4), .null, .retAddr 0, .retAddr 0] [.null] S σ τ Q
      refine i8n (L' := [.ref 54, .ref x1, .int (wI x2), .int (wI x3), .int (wI x4), .null, .null, .retAddr 0]) c_15_24 rfl (i5n c_15_26 rfl (i40n c_15_28 (i1 c_15_31 (i38 c_15_32 rfl (i6 (L' := [.ref 54, .ref x1, .int (wI x2), .int (wI x3), .int (wI x4), .null, .null, .int (wI 0)]) c_15_42 rfl (i5n c_15_44 rfl (i40n c_15_46 (i3 c_15_49 rfl (i38 c_15_51 rfl ?_)))))))))
      exact i90 c_15_64 t
    · have t := t.2 j23 q25 q26 q27
      have hj23 := q25
      show wi (d + 8) 15 24 [.ref 54, .ref x1, .int (wI x2), .int (wI x3), .int (wI x4), .null, .retAddr 0, .retAddr 0] [.ref j23] S σ τ Q
      obtain ⟨a28, t⟩ := t
      obtain ⟨n29, t⟩ := t
      obtain ⟨p30, t⟩ := t
      obtain ⟨p31, t⟩ := t
      obtain ⟨p32, t⟩ := t
      obtain ⟨p33, t⟩ := t
      refine i8 (L' := [.ref 54, .ref x1, .int (wI x2), .int (wI x3), .int (wI x4), .null, .ref j23, .retAddr 0]) c_15_24 rfl (i5n c_15_26 rfl (i40n c_15_28 (i1 c_15_31 (i38 c_15_32 rfl (i6 (L' := [.ref 54, .ref x1, .int (wI x2), .int (wI x3), .int (wI x4), .null, .ref j23, .int (wI 0)]) c_15_42 rfl (i5 c_15_44 rfl (i40a c_15_46 rfl (i3 c_15_54 rfl (i5 c_15_56 rfl (i1 c_15_58 ?_))))))))))
      refine i80 (As := [.int (wI 9)]) (rest := [.int (wI 0)]) c_15_60 mi_85 rfl rfl (Nat.le_of_ble_eq_true rfl) (Nat.le_of_ble_eq_true rfl) (fun _ => oT_0 hj23) (q_85 (a := a28) (n := n29) hj23 p30 p31 p32 p33 ?_)
      show wi (d + 8) 15 63 [.ref 54, .ref x1, .int (wI x2), .int (wI x3), .int (wI x4), .null, .ref j23, .int (wI 0)] [.int (wI (r_mx a28 n29 9 (a28 (5500 + 840 * n29)))), .int (wI 0)] S σ τ Q
      refine i10 c_15_63 ?_
      exact i90 c_15_64 t
  · have t := t.2 j11 q13 q14 q15
    have hj11 := q13
    show wi (d + 8) 15 11 [.ref 54, .ref x1, .int (wI x2), .int (wI x3), .int (wI x4), .retAddr 0, .retAddr 0, .retAddr 0] [.ref j11] S σ τ Q
    obtain ⟨a34, t⟩ := t
    obtain ⟨sort35, t⟩ := t
    obtain ⟨p36, t⟩ := t
    obtain ⟨p37, t⟩ := t
    obtain ⟨p38, t⟩ := t
    obtain ⟨p39, t⟩ := t
    obtain ⟨p40, t⟩ := t
    refine i8 (L' := [.ref 54, .ref x1, .int (wI x2), .int (wI x3), .int (wI x4), .ref j11, .retAddr 0, .retAddr 0]) c_15_11 rfl (i5 c_15_13 rfl (i5 c_15_14 rfl (i1 c_15_15 (i3 c_15_17 rfl (i3 c_15_18 rfl (i3 c_15_19 rfl ?_))))))
    refine i80 (As := [.ref x1, .int (wI 9), .int (wI x2), .int (wI x3), .int (wI x4)]) (rest := []) c_15_21 mi_13 rfl rfl (Nat.le_of_ble_eq_true rfl) (Nat.le_of_ble_eq_true rfl) (lo (c := 54) (kd := 101) (n := 0) rfl (by decide)) (q_13 (a := a34) (sort := sort35) hx1 p36 p37 p38 p39 p40 r8 r9 r10 (fun hn42 => ?_) (fun j41 q43 q44 q45 => ?_))
    · have t := t.1 hn42
      show wi (d + 8) 15 24 [.ref 54, .ref x1, .int (wI x2), .int (wI x3), .int (wI x4), .ref j11, .retAddr 0, .retAddr 0] [.null] S σ τ Q
      obtain ⟨a46, t⟩ := t
      obtain ⟨n47, t⟩ := t
      obtain ⟨p48, t⟩ := t
      obtain ⟨p49, t⟩ := t
      obtain ⟨p50, t⟩ := t
      obtain ⟨p51, t⟩ := t
      refine i8n (L' := [.ref 54, .ref x1, .int (wI x2), .int (wI x3), .int (wI x4), .ref j11, .null, .retAddr 0]) c_15_24 rfl (i5 c_15_26 rfl (i40a c_15_28 rfl (i5 c_15_35 rfl (i1 c_15_37 ?_))))
      refine i80 (As := [.int (wI 8)]) (rest := []) c_15_39 mi_85 rfl rfl (Nat.le_of_ble_eq_true rfl) (Nat.le_of_ble_eq_true rfl) (fun _ => oT_0 hj11) (q_85 (a := a46) (n := n47) hj11 p48 p49 p50 p51 ?_)
      show wi (d + 8) 15 42 [.ref 54, .ref x1, .int (wI x2), .int (wI x3), .int (wI x4), .ref j11, .null, .retAddr 0] [.int (wI (r_mx a46 n47 8 (a46 (5500 + 840 * n47))))] S σ τ Q
      refine i6 (L' := [.ref 54, .ref x1, .int (wI x2), .int (wI x3), .int (wI x4), .ref j11, .null, .int (wI (r_mx a46 n47 8 (a46 (5500 + 840 * n47))))]) c_15_42 rfl (i5n c_15_44 rfl (i40n c_15_46 (i3 c_15_49 rfl (i38 c_15_51 rfl ?_))))
      exact i90 c_15_64 t
    · have t := t.2 j41 q43 q44 q45
      have hj41 := q43
      show wi (d + 8) 15 24 [.ref 54, .ref x1, .int (wI x2), .int (wI x3), .int (wI x4), .ref j11, .retAddr 0, .retAddr 0] [.ref j41] S σ τ Q
      obtain ⟨a52, t⟩ := t
      obtain ⟨n53, t⟩ := t
      obtain ⟨p54, t⟩ := t
      obtain ⟨p55, t⟩ := t
      obtain ⟨p56, t⟩ := t
      obtain ⟨p57, t⟩ := t
      refine i8 (L' := [.ref 54, .ref x1, .int (wI x2), .int (wI x3), .int (wI x4), .ref j11, .ref j41, .retAddr 0]) c_15_24 rfl (i5 c_15_26 rfl (i40a c_15_28 rfl (i5 c_15_35 rfl (i1 c_15_37 ?_))))
      refine i80 (As := [.int (wI 8)]) (rest := []) c_15_39 mi_85 rfl rfl (Nat.le_of_ble_eq_true rfl) (Nat.le_of_ble_eq_true rfl) (fun _ => oT_0 hj11) (q_85 (a := a52) (n := n53) hj11 p54 p55 p56 p57 ?_)
      show wi (d + 8) 15 42 [.ref 54, .ref x1, .int (wI x2), .int (wI x3), .int (wI x4), .ref j11, .ref j41, .retAddr 0] [.int (wI (r_mx a52 n53 8 (a52 (5500 + 840 * n53))))] S σ τ Q
      obtain ⟨a58, t⟩ := t
      obtain ⟨n59, t⟩ := t
      obtain ⟨p60, t⟩ := t
      obtain ⟨p61, t⟩ := t
      obtain ⟨p62, t⟩ := t
      obtain ⟨p63, t⟩ := t
      refine i6 (L' := [.ref 54, .ref x1, .int (wI x2), .int (wI x3), .int (wI x4), .ref j11, .ref j41, .int (wI (r_mx a52 n53 8 (a52 (5500 + 840 * n53))))]) c_15_42 rfl (i5 c_15_44 rfl (i40a c_15_46 rfl (i3 c_15_54 rfl (i5 c_15_56 rfl (i1 c_15_58 ?_)))))
      refine i80 (As := [.int (wI 9)]) (rest := [.int (wI (r_mx a52 n53 8 (a52 (5500 + 840 * n53))))]) c_15_60 mi_85 rfl rfl (Nat.le_of_ble_eq_true rfl) (Nat.le_of_ble_eq_true rfl) (fun _ => oT_0 hj41) (q_85 (a := a58) (n := n59) hj41 p60 p61 p62 p63 ?_)
      show wi (d + 8) 15 63 [.ref 54, .ref x1, .int (wI x2), .int (wI x3), .int (wI x4), .ref j11, .ref j41, .int (wI (r_mx a52 n53 8 (a52 (5500 + 840 * n53))))] [.int (wI (r_mx a58 n59 9 (a58 (5500 + 840 * n59)))), .int (wI (r_mx a52 n53 8 (a52 (5500 + 840 * n53))))] S σ τ Q
      refine i10 c_15_63 ?_
      exact i90 c_15_64 t
theorem q_15 {d : Nat} {S : zS} {σ τ : zI} {Q : zQ} {tn : Nat} {mill : Int} {week : Int} {known : Int} {a : Int → Int} (htn : tw tn) (p0 : RT σ tn a) (p1 : RX S σ a) (p2 : Jl a) (p3 : jv_T a) (p4 : rg mill) (p5 : rg week) (p6 : rg known) (t : Q (some (.int (wI (r_most a 8 mill week known + r_most a 9 mill week known)))) S σ τ) : wc (d + 8) 15 [.ref 54, .ref tn, .int (wI mill), .int (wI week), .int (wI known)] S σ τ Q := by
  have hC := lC p2
  unfold jv_C at hC
  have hF := lF p2
  have b8 := r_fc_b (a := a) (sort := 8) (mill := mill) (week := week) (known := known) (by omega)
  have b9 := r_fc_b (a := a) (sort := 9) (mill := mill) (week := week) (known := known) (by omega)
  unfold r_most at t
  refine wc_of mi_15 rfl (u_15_0 htn ⟨a, 8, p0, p1, p2, p3, by omega, p4, p5, p6, fun e => ?_, fun j8 o8 e t8 => ?_⟩)
  · rw [if_pos e] at t
    refine ⟨a, 9, p0, p1, p2, p3, by omega, fun f => ?_, fun j9 o9 f t9 => ?_⟩
    · rw [if_pos f] at t; exact t
    · rw [if_neg (by omega)] at t
      have q := hF _ f b9.2.1
      exact ⟨a, _, t9, p3, q.1, by omega, t⟩
  · rw [if_neg (by omega)] at t
    have q8 := hF _ e b8.2.1
    refine ⟨a, 9, p0, p1, p2, p3, by omega, fun f => ?_, fun j9 o9 f t9 => ?_⟩
    · rw [if_pos f, Int.add_zero] at t
      exact ⟨a, _, t8, p3, q8.1, by omega, t⟩
    · rw [if_neg (by omega)] at t
      have q := hF _ f b9.2.1
      exact ⟨a, _, t8, p3, q8.1, by omega, a, _, t9, p3, q.1, by omega, t⟩
-- method 16: MillTown$Law.hoursBy(LMillTown$Text;II)I
theorem c_16_0 : pg_cd 16 0 = (5, 1, 0, 0, 0) := by decide +kernel
theorem c_16_1 : pg_cd 16 1 = (40, 3, 0, 0, 12) := by decide +kernel
theorem c_16_4 : pg_cd 16 4 = (1, 2, 0, 0, 60) := by decide +kernel
theorem c_16_6 : pg_cd 16 6 = (3, 1, 0, 1, 0) := by decide +kernel
theorem c_16_7 : pg_cd 16 7 = (11, 1, 0, 0, 0) := by decide +kernel
theorem c_16_8 : pg_cd 16 8 = (1, 1, 0, 0, 0) := by decide +kernel
theorem c_16_9 : pg_cd 16 9 = (73, 0, 75, 0, 0) := by decide +kernel
theorem c_16_12 : pg_cd 16 12 = (90, 0, 0, 0, 0) := by decide +kernel
theorem c_16_13 : pg_cd 16 13 = (5, 1, 0, 0, 0) := by decide +kernel
theorem c_16_14 : pg_cd 16 14 = (45, 7, 33, 0, 0) := by decide +kernel
theorem c_16_17 : pg_cd 16 17 = (8, 1, 0, 3, 0) := by decide +kernel
theorem c_16_18 : pg_cd 16 18 = (1, 1, 0, 0, 0) := by decide +kernel
theorem c_16_19 : pg_cd 16 19 = (6, 2, 0, 4, 0) := by decide +kernel
theorem c_16_21 : pg_cd 16 21 = (3, 2, 0, 4, 0) := by decide +kernel
theorem c_16_23 : pg_cd 16 23 = (5, 1, 0, 3, 0) := by decide +kernel
theorem c_16_24 : pg_cd 16 24 = (43, 4, 37, 2, 0) := by decide +kernel
theorem c_16_27 : pg_cd 16 27 = (37, 3, 0, 3, 57) := by decide +kernel
theorem c_16_30 : pg_cd 16 30 = (5, 1, 0, 3, 0) := by decide +kernel
theorem c_16_31 : pg_cd 16 31 = (3, 2, 0, 4, 0) := by decide +kernel
theorem c_16_33 : pg_cd 16 33 = (1, 1, 0, 0, 0) := by decide +kernel
theorem c_16_34 : pg_cd 16 34 = (80, 55, 47, 0, 0) := by decide +kernel
theorem c_16_37 : pg_cd 16 37 = (1, 2, 0, 0, 7) := by decide +kernel
theorem c_16_39 : pg_cd 16 39 = (37, 3, 0, 1, 39) := by decide +kernel
theorem c_16_42 : pg_cd 16 42 = (5, 1, 0, 3, 0) := by decide +kernel
theorem c_16_43 : pg_cd 16 43 = (3, 2, 0, 4, 0) := by decide +kernel
theorem c_16_45 : pg_cd 16 45 = (1, 1, 0, 0, 1) := by decide +kernel
theorem c_16_46 : pg_cd 16 46 = (80, 55, 47, 0, 0) := by decide +kernel
theorem c_16_49 : pg_cd 16 49 = (3, 1, 0, 2, 0) := by decide +kernel
theorem c_16_50 : pg_cd 16 50 = (37, 3, 0, 4, 28) := by decide +kernel
theorem c_16_53 : pg_cd 16 53 = (3, 1, 0, 2, 0) := by decide +kernel
theorem c_16_54 : pg_cd 16 54 = (5, 1, 0, 3, 0) := by decide +kernel
theorem c_16_55 : pg_cd 16 55 = (3, 2, 0, 4, 0) := by decide +kernel
theorem c_16_57 : pg_cd 16 57 = (1, 1, 0, 0, 2) := by decide +kernel
theorem c_16_58 : pg_cd 16 58 = (80, 55, 47, 0, 0) := by decide +kernel
theorem c_16_61 : pg_cd 16 61 = (37, 3, 0, 4, 17) := by decide +kernel
theorem c_16_64 : pg_cd 16 64 = (5, 1, 0, 3, 0) := by decide +kernel
theorem c_16_65 : pg_cd 16 65 = (3, 2, 0, 4, 0) := by decide +kernel
theorem c_16_67 : pg_cd 16 67 = (1, 1, 0, 0, 3) := by decide +kernel
theorem c_16_68 : pg_cd 16 68 = (80, 55, 47, 0, 0) := by decide +kernel
theorem c_16_71 : pg_cd 16 71 = (3, 1, 0, 1, 0) := by decide +kernel
theorem c_16_72 : pg_cd 16 72 = (11, 1, 0, 0, 0) := by decide +kernel
theorem c_16_73 : pg_cd 16 73 = (1, 1, 0, 0, 0) := by decide +kernel
theorem c_16_74 : pg_cd 16 74 = (73, 0, 75, 0, 0) := by decide +kernel
theorem c_16_77 : pg_cd 16 77 = (90, 0, 0, 0, 0) := by decide +kernel
theorem c_16_78 : pg_cd 16 78 = (9, 3, 0, 4, 1) := by decide +kernel
theorem c_16_81 : pg_cd 16 81 = (38, 3, 0, 0, (-60)) := by decide +kernel
theorem c_16_84 : pg_cd 16 84 = (1, 1, 0, 0, 0) := by decide +kernel
theorem c_16_85 : pg_cd 16 85 = (90, 0, 0, 0, 0) := by decide +kernel
theorem mi_16 : pg_mc 16 = 1 ∧ pg_na 16 = 3 ∧ pg_mx 16 = 5 := by decide +kernel
set_option maxRecDepth 20000 in
theorem u_16_0 {d : Nat} {S : zS} {σ τ : zI} {Q : zQ} {x0 : Nat} {x1 : Int} {x2 : Int} (hx0 : oT S x0) (t : wi (d + 7) 16 21 [.ref x0, .int (wI x1), .int (wI x2), .ref (x0 + 1), .int (wI 0)] [] S σ τ Q) : wi (d + 7) 16 0 [.ref x0, .int (wI x1), .int (wI x2), .retAddr 0, .retAddr 0] [] S σ τ Q := by
  refine i5 c_16_0 rfl (i40a c_16_1 rfl (i5 c_16_13 rfl (i45 c_16_14 (fun _ => oT_0 hx0) (fun _ => oT_r0 hx0) (i8 (L' := [.ref x0, .int (wI x1), .int (wI x2), .ref (x0 + 1), .retAddr 0]) c_16_17 rfl (i1 c_16_18 (i6 (L' := [.ref x0, .int (wI x1), .int (wI x2), .ref (x0 + 1), .int (wI 0)]) c_16_19 rfl t))))))
set_option maxRecDepth 20000 in
theorem u_16_21 {d : Nat} {S : zS} {σ τ : zI} {Q : zQ} {x0 : Nat} {x1 : Int} {x2 : Int} {x4 : Int} (hx0 : oT S x0) (t : (rg x4) ∧ if (σ (x0 + 1) 2) ≤ x4 then (Q (some (.int (wI 0))) S σ τ) else ((oW S σ (x0 + 1) 8 192) ∧ if (rt_ (σ (x0 + 1) 2) (σ (x0 + 2)) 8 0 x4) = 7 then ((rg x2) ∧ if x2 < (rt_ (σ (x0 + 1) 2) (σ (x0 + 2)) 8 1 x4) then (wi (d + 7) 16 21 [.ref x0, .int (wI x1), .int (wI x2), .ref (x0 + 1), .int (wI (x4 + 1))] [] S σ τ Q) else (if (rt_ (σ (x0 + 1) 2) (σ (x0 + 2)) 8 2 x4) < x2 then (wi (d + 7) 16 21 [.ref x0, .int (wI x1), .int (wI x2), .ref (x0 + 1), .int (wI (x4 + 1))] [] S σ τ Q) else ((rg ((rt_ (σ (x0 + 1) 2) (σ (x0 + 2)) 8 3 x4) - x1)) ∧ Q (some (.int (wI (max ((rt_ (σ (x0 + 1) 2) (σ (x0 + 2)) 8 3 x4) - x1) 0)))) S σ τ))) else (wi (d + 7) 16 21 [.ref x0, .int (wI x1), .int (wI x2), .ref (x0 + 1), .int (wI (x4 + 1))] [] S σ τ Q))) : wi (d + 7) 16 21 [.ref x0, .int (wI x1), .int (wI x2), .ref (x0 + 1), .int (wI x4)] [] S σ τ Q := by
  refine i3 c_16_21 rfl (i5 c_16_23 rfl (wi_ok (fun K1 => ?_)))
  obtain ⟨r2, t⟩ := t
  refine i43 (v := σ (x0 + 1) 2) c_16_24 (fun _ => oT_1 hx0) rfl ?_
  refine i37 c_16_27 r2 (rge_ K1 rfl) rfl (fun hc => ?_) (fun hc => ?_)
  · have t := iT t hc
    have ha3 : (σ (x0 + 1) 2) ≤ x4 := hc
    refine i1 c_16_84 ?_
    exact i90 c_16_85 t
  · have t := iF t hc
    have ha3 : ¬ ((σ (x0 + 1) 2) ≤ x4) := hc
    obtain ⟨o4, t⟩ := t
    refine i5 c_16_30 rfl (i3 c_16_31 rfl (i1 c_16_33 ?_))
    refine i80 (As := [.int (wI x4), .int (wI 0)]) (rest := []) c_16_34 mi_55 rfl rfl (Nat.le_of_ble_eq_true rfl) (Nat.le_of_ble_eq_true rfl) (fun _ => oT_1 hx0) (q_at (fun _ => o4) r2 (by decide) ?_)
    show wi (d + 7) 16 37 [.ref x0, .int (wI x1), .int (wI x2), .ref (x0 + 1), .int (wI x4)] [.int (wI (rt_ (σ (x0 + 1) 2) (σ (x0 + 2)) 8 0 x4))] S σ τ Q
    refine i1 c_16_37 ?_
    refine i37 c_16_39 (rg_rt_ (fun k => kO_r K1 _ k) _ _ _ _) (by decide) rfl (fun hc => ?_) (fun hc => ?_)
    · have t := iF t hc
      have ha5 : ¬ ((rt_ (σ (x0 + 1) 2) (σ (x0 + 2)) 8 0 x4) = 7) := hc
      refine i9 (L' := [.ref x0, .int (wI x1), .int (wI x2), .ref (x0 + 1), .int (wI (x4 + 1))]) c_16_78 rfl rfl (i38 c_16_81 rfl t)
    · have t := iT t (Decidable.not_not.mp hc)
      have ha5 : (rt_ (σ (x0 + 1) 2) (σ (x0 + 2)) 8 0 x4) = 7 := Decidable.not_not.mp hc
      refine i5 c_16_42 rfl (i3 c_16_43 rfl (i1 c_16_45 ?_))
      refine i80 (As := [.int (wI x4), .int (wI 1)]) (rest := []) c_16_46 mi_55 rfl rfl (Nat.le_of_ble_eq_true rfl) (Nat.le_of_ble_eq_true rfl) (fun _ => oT_1 hx0) (q_at (fun _ => o4) r2 (by decide) ?_)
      show wi (d + 7) 16 49 [.ref x0, .int (wI x1), .int (wI x2), .ref (x0 + 1), .int (wI x4)] [.int (wI (rt_ (σ (x0 + 1) 2) (σ (x0 + 2)) 8 1 x4))] S σ τ Q
      obtain ⟨r6, t⟩ := t
      refine i3 c_16_49 rfl ?_
      refine i37 c_16_50 (rg_rt_ (fun k => kO_r K1 _ k) _ _ _ _) r6 rfl (fun hc => ?_) (fun hc => ?_)
      · have t := iT t hc
        have ha7 : x2 < (rt_ (σ (x0 + 1) 2) (σ (x0 + 2)) 8 1 x4) := hc
        refine i9 (L' := [.ref x0, .int (wI x1), .int (wI x2), .ref (x0 + 1), .int (wI (x4 + 1))]) c_16_78 rfl rfl (i38 c_16_81 rfl t)
      · have t := iF t hc
        have ha7 : ¬ (x2 < (rt_ (σ (x0 + 1) 2) (σ (x0 + 2)) 8 1 x4)) := hc
        refine i3 c_16_53 rfl (i5 c_16_54 rfl (i3 c_16_55 rfl (i1 c_16_57 ?_)))
        refine i80 (As := [.int (wI x4), .int (wI 2)]) (rest := [.int (wI x2)]) c_16_58 mi_55 rfl rfl (Nat.le_of_ble_eq_true rfl) (Nat.le_of_ble_eq_true rfl) (fun _ => oT_1 hx0) (q_at (fun _ => o4) r2 (by decide) ?_)
        show wi (d + 7) 16 61 [.ref x0, .int (wI x1), .int (wI x2), .ref (x0 + 1), .int (wI x4)] [.int (wI (rt_ (σ (x0 + 1) 2) (σ (x0 + 2)) 8 2 x4)), .int (wI x2)] S σ τ Q
        refine i37 c_16_61 r6 (rg_rt_ (fun k => kO_r K1 _ k) _ _ _ _) rfl (fun hc => ?_) (fun hc => ?_)
        · have t := iT t hc
          have ha8 : (rt_ (σ (x0 + 1) 2) (σ (x0 + 2)) 8 2 x4) < x2 := hc
          refine i9 (L' := [.ref x0, .int (wI x1), .int (wI x2), .ref (x0 + 1), .int (wI (x4 + 1))]) c_16_78 rfl rfl (i38 c_16_81 rfl t)
        · have t := iF t hc
          have ha8 : ¬ ((rt_ (σ (x0 + 1) 2) (σ (x0 + 2)) 8 2 x4) < x2) := hc
          refine i5 c_16_64 rfl (i3 c_16_65 rfl (i1 c_16_67 ?_))
          refine i80 (As := [.int (wI x4), .int (wI 3)]) (rest := []) c_16_68 mi_55 rfl rfl (Nat.le_of_ble_eq_true rfl) (Nat.le_of_ble_eq_true rfl) (fun _ => oT_1 hx0) (q_at (fun _ => o4) r2 (by decide) ?_)
          show wi (d + 7) 16 71 [.ref x0, .int (wI x1), .int (wI x2), .ref (x0 + 1), .int (wI x4)] [.int (wI (rt_ (σ (x0 + 1) 2) (σ (x0 + 2)) 8 3 x4))] S σ τ Q
          obtain ⟨r9, t⟩ := t
          refine i3 c_16_71 rfl (i11 c_16_72 (i1 c_16_73 (i73 c_16_74 (Nat.le_of_ble_eq_true rfl) (by omega) r9 (by decide) ?_)))
          exact i90 c_16_77 t
theorem q_16 {d : Nat} {S : zS} {σ τ : zI} {Q : zQ} {x : Nat} {br : Int} {age : Int} {a : Int → Int} {n : Int} (hx : oT S x) (p0 : TX σ x a n) (p1 : jv_T a) (p2 : 0 ≤ n ∧ n < a 5) (p3 : 0 ≤ br ∧ br ≤ 40) (p4 : rg age) (t : Q (some (.int (wI (max ((if r_ag a n age (a (5500 + 840 * n)) < 0 then 0 else r_ag a n age (a (5500 + 840 * n))) - br) 0)))) S σ τ) : wc (d + 7) 16 [.ref x, .int (wI br), .int (wI age)] S σ τ Q := by
  have ow := TX_w p0 hx p1 p2.1 p2.2
  have jt := p1 n p2.1 p2.2
  have cn := p0.2.1
  have ba : ∀ c, 0 ≤ c → c ≤ a (5500 + 840 * n) → -1 ≤ r_ag a n age c ∧ r_ag a n age c ≤ 80 := fun c c0 c1 => r_ag_b c0 (fun k k0 k1 k2 => ((jt.2 k k0 (by omega)).2.2.2.1 k2).2.2)
  refine wc_of mi_16 rfl (u_16_0 hx ?_)
  have key : ∀ c, 0 ≤ c → c ≤ a (5500 + 840 * n) → r_ag a n age c < 0 → wi (d + 7) 16 21 [.ref x, .int (wI br), .int (wI age), .ref (x + 1), .int (wI c)] [] S σ τ Q := by
    refine lp_up (fun c c0 c1 ih => ?_)
    intro hv
    refine u_16_21 hx ⟨by omega, ?_⟩
    refine ifI (fun e => ?_) (fun e => ?_)
    · have : c = a (5500 + 840 * n) := by omega
      rw [← this, if_pos hv, show max (0 - br) 0 = 0 by omega] at t
      exact t
    · have tc := p0.2.2.1 c c0 (by omega)
      have jc := jt.2 c c0 (by omega)
      have ih := ih (by omega)
      have hs := r_ag_s (a := a) (text := n) (age := age) c0
      rw [if_neg (by omega)] at hs
      refine ⟨ow, ?_⟩
      rw [rt8 ⟨c0, by omega⟩, rt8 ⟨c0, by omega⟩, rt8 ⟨c0, by omega⟩, rt8 ⟨c0, by omega⟩, tc.1]
      refine ifI (fun e2 => ?_) (fun e2 => ?_)
      · have e3 := (srt7 jc.1 (by omega)).mp e2
        have q := tc.2.1 e3
        have jq := jc.2.2.2.1 e3
        rw [q.1, q.2.1, q.2.2]
        refine ⟨p4, ?_⟩
        refine ifI (fun e4 => ?_) (fun e4 => ?_)
        · exact ih (by rw [hs, if_neg (fun h => by omega)]; omega)
        · refine ifI (fun e5 => ?_) (fun e5 => ?_)
          · exact ih (by rw [hs, if_neg (fun h => by omega)]; omega)
          · refine ⟨by omega, ?_⟩
            rw [if_pos ⟨e3, by omega, by omega⟩] at hs
            have hk := r_ag_k (a := a) (text := n) (age := age) (i := c + 1) (n := a (5500 + 840 * n)) (by omega) (by omega) (by omega)
            rw [hk, hs, if_neg (by omega)] at t
            exact t
      · exact ih (by rw [hs, if_neg (fun h => e2 ((srt7 jc.1 (by omega)).mpr h.1))]; omega)
  exact key 0 (by omega) (by omega) (by show (-1 : Int) < 0; omega)
set_option maxRecDepth 20000 in
theorem un_16_0 {d : Nat} {S : zS} {σ τ : zI} {Q : zQ} {x1 : Int} {x2 : Int} (t : (rg (60 - x1)) ∧ Q (some (.int (wI (max (60 - x1) 0)))) S σ τ) : wi (d + 7) 16 0 [.null, .int (wI x1), .int (wI x2), .retAddr 0, .retAddr 0] [] S σ τ Q := by
  obtain ⟨r1, t⟩ := t
  refine i5n c_16_0 rfl (i40n c_16_1 (i1 c_16_4 (i3 c_16_6 rfl (i11 c_16_7 (i1 c_16_8 (i73 c_16_9 (Nat.le_of_ble_eq_true rfl) (by omega) r1 (by decide) ?_))))))
  exact i90 c_16_12 t
theorem qn_16 {d : Nat} {S : zS} {σ τ : zI} {Q : zQ} {br : Int} {age : Int} (p0 : 0 ≤ br ∧ br ≤ 40) (t : Q (some (.int (wI (max (60 - br) 0)))) S σ τ) : wc (d + 7) 16 [.null, .int (wI br), .int (wI age)] S σ τ Q := by
  exact wc_of mi_16 rfl (un_16_0 ⟨by omega, t⟩)
theorem r_most_b {a : Int → Int} {s mill week known : Int} (p2 : Jl a) (p3 : jv_T a) (hs : 8 ≤ s ∧ s ≤ 9) : 0 ≤ r_most a s mill week known ∧ r_most a s mill week known ≤ 20 := by
  have hC := lC p2
  unfold jv_C at hC
  have fb := r_fc_b (a := a) (sort := s) (mill := mill) (week := week) (known := known) (by omega)
  unfold r_most
  split
  · omega
  · next h =>
    have q := lF p2 _ (by omega) fb.2.1
    have jt := p3 (a (5012 + 8 * r_fc a s mill week known)) (by omega) (by omega)
    refine r_mx_b (by omega) (by omega) (fun c c0 c1 c2 => ?_)
    have := (jt.2 c c0 (by omega)).2.2.2.2
    omega
theorem r_hours_b {a : Int → Int} {age mill week known : Int} (p2 : Jl a) (p3 : jv_T a) : 0 ≤ r_hours a age mill week known ∧ r_hours a age mill week known ≤ 80 := by
  have hC := lC p2
  unfold jv_C at hC
  have fb := r_fc_b (a := a) (sort := 7) (mill := mill) (week := week) (known := known) (by omega)
  have m8 := r_most_b (s := 8) (mill := mill) (week := week) (known := known) p2 p3 (by omega)
  have m9 := r_most_b (s := 9) (mill := mill) (week := week) (known := known) p2 p3 (by omega)
  have bs : -1 ≤ r_ages a age mill week known ∧ r_ages a age mill week known ≤ 80 := by
    unfold r_ages
    split
    · omega
    · next h =>
      have q := lF p2 _ (by omega) fb.2.1
      have jt := p3 (a (5012 + 8 * r_fc a 7 mill week known)) (by omega) (by omega)
      exact r_ag_b (by omega) (fun c c0 c1 c2 => ((jt.2 c c0 (by omega)).2.2.2.1 c2).2.2)
  unfold r_hours
  split <;> split <;> omega
theorem r_hours_m {a : Int → Int} {age mill week known v : Int} (h : v = if r_ages a age mill week known < 0 then 0 else r_ages a age mill week known) : max (v - (r_most a 8 mill week known + r_most a 9 mill week known)) 0 = r_hours a age mill week known := by
  unfold r_hours
  rw [← h]
  split <;> omega
-- method 14: MillTown$Law.hoursAt(LMillTown$Town;IIII)I
theorem c_14_0 : pg_cd 14 0 = (5, 1, 0, 0, 0) := by decide +kernel
theorem c_14_1 : pg_cd 14 1 = (5, 1, 0, 1, 0) := by decide +kernel
theorem c_14_2 : pg_cd 14 2 = (1, 2, 0, 0, 7) := by decide +kernel
theorem c_14_4 : pg_cd 14 4 = (3, 1, 0, 3, 0) := by decide +kernel
theorem c_14_5 : pg_cd 14 5 = (3, 2, 0, 4, 0) := by decide +kernel
theorem c_14_7 : pg_cd 14 7 = (3, 2, 0, 5, 0) := by decide +kernel
theorem c_14_9 : pg_cd 14 9 = (80, 13, 59, 0, 0) := by decide +kernel
theorem c_14_12 : pg_cd 14 12 = (8, 2, 0, 6, 0) := by decide +kernel
theorem c_14_14 : pg_cd 14 14 = (5, 2, 0, 6, 0) := by decide +kernel
theorem c_14_16 : pg_cd 14 16 = (5, 1, 0, 0, 0) := by decide +kernel
theorem c_14_17 : pg_cd 14 17 = (5, 1, 0, 1, 0) := by decide +kernel
theorem c_14_18 : pg_cd 14 18 = (3, 1, 0, 3, 0) := by decide +kernel
theorem c_14_19 : pg_cd 14 19 = (3, 2, 0, 4, 0) := by decide +kernel
theorem c_14_21 : pg_cd 14 21 = (3, 2, 0, 5, 0) := by decide +kernel
theorem c_14_23 : pg_cd 14 23 = (80, 15, 63, 0, 0) := by decide +kernel
theorem c_14_26 : pg_cd 14 26 = (3, 1, 0, 2, 0) := by decide +kernel
theorem c_14_27 : pg_cd 14 27 = (81, 16, 67, 0, 0) := by decide +kernel
theorem c_14_30 : pg_cd 14 30 = (90, 0, 0, 0, 0) := by decide +kernel
theorem mi_14 : pg_mc 14 = 1 ∧ pg_na 14 = 5 ∧ pg_mx 14 = 7 := by decide +kernel
set_option maxRecDepth 20000 in
theorem u_14_0 {d : Nat} {S : zS} {σ τ : zI} {Q : zQ} {x1 : Nat} {x2 : Int} {x3 : Int} {x4 : Int} {x5 : Int} (hx1 : tw x1) (t : ∃ a1 : Int → Int, ∃ sort2 : Int, (RT σ x1 a1) ∧ (RX S σ a1) ∧ (Jl a1) ∧ (jv_T a1) ∧ ((sort2 = (1 : Int) ∧ 7 = (3 : Int)) ∨ ((6 : Int) ≤ sort2 ∧ sort2 ≤ 9 ∧ 7 = sort2)) ∧ (rg x3) ∧ (rg x4) ∧ (rg x5) ∧ ((r_fc a1 sort2 x3 x4 x5 < 0 → ∃ a16 : Int → Int, (RT σ x1 a16) ∧ (RX S σ a16) ∧ (Jl a16) ∧ (jv_T a16) ∧ (0 ≤ (r_most a16 8 x3 x4 x5 + r_most a16 9 x3 x4 x5) ∧ (r_most a16 8 x3 x4 x5 + r_most a16 9 x3 x4 x5) ≤ 40) ∧ Q (some (.int (wI (max (60 - (r_most a16 8 x3 x4 x5 + r_most a16 9 x3 x4 x5)) 0)))) S σ τ) ∧ ∀ j11 : Nat, oT S j11 → 0 ≤ r_fc a1 sort2 x3 x4 x5 → TX σ j11 a1 (a1 (5012 + 8 * r_fc a1 sort2 x3 x4 x5)) → ∃ a22 : Int → Int, (RT σ x1 a22) ∧ (RX S σ a22) ∧ (Jl a22) ∧ (jv_T a22) ∧ ∃ a27 : Int → Int, ∃ n28 : Int, (TX σ j11 a27 n28) ∧ (jv_T a27) ∧ (0 ≤ n28 ∧ n28 < a27 5) ∧ (0 ≤ (r_most a22 8 x3 x4 x5 + r_most a22 9 x3 x4 x5) ∧ (r_most a22 8 x3 x4 x5 + r_most a22 9 x3 x4 x5) ≤ 40) ∧ (rg x2) ∧ Q (some (.int (wI (max ((if r_ag a27 n28 x2 (a27 (5500 + 840 * n28)) < 0 then 0 else r_ag a27 n28 x2 (a27 (5500 + 840 * n28))) - (r_most a22 8 x3 x4 x5 + r_most a22 9 x3 x4 x5)) 0)))) S σ τ)) : wi (d + 9) 14 0 [.ref 54, .ref x1, .int (wI x2), .int (wI x3), .int (wI x4), .int (wI x5), .retAddr 0] [] S σ τ Q := by
  obtain ⟨a1, t⟩ := t
  obtain ⟨sort2, t⟩ := t
  obtain ⟨p3, t⟩ := t
  obtain ⟨p4, t⟩ := t
  obtain ⟨p5, t⟩ := t
  obtain ⟨p6, t⟩ := t
  obtain ⟨p7, t⟩ := t
  obtain ⟨r8, t⟩ := t
  obtain ⟨r9, t⟩ := t
  obtain ⟨r10, t⟩ := t
  refine i5 c_14_0 rfl (i5 c_14_1 rfl (i1 c_14_2 (i3 c_14_4 rfl (i3 c_14_5 rfl (i3 c_14_7 rfl ?_)))))
  refine i80 (As := [.ref x1, .int (wI 7), .int (wI x3), .int (wI x4), .int (wI x5)]) (rest := []) c_14_9 mi_13 rfl rfl (Nat.le_of_ble_eq_true rfl) (Nat.le_of_ble_eq_true rfl) (lo (c := 54) (kd := 101) (n := 0) rfl (by decide)) (q_13 (a := a1) (sort := sort2) hx1 p3 p4 p5 p6 p7 r8 r9 r10 (fun hn12 => ?_) (fun j11 q13 q14 q15 => ?_))
  · have t := t.1 hn12
    show wi (d + 9) 14 12 [.ref 54, .ref x1, .int (wI x2), .int (wI x3), .int (wI x4), .int (wI x5), .retAddr 0] [.null] S σ τ Q
    obtain ⟨a16, t⟩ := t
    obtain ⟨p17, t⟩ := t
    obtain ⟨p18, t⟩ := t
    obtain ⟨p19, t⟩ := t
    obtain ⟨p20, t⟩ := t
    refine i8n (L' := [.ref 54, .ref x1, .int (wI x2), .int (wI x3), .int (wI x4), .int (wI x5), .null]) c_14_12 rfl (i5n c_14_14 rfl (i5 c_14_16 rfl (i5 c_14_17 rfl (i3 c_14_18 rfl (i3 c_14_19 rfl (i3 c_14_21 rfl ?_))))))
    refine i80 (As := [.ref x1, .int (wI x3), .int (wI x4), .int (wI x5)]) (rest := [.null]) c_14_23 mi_15 rfl rfl (Nat.le_of_ble_eq_true rfl) (Nat.le_of_ble_eq_true rfl) (lo (c := 54) (kd := 101) (n := 0) rfl (by decide)) (q_15 (a := a16) hx1 p17 p18 p19 p20 r8 r9 r10 ?_)
    show wi (d + 9) 14 26 [.ref 54, .ref x1, .int (wI x2), .int (wI x3), .int (wI x4), .int (wI x5), .null] [.int (wI (r_most a16 8 x3 x4 x5 + r_most a16 9 x3 x4 x5)), .null] S σ τ Q
    obtain ⟨p21, t⟩ := t
    refine i3 c_14_26 rfl ?_
    refine i81 (As := [.null, .int (wI (r_most a16 8 x3 x4 x5 + r_most a16 9 x3 x4 x5)), .int (wI x2)]) (rest := []) c_14_27 mi_16 rfl rfl (Nat.le_of_ble_eq_true rfl) (Nat.le_of_ble_eq_true rfl) (qn_16 p21 ?_)
    show wi (d + 9) 14 30 [.ref 54, .ref x1, .int (wI x2), .int (wI x3), .int (wI x4), .int (wI x5), .null] [.int (wI (max (60 - (r_most a16 8 x3 x4 x5 + r_most a16 9 x3 x4 x5)) 0))] S σ τ Q
    exact i90 c_14_30 t
  · have t := t.2 j11 q13 q14 q15
    have hj11 := q13
    show wi (d + 9) 14 12 [.ref 54, .ref x1, .int (wI x2), .int (wI x3), .int (wI x4), .int (wI x5), .retAddr 0] [.ref j11] S σ τ Q
    obtain ⟨a22, t⟩ := t
    obtain ⟨p23, t⟩ := t
    obtain ⟨p24, t⟩ := t
    obtain ⟨p25, t⟩ := t
    obtain ⟨p26, t⟩ := t
    refine i8 (L' := [.ref 54, .ref x1, .int (wI x2), .int (wI x3), .int (wI x4), .int (wI x5), .ref j11]) c_14_12 rfl (i5 c_14_14 rfl (i5 c_14_16 rfl (i5 c_14_17 rfl (i3 c_14_18 rfl (i3 c_14_19 rfl (i3 c_14_21 rfl ?_))))))
    refine i80 (As := [.ref x1, .int (wI x3), .int (wI x4), .int (wI x5)]) (rest := [.ref j11]) c_14_23 mi_15 rfl rfl (Nat.le_of_ble_eq_true rfl) (Nat.le_of_ble_eq_true rfl) (lo (c := 54) (kd := 101) (n := 0) rfl (by decide)) (q_15 (a := a22) hx1 p23 p24 p25 p26 r8 r9 r10 ?_)
    show wi (d + 9) 14 26 [.ref 54, .ref x1, .int (wI x2), .int (wI x3), .int (wI x4), .int (wI x5), .ref j11] [.int (wI (r_most a22 8 x3 x4 x5 + r_most a22 9 x3 x4 x5)), .ref j11] S σ τ Q
    obtain ⟨a27, t⟩ := t
    obtain ⟨n28, t⟩ := t
    obtain ⟨p29, t⟩ := t
    obtain ⟨p30, t⟩ := t
    obtain ⟨p31, t⟩ := t
    obtain ⟨p32, t⟩ := t
    obtain ⟨r33, t⟩ := t
    refine i3 c_14_26 rfl ?_
    refine i81 (As := [.ref j11, .int (wI (r_most a22 8 x3 x4 x5 + r_most a22 9 x3 x4 x5)), .int (wI x2)]) (rest := []) c_14_27 mi_16 rfl rfl (Nat.le_of_ble_eq_true rfl) (Nat.le_of_ble_eq_true rfl) (q_16 (a := a27) (n := n28) hj11 p29 p30 p31 p32 r33 ?_)
    show wi (d + 9) 14 30 [.ref 54, .ref x1, .int (wI x2), .int (wI x3), .int (wI x4), .int (wI x5), .ref j11] [.int (wI (max ((if r_ag a27 n28 x2 (a27 (5500 + 840 * n28)) < 0 then 0 else r_ag a27 n28 x2 (a27 (5500 + 840 * n28))) - (r_most a22 8 x3 x4 x5 + r_most a22 9 x3 x4 x5)) 0))] S σ τ Q
    exact i90 c_14_30 t
theorem q_14 {d : Nat} {S : zS} {σ τ : zI} {Q : zQ} {tn : Nat} {age : Int} {mill : Int} {week : Int} {known : Int} {a : Int → Int} (htn : tw tn) (p0 : RT σ tn a) (p1 : RX S σ a) (p2 : Jl a) (p3 : jv_T a) (p4 : rg age) (p5 : rg mill) (p6 : rg week) (p7 : rg known) (t : Q (some (.int (wI (r_hours a age mill week known)))) S σ τ) : wc (d + 9) 14 [.ref 54, .ref tn, .int (wI age), .int (wI mill), .int (wI week), .int (wI known)] S σ τ Q := by
  have hC := lC p2
  unfold jv_C at hC
  have fb := r_fc_b (a := a) (sort := 7) (mill := mill) (week := week) (known := known) (by omega)
  have m8 := r_most_b (s := 8) (mill := mill) (week := week) (known := known) p2 p3 (by omega)
  have m9 := r_most_b (s := 9) (mill := mill) (week := week) (known := known) p2 p3 (by omega)
  refine wc_of mi_14 rfl (u_14_0 htn ⟨a, 7, p0, p1, p2, p3, by omega, p5, p6, p7, fun e => ?_, fun j oj e tx => ?_⟩)
  · refine ⟨a, p0, p1, p2, p3, by omega, ?_⟩
    rw [r_hours_m (age := age) (by unfold r_ages; rw [if_pos e]; rfl)]
    exact t
  · have q := lF p2 _ e fb.2.1
    refine ⟨a, p0, p1, p2, p3, a, _, tx, p3, q.1, by omega, p4, ?_⟩
    rw [r_hours_m (age := age) (by unfold r_ages; rw [if_neg (by omega : ¬ r_fc a 7 mill week known < 0)])]
    exact t
-- method 272: MillTownModel.isAsked(II)Z
theorem c_272_0 : pg_cd 272 0 = (3, 1, 0, 0, 0) := by decide +kernel
theorem c_272_1 : pg_cd 272 1 = (81, 205, 89, 0, 0) := by decide +kernel
theorem c_272_4 : pg_cd 272 4 = (36, 3, 0, 0, 14) := by decide +kernel
theorem c_272_7 : pg_cd 272 7 = (3, 1, 0, 1, 0) := by decide +kernel
theorem c_272_8 : pg_cd 272 8 = (81, 205, 89, 0, 0) := by decide +kernel
theorem c_272_11 : pg_cd 272 11 = (36, 3, 0, 0, 7) := by decide +kernel
theorem c_272_14 : pg_cd 272 14 = (1, 1, 0, 0, 1) := by decide +kernel
theorem c_272_15 : pg_cd 272 15 = (38, 3, 0, 0, 4) := by decide +kernel
theorem c_272_18 : pg_cd 272 18 = (1, 1, 0, 0, 0) := by decide +kernel
theorem c_272_19 : pg_cd 272 19 = (91, 0, 0, 0, 0) := by decide +kernel
theorem mi_272 : pg_mc 272 = 12 ∧ pg_na 272 = 2 ∧ pg_mx 272 = 2 := by decide +kernel
set_option maxRecDepth 20000 in
theorem u_272_0 {d : Nat} {S : zS} {σ τ : zI} {Q : zQ} {x0 : Int} {x1 : Int} (t : (rg x0) ∧ if 0 ≤ x0 ∧ x0 ≤ 399 then ((rg x1) ∧ if 0 ≤ x1 ∧ x1 ≤ 399 then (Q (some (.int (wI 1))) S σ τ) else (Q (some (.int (wI 0))) S σ τ)) else (Q (some (.int (wI 0))) S σ τ)) : wi (d + 2) 272 0 [.int (wI x0), .int (wI x1)] [] S σ τ Q := by
  obtain ⟨r1, t⟩ := t
  refine i3 c_272_0 rfl ?_
  refine i81 (As := [.int (wI x0)]) (rest := []) c_272_1 mi_205 rfl rfl (Nat.le_of_ble_eq_true rfl) (Nat.le_of_ble_eq_true rfl) (q_205 r1 ?_)
  show wi (d + 2) 272 4 [.int (wI x0), .int (wI x1)] [.int (wI (if 0 ≤ x0 ∧ x0 ≤ 399 then 1 else 0))] S σ τ Q
  refine i36e c_272_4 rfl (fun hc => ?_) (fun hc => ?_)
  · have t := iT t hc
    have ha2 : 0 ≤ x0 ∧ x0 ≤ 399 := hc
    obtain ⟨r3, t⟩ := t
    refine i3 c_272_7 rfl ?_
    refine i81 (As := [.int (wI x1)]) (rest := []) c_272_8 mi_205 rfl rfl (Nat.le_of_ble_eq_true rfl) (Nat.le_of_ble_eq_true rfl) (q_205 r3 ?_)
    show wi (d + 2) 272 11 [.int (wI x0), .int (wI x1)] [.int (wI (if 0 ≤ x1 ∧ x1 ≤ 399 then 1 else 0))] S σ τ Q
    refine i36e c_272_11 rfl (fun hc => ?_) (fun hc => ?_)
    · have t := iT t hc
      have ha4 : 0 ≤ x1 ∧ x1 ≤ 399 := hc
      refine i1 c_272_14 (i38 c_272_15 rfl ?_)
      exact i91 c_272_19 (by decide) t
    · have t := iF t hc
      have ha4 : ¬ (0 ≤ x1 ∧ x1 ≤ 399) := hc
      refine i1 c_272_18 ?_
      exact i91 c_272_19 (by decide) t
  · have t := iF t hc
    have ha2 : ¬ (0 ≤ x0 ∧ x0 ≤ 399) := hc
    refine i1 c_272_18 ?_
    exact i91 c_272_19 (by decide) t
theorem q_272 {d : Nat} {S : zS} {σ τ : zI} {Q : zQ} {week : Int} {known : Int} (p0 : rg week) (p1 : rg known) (t : Q (some (.int (wI (if (0 ≤ week ∧ week ≤ 399) ∧ (0 ≤ known ∧ known ≤ 399) then 1 else 0)))) S σ τ) : wc (d + 2) 272 [.int (wI week), .int (wI known)] S σ τ Q := by
  refine wc_of mi_272 rfl (u_272_0 ⟨p0, ?_⟩)
  repeat' (first | (first | (rw [if_pos (by omega)] at t; exact t) | (rw [if_neg (by omega)] at t; exact t)) | refine ⟨p1, ?_⟩ | refine ifI (fun _ => ?_) (fun _ => ?_))
-- method 277: MillTownModel.hours(IIII)I
theorem c_277_0 : pg_cd 277 0 = (3, 1, 0, 1, 0) := by decide +kernel
theorem c_277_1 : pg_cd 277 1 = (1, 1, 0, 0, 0) := by decide +kernel
theorem c_277_2 : pg_cd 277 2 = (1, 2, 0, 0, 99) := by decide +kernel
theorem c_277_4 : pg_cd 277 4 = (81, 196, 76, 0, 0) := by decide +kernel
theorem c_277_7 : pg_cd 277 7 = (36, 3, 0, 0, 32) := by decide +kernel
theorem c_277_10 : pg_cd 277 10 = (5, 1, 0, 0, 0) := by decide +kernel
theorem c_277_11 : pg_cd 277 11 = (3, 1, 0, 2, 0) := by decide +kernel
theorem c_277_12 : pg_cd 277 12 = (80, 201, 115, 0, 0) := by decide +kernel
theorem c_277_15 : pg_cd 277 15 = (36, 3, 0, 0, 24) := by decide +kernel
theorem c_277_18 : pg_cd 277 18 = (3, 1, 0, 3, 0) := by decide +kernel
theorem c_277_19 : pg_cd 277 19 = (3, 2, 0, 4, 0) := by decide +kernel
theorem c_277_21 : pg_cd 277 21 = (81, 272, 334, 0, 0) := by decide +kernel
theorem c_277_24 : pg_cd 277 24 = (36, 3, 0, 0, 15) := by decide +kernel
theorem c_277_27 : pg_cd 277 27 = (5, 1, 0, 0, 0) := by decide +kernel
theorem c_277_28 : pg_cd 277 28 = (3, 1, 0, 1, 0) := by decide +kernel
theorem c_277_29 : pg_cd 277 29 = (3, 1, 0, 2, 0) := by decide +kernel
theorem c_277_30 : pg_cd 277 30 = (3, 1, 0, 3, 0) := by decide +kernel
theorem c_277_31 : pg_cd 277 31 = (3, 2, 0, 4, 0) := by decide +kernel
theorem c_277_33 : pg_cd 277 33 = (80, 276, 343, 0, 0) := by decide +kernel
theorem c_277_36 : pg_cd 277 36 = (38, 3, 0, 0, 4) := by decide +kernel
theorem c_277_39 : pg_cd 277 39 = (1, 1, 0, 0, (-1)) := by decide +kernel
theorem c_277_40 : pg_cd 277 40 = (90, 0, 0, 0, 0) := by decide +kernel
theorem mi_277 : pg_mc 277 = 12 ∧ pg_na 277 = 4 ∧ pg_mx 277 = 5 := by decide +kernel
set_option maxRecDepth 20000 in
theorem u_277_0 {d : Nat} {S : zS} {σ τ : zI} {Q : zQ} {x1 : Int} {x2 : Int} {x3 : Int} {x4 : Int} (t : (rg x1) ∧ if 0 ≤ x1 ∧ x1 ≤ 99 then ((rg x2) ∧ (0 ≤ σ 84 1) ∧ if 0 ≤ x2 ∧ x2 < σ 84 1 then ((rg x3) ∧ (rg x4) ∧ if (0 ≤ x3 ∧ x3 ≤ 399) ∧ (0 ≤ x4 ∧ x4 ≤ 399) then ((Jl (σ 84)) ∧ (jv_T (σ 84)) ∧ ∀ (v11 : Int), v11 = r_hours (σ 84) x1 x2 x3 x4 → 0 ≤ v11 ∧ v11 ≤ 80 → Q (some (.int (wI v11))) S σ τ) else (Q (some (.int (wI (-1)))) S σ τ)) else (Q (some (.int (wI (-1)))) S σ τ)) else (Q (some (.int (wI (-1)))) S σ τ)) : wi (d + 7) 277 0 [.ref 83, .int (wI x1), .int (wI x2), .int (wI x3), .int (wI x4)] [] S σ τ Q := by
  obtain ⟨r1, t⟩ := t
  refine i3 c_277_0 rfl (i1 c_277_1 (i1 c_277_2 ?_))
  refine i81 (As := [.int (wI x1), .int (wI 0), .int (wI 99)]) (rest := []) c_277_4 mi_196 rfl rfl (Nat.le_of_ble_eq_true rfl) (Nat.le_of_ble_eq_true rfl) (q_196 r1 (by decide) (by decide) ?_)
  show wi (d + 7) 277 7 [.ref 83, .int (wI x1), .int (wI x2), .int (wI x3), .int (wI x4)] [.int (wI (if 0 ≤ x1 ∧ x1 ≤ 99 then 1 else 0))] S σ τ Q
  refine i36e c_277_7 rfl (fun hc => ?_) (fun hc => ?_)
  · have t := iT t hc
    have ha2 : 0 ≤ x1 ∧ x1 ≤ 99 := hc
    obtain ⟨r3, t⟩ := t
    obtain ⟨p4, t⟩ := t
    refine i5 c_277_10 rfl (i3 c_277_11 rfl ?_)
    refine i80 (As := [.int (wI x2)]) (rest := []) c_277_12 mi_201 rfl rfl (Nat.le_of_ble_eq_true rfl) (Nat.le_of_ble_eq_true rfl) (lo (c := 83) (kd := 112) (n := 0) rfl (by decide)) (q_201 r3 p4 ?_)
    show wi (d + 7) 277 15 [.ref 83, .int (wI x1), .int (wI x2), .int (wI x3), .int (wI x4)] [.int (wI (if 0 ≤ x2 ∧ x2 < σ 84 1 then 1 else 0))] S σ τ Q
    refine i36e c_277_15 rfl (fun hc => ?_) (fun hc => ?_)
    · have t := iT t hc
      have ha5 : 0 ≤ x2 ∧ x2 < σ 84 1 := hc
      obtain ⟨r6, t⟩ := t
      obtain ⟨r7, t⟩ := t
      refine i3 c_277_18 rfl (i3 c_277_19 rfl ?_)
      refine i81 (As := [.int (wI x3), .int (wI x4)]) (rest := []) c_277_21 mi_272 rfl rfl (Nat.le_of_ble_eq_true rfl) (Nat.le_of_ble_eq_true rfl) (q_272 r6 r7 ?_)
      show wi (d + 7) 277 24 [.ref 83, .int (wI x1), .int (wI x2), .int (wI x3), .int (wI x4)] [.int (wI (if (0 ≤ x3 ∧ x3 ≤ 399) ∧ (0 ≤ x4 ∧ x4 ≤ 399) then 1 else 0))] S σ τ Q
      refine i36e c_277_24 rfl (fun hc => ?_) (fun hc => ?_)
      · have t := iT t hc
        have ha8 : (0 ≤ x3 ∧ x3 ≤ 399) ∧ (0 ≤ x4 ∧ x4 ≤ 399) := hc
        obtain ⟨p9, t⟩ := t
        obtain ⟨p10, t⟩ := t
        refine i5 c_277_27 rfl (i3 c_277_28 rfl (i3 c_277_29 rfl (i3 c_277_30 rfl (i3 c_277_31 rfl ?_))))
        refine i80 (As := [.int (wI x1), .int (wI x2), .int (wI x3), .int (wI x4)]) (rest := []) c_277_33 mi_276 rfl rfl (Nat.le_of_ble_eq_true rfl) (Nat.le_of_ble_eq_true rfl) (lo (c := 83) (kd := 112) (n := 0) rfl (by decide)) (q_276 p9 p10 r1 r3 r6 r7 (fun v11 q12 q13 => ?_))
        have t := t v11 q12 q13
        show wi (d + 7) 277 36 [.ref 83, .int (wI x1), .int (wI x2), .int (wI x3), .int (wI x4)] [.int (wI v11)] S σ τ Q
        refine i38 c_277_36 rfl ?_
        exact i90 c_277_40 t
      · have t := iF t hc
        have ha8 : ¬ ((0 ≤ x3 ∧ x3 ≤ 399) ∧ (0 ≤ x4 ∧ x4 ≤ 399)) := hc
        refine i1 c_277_39 ?_
        exact i90 c_277_40 t
    · have t := iF t hc
      have ha5 : ¬ (0 ≤ x2 ∧ x2 < σ 84 1) := hc
      refine i1 c_277_39 ?_
      exact i90 c_277_40 t
  · have t := iF t hc
    have ha2 : ¬ (0 ≤ x1 ∧ x1 ≤ 99) := hc
    refine i1 c_277_39 ?_
    exact i90 c_277_40 t
theorem q_277 {d : Nat} {S : zS} {σ τ : zI} {Q : zQ} {age : Int} {mill : Int} {week : Int} {known : Int} (p0 : Jl (σ 84)) (p1 : jv_T (σ 84)) (p2 : rg age) (p3 : rg mill) (p4 : rg week) (p5 : rg known) (t : Q (some (.int (wI (if (0 ≤ age ∧ age ≤ 99) ∧ (0 ≤ mill ∧ mill < σ 84 1) ∧ (0 ≤ week ∧ week ≤ 399) ∧ (0 ≤ known ∧ known ≤ 399) then r_hours (σ 84) age mill week known else -1)))) S σ τ) : wc (d + 7) 277 [.ref 83, .int (wI age), .int (wI mill), .int (wI week), .int (wI known)] S σ τ Q := by
  have hC := lC p0
  unfold jv_C at hC
  refine wc_of mi_277 rfl (u_277_0 ?_)
  repeat' (first | (first | (rw [if_pos (by omega)] at t; exact t) | (rw [if_neg (by omega)] at t; exact t)) | (refine ⟨p0, p1, ?_⟩; intro v e _; subst e) | refine ⟨p2, ?_⟩ | refine ⟨p3, by omega, ?_⟩ | refine ⟨p4, p5, ?_⟩ | refine ifI (fun _ => ?_) (fun _ => ?_))
-- method 165: MillTown.hours(IIII)I
theorem c_165_0 : pg_cd 165 0 = (3, 1, 0, 1, 0) := by decide +kernel
theorem c_165_1 : pg_cd 165 1 = (1, 1, 0, 0, 0) := by decide +kernel
theorem c_165_2 : pg_cd 165 2 = (1, 2, 0, 0, 99) := by decide +kernel
theorem c_165_4 : pg_cd 165 4 = (81, 141, 85, 0, 0) := by decide +kernel
theorem c_165_7 : pg_cd 165 7 = (36, 3, 0, 0, 14) := by decide +kernel
theorem c_165_10 : pg_cd 165 10 = (5, 1, 0, 0, 0) := by decide +kernel
theorem c_165_11 : pg_cd 165 11 = (3, 1, 0, 2, 0) := by decide +kernel
theorem c_165_12 : pg_cd 165 12 = (3, 1, 0, 3, 0) := by decide +kernel
theorem c_165_13 : pg_cd 165 13 = (3, 2, 0, 4, 0) := by decide +kernel
theorem c_165_15 : pg_cd 165 15 = (80, 162, 205, 0, 0) := by decide +kernel
theorem c_165_18 : pg_cd 165 18 = (36, 3, 0, 1, 5) := by decide +kernel
theorem c_165_21 : pg_cd 165 21 = (1, 1, 0, 0, (-1)) := by decide +kernel
theorem c_165_22 : pg_cd 165 22 = (90, 0, 0, 0, 0) := by decide +kernel
theorem c_165_23 : pg_cd 165 23 = (5, 1, 0, 0, 0) := by decide +kernel
theorem c_165_24 : pg_cd 165 24 = (45, 11, 33, 4, 0) := by decide +kernel
theorem c_165_27 : pg_cd 165 27 = (5, 1, 0, 0, 0) := by decide +kernel
theorem c_165_28 : pg_cd 165 28 = (45, 11, 12, 0, 0) := by decide +kernel
theorem c_165_31 : pg_cd 165 31 = (3, 1, 0, 1, 0) := by decide +kernel
theorem c_165_32 : pg_cd 165 32 = (3, 1, 0, 2, 0) := by decide +kernel
theorem c_165_33 : pg_cd 165 33 = (3, 1, 0, 3, 0) := by decide +kernel
theorem c_165_34 : pg_cd 165 34 = (3, 2, 0, 4, 0) := by decide +kernel
theorem c_165_36 : pg_cd 165 36 = (80, 14, 218, 0, 0) := by decide +kernel
theorem c_165_39 : pg_cd 165 39 = (90, 0, 0, 0, 0) := by decide +kernel
theorem mi_165 : pg_mc 165 = 11 ∧ pg_na 165 = 4 ∧ pg_mx 165 = 5 := by decide +kernel
set_option maxRecDepth 20000 in
theorem u_165_0 {d : Nat} {S : zS} {σ τ : zI} {Q : zQ} {x1 : Int} {x2 : Int} {x3 : Int} {x4 : Int} (t : (rg x1) ∧ if 0 ≤ x1 ∧ x1 ≤ 99 then ((rg x2) ∧ (rg x3) ∧ (rg x4) ∧ if (0 ≤ x2 ∧ x2 < σ 7 2) ∧ (0 ≤ x3 ∧ x3 ≤ 399) ∧ (0 ≤ x4 ∧ x4 ≤ 399) then (∃ a7 : Int → Int, (RT σ 2 a7) ∧ (RX S σ a7) ∧ (Jl a7) ∧ (jv_T a7) ∧ Q (some (.int (wI (r_hours a7 x1 x2 x3 x4)))) S σ τ) else (Q (some (.int (wI (-1)))) S σ τ)) else (Q (some (.int (wI (-1)))) S σ τ)) : wi (d + 12) 165 0 [.ref 1, .int (wI x1), .int (wI x2), .int (wI x3), .int (wI x4)] [] S σ τ Q := by
  obtain ⟨r1, t⟩ := t
  refine i3 c_165_0 rfl (i1 c_165_1 (i1 c_165_2 ?_))
  refine i81 (As := [.int (wI x1), .int (wI 0), .int (wI 99)]) (rest := []) c_165_4 mi_141 rfl rfl (Nat.le_of_ble_eq_true rfl) (Nat.le_of_ble_eq_true rfl) (q_141 r1 (by decide) (by decide) ?_)
  show wi (d + 12) 165 7 [.ref 1, .int (wI x1), .int (wI x2), .int (wI x3), .int (wI x4)] [.int (wI (if 0 ≤ x1 ∧ x1 ≤ 99 then 1 else 0))] S σ τ Q
  refine i36e c_165_7 rfl (fun hc => ?_) (fun hc => ?_)
  · have t := iT t hc
    have ha2 : 0 ≤ x1 ∧ x1 ≤ 99 := hc
    obtain ⟨r3, t⟩ := t
    obtain ⟨r4, t⟩ := t
    obtain ⟨r5, t⟩ := t
    refine i5 c_165_10 rfl (i3 c_165_11 rfl (i3 c_165_12 rfl (i3 c_165_13 rfl ?_)))
    refine i80 (As := [.int (wI x2), .int (wI x3), .int (wI x4)]) (rest := []) c_165_15 mi_162 rfl rfl (Nat.le_of_ble_eq_true rfl) (Nat.le_of_ble_eq_true rfl) (lo (c := 1) (kd := 111) (n := 0) rfl (by decide)) (q_162 r3 r4 r5 ?_)
    show wi (d + 12) 165 18 [.ref 1, .int (wI x1), .int (wI x2), .int (wI x3), .int (wI x4)] [.int (wI (if (0 ≤ x2 ∧ x2 < σ 7 2) ∧ (0 ≤ x3 ∧ x3 ≤ 399) ∧ (0 ≤ x4 ∧ x4 ≤ 399) then 1 else 0))] S σ τ Q
    refine i36f c_165_18 rfl (fun hc => ?_) (fun hc => ?_)
    · have t := iT t hc
      have ha6 : (0 ≤ x2 ∧ x2 < σ 7 2) ∧ (0 ≤ x3 ∧ x3 ≤ 399) ∧ (0 ≤ x4 ∧ x4 ≤ 399) := hc
      obtain ⟨a7, t⟩ := t
      obtain ⟨p8, t⟩ := t
      obtain ⟨p9, t⟩ := t
      obtain ⟨p10, t⟩ := t
      obtain ⟨p11, t⟩ := t
      refine i5 c_165_23 rfl (i45 c_165_24 (lo (c := 1) (kd := 111) (n := 0) rfl (by decide)) (lro (c := 1) (k := 4) (j := 54) (by decide)) (i5 c_165_27 rfl (i45 c_165_28 (lo (c := 1) (kd := 111) (n := 0) rfl (by decide)) (lro (c := 1) (k := 0) (j := 2) (by decide)) (i3 c_165_31 rfl (i3 c_165_32 rfl (i3 c_165_33 rfl (i3 c_165_34 rfl ?_)))))))
      refine i80 (As := [.ref 2, .int (wI x1), .int (wI x2), .int (wI x3), .int (wI x4)]) (rest := []) c_165_36 mi_14 rfl rfl (Nat.le_of_ble_eq_true rfl) (Nat.le_of_ble_eq_true rfl) (lo (c := 54) (kd := 101) (n := 0) rfl (by decide)) (q_14 (a := a7) tw_2 p8 p9 p10 p11 r1 r3 r4 r5 ?_)
      show wi (d + 12) 165 39 [.ref 1, .int (wI x1), .int (wI x2), .int (wI x3), .int (wI x4)] [.int (wI (r_hours a7 x1 x2 x3 x4))] S σ τ Q
      exact i90 c_165_39 t
    · have t := iF t hc
      have ha6 : ¬ ((0 ≤ x2 ∧ x2 < σ 7 2) ∧ (0 ≤ x3 ∧ x3 ≤ 399) ∧ (0 ≤ x4 ∧ x4 ≤ 399)) := hc
      refine i1 c_165_21 ?_
      exact i90 c_165_22 t
  · have t := iF t hc
    have ha2 : ¬ (0 ≤ x1 ∧ x1 ≤ 99) := hc
    refine i1 c_165_21 ?_
    exact i90 c_165_22 t
theorem q_165 {d : Nat} {S : zS} {σ τ : zI} {Q : zQ} {age : Int} {mill : Int} {week : Int} {known : Int} {a : Int → Int} (p0 : RT σ 2 a) (p1 : RX S σ a) (p2 : Jl a) (p3 : jv_T a) (p4 : rg age) (p5 : rg mill) (p6 : rg week) (p7 : rg known) (t : Q (some (.int (wI (if (0 ≤ age ∧ age ≤ 99) ∧ (0 ≤ mill ∧ mill < a 1) ∧ (0 ≤ week ∧ week ≤ 399) ∧ (0 ≤ known ∧ known ≤ 399) then r_hours a age mill week known else -1)))) S σ τ) : wc (d + 12) 165 [.ref 1, .int (wI age), .int (wI mill), .int (wI week), .int (wI known)] S σ τ Q := by
  have c1 := cM p0
  refine wc_of mi_165 rfl (u_165_0 ?_)
  rw [c1]
  repeat' (first | (first | (rw [if_pos (by omega)] at t; exact t) | (rw [if_neg (by omega)] at t; exact t)) | refine ⟨a, p0, p1, p2, p3, ?_⟩ | refine ⟨p4, ?_⟩ | refine ⟨p5, p6, p7, ?_⟩ | refine ifI (fun _ => ?_) (fun _ => ?_))
