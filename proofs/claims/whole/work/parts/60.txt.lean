/-! ===== TEXTS: how the class shows what the reference holds; HOURS of the class (segments printed by wip/whole, contracts own work) ===== -/
theorem rt8 {cnt : Int} {f : Int → Int} {k row : Int} (h : 0 ≤ row ∧ row < cnt) : rt_ cnt f 8 k row = f (row * 8 + k) := rt_p h
theorem isR_hi {r : Nat} (h : 100 ≤ r) : isR r = false := by
  cases e : isR r
  · rfl
  · unfold isR at e
    have e := of_decide_eq_true e
    simp only [List.mem_cons, List.not_mem_nil, or_false] at e
    omega
/-- a sort of CLAUSES in the class's numbers -/
def srt (s : Int) : Int := if s = 1 then 3 else if s ≤ 3 then 4 else if s ≤ 5 then 5 else s
/-- a step in the class's numbers -/
def stE (o v : Int) : Int := if o = 0 then 20000 + v else if o = 1 then (16 + v) * 10000 else if o = 2 then 370000 else if o = 3 then 290000 else if o = 4 then 300000 else if o = 5 then 310000 else if o = 6 then 320000 else if o = 7 then 210000 else if o = 8 then 220000 else if o ≤ 15 then (13 + o) * 10000 else if o = 20 then 160000 else if o = 21 then 150000 else 140000
/-- one CLAUSE: the class's row f at 8 * c, the reference's C -/
def TC (f : Int → Int) (c : Int) (a : Int → Int) (C : Int) : Prop := f (c * 8 + 0) = srt (a C) ∧ (a C = 7 → f (c * 8 + 1) = a (C + 1) ∧ f (c * 8 + 2) = a (C + 2) ∧ f (c * 8 + 3) = a (C + 3)) ∧ (a C = 2 ∨ a C = 3 ∨ a C = 6 ∨ a C = 8 ∨ a C = 9 → f (c * 8 + 1) = a (C + 1)) ∧ (a C ≤ 5 → f (c * 8 + 4) = (if a C = 3 ∨ a C = 5 then 30 else 29) ∧ f (c * 8 + 6) = a (C + 6) ∧ f (c * 8 + 7) = a (C + 7)) ∧ (a C = 4 ∨ a C = 5 → f (c * 8 + 5) = a (C + 4) ∧ a (C + 5) = a (C + 6))
/-- the TEXT at x shows the reference's TEXT n -/
def TX (σ : zI) (x : Nat) (a : Int → Int) (n : Int) : Prop := σ (x + 1) 0 = 8 ∧ σ (x + 1) 2 = a (5500 + 840 * n) ∧ (∀ c, 0 ≤ c → c < a (5500 + 840 * n) → TC (σ (x + 2)) c a (5500 + 840 * n + 1 + 8 * c)) ∧ (∀ s, 3 ≤ s → s ≤ 9 → (zand (zush (σ x 3) s) 1 = 0 ↔ ∀ c, 0 ≤ c → c < a (5500 + 840 * n) → srt (a (5500 + 840 * n + 1 + 8 * c)) ≠ s)) ∧ (0 ≤ σ x 2 ∧ σ x 2 ≤ 300) ∧ ∀ i, 0 ≤ i → i < σ x 2 → σ (x + 3) i = stE (a (5500 + 840 * n + 200 + 2 * i)) (a (5500 + 840 * n + 200 + 2 * i + 1))
/-- the class holds the TEXTS of a -/
def RX (S : zS) (σ : zI) (a : Int → Int) : Prop := (0 ≤ a 5 ∧ a 5 ≤ 20) ∧ ∀ n, 0 ≤ n → n < a 5 → ∃ x, S.2.2.2 55 n.toNat = some x ∧ oT S x ∧ TX σ x a n
theorem TX_w {S : zS} {σ : zI} {x : Nat} {a : Int → Int} {n : Int} (h : TX σ x a n) (o : oT S x) (j : jv_T a) (h0 : 0 ≤ n) (h1 : n < a 5) : oW S σ (x + 1) 8 192 := by
  have jt := (j n h0 h1).1
  refine ⟨oT_1 o, oT_r2 o, oT_2 o, h.1, by omega, by rw [h.2.1]; omega, by rw [h.2.1]; omega, by omega, ?_, ?_, by omega⟩
  · have := oT_b o
    exact isR_hi (by omega)
  · intro q hq e
    have := oT_b o
    have : ∀ q ∈ lwT, q.1 < 100 := by decide
    have := this q hq
    omega
theorem srt7 {s k : Int} (h : 1 ≤ s ∧ s ≤ 9) (hk : 6 ≤ k) : srt s = k ↔ s = k := by
  unfold srt
  repeat' split
  all_goals omega
theorem srt1 {s : Int} (h : 1 ≤ s ∧ s ≤ 9) : srt s = 3 ↔ s = 1 := by
  unfold srt
  repeat' split
  all_goals omega
theorem TX_hc {σ : zI} {x : Nat} {a : Int → Int} {n s k : Int} (h : TX σ x a n) (j : jv_T a) (h0 : 0 ≤ n) (h1 : n < a 5) (hs : (s = 1 ∧ k = 3) ∨ (6 ≤ s ∧ s ≤ 9 ∧ k = s)) : zand (zush (σ x 3) k) 1 = 0 ↔ ¬ r_hc a n s = true := by
  have jt := j n h0 h1
  rw [h.2.2.2.1 k (by omega) (by omega)]
  unfold r_hc
  rw [r_hcN_iff]
  constructor
  · rintro q ⟨c, c0, c1, c2⟩
    refine q c c0 (by omega) ?_
    have b := (jt.2 c c0 (by omega)).1
    rcases hs with ⟨e1, e2⟩ | ⟨e1, e2, e3⟩
    · rw [e2]; exact (srt1 b).mpr (by omega)
    · exact (srt7 b (by omega)).mpr (by omega)
  · intro q c c0 c1 e
    refine q ⟨c, c0, by omega, ?_⟩
    have b := (jt.2 c c0 (by omega)).1
    rcases hs with ⟨e1, e2⟩ | ⟨e1, e2, e3⟩
    · rw [e2] at e; rw [e1]; exact (srt1 b).mp e
    · have := (srt7 b (by omega)).mp e; omega
-- method 10: MillTown$Law.textAt(I)LMillTown$Text;
theorem c_10_0 : pg_cd 10 0 = (3, 1, 0, 1, 0) := by decide +kernel
theorem c_10_1 : pg_cd 10 1 = (36, 3, 0, 2, 21) := by decide +kernel
theorem c_10_4 : pg_cd 10 4 = (3, 1, 0, 1, 0) := by decide +kernel
theorem c_10_5 : pg_cd 10 5 = (5, 1, 0, 0, 0) := by decide +kernel
theorem c_10_6 : pg_cd 10 6 = (45, 1, 11, 0, 0) := by decide +kernel
theorem c_10_9 : pg_cd 10 9 = (58, 10, 0, 0, 0) := by decide +kernel
theorem c_10_10 : pg_cd 10 10 = (37, 3, 0, 3, 12) := by decide +kernel
theorem c_10_13 : pg_cd 10 13 = (5, 1, 0, 0, 0) := by decide +kernel
theorem c_10_14 : pg_cd 10 14 = (45, 1, 11, 0, 0) := by decide +kernel
theorem c_10_17 : pg_cd 10 17 = (3, 1, 0, 1, 0) := by decide +kernel
theorem c_10_18 : pg_cd 10 18 = (53, 7, 0, 0, 0) := by decide +kernel
theorem c_10_19 : pg_cd 10 19 = (38, 3, 0, 0, 4) := by decide +kernel
theorem c_10_22 : pg_cd 10 22 = (41, 1, 0, 0, 0) := by decide +kernel
theorem c_10_23 : pg_cd 10 23 = (93, 0, 0, 0, 0) := by decide +kernel
theorem mi_10 : pg_mc 10 = 1 ∧ pg_na 10 = 1 ∧ pg_mx 10 = 2 := by decide +kernel
set_option maxRecDepth 20000 in
theorem u_10_0 {d : Nat} {S : zS} {σ τ : zI} {Q : zQ} {x1 : Int} (t : (rg x1) ∧ if x1 < 0 then (Q (some (.null)) S σ τ) else (if (20 : Int) ≤ x1 then (Q (some (.null)) S σ τ) else ((0 ≤ x1 ∧ x1 < 20) ∧ ((S.2.2.2 55 (x1).toNat = none → Q (some (.null)) S σ τ) ∧ ∀ j5 : Nat, S.2.2.2 55 (x1).toNat = some j5 → oT S j5 ∧ Q (some (.ref j5)) S σ τ)))) : wi (d + 0) 10 0 [.ref 54, .int (wI x1)] [] S σ τ Q := by
  obtain ⟨r1, t⟩ := t
  refine i3 c_10_0 rfl ?_
  refine i36 c_10_1 r1 rfl (fun hc => ?_) (fun hc => ?_)
  · have t := iT t hc
    have ha2 : x1 < 0 := hc
    refine i41 c_10_22 ?_
    exact i93n c_10_23 t
  · have t := iF t hc
    have ha2 : ¬ (x1 < 0) := hc
    refine i3 c_10_4 rfl (i5 c_10_5 rfl (i45 c_10_6 (lo (c := 54) (kd := 101) (n := 0) rfl (by decide)) (lro (c := 54) (k := 0) (j := 55) (by decide)) (i58 (v := 20) c_10_9 (lo (c := 55) (kd := 10) (n := 20) rfl (by decide)) rfl ?_)))
    refine i37 c_10_10 r1 (by decide) rfl (fun hc => ?_) (fun hc => ?_)
    · have t := iT t hc
      have ha3 : (20 : Int) ≤ x1 := hc
      refine i41 c_10_22 ?_
      exact i93n c_10_23 t
    · have t := iF t hc
      have ha3 : ¬ ((20 : Int) ≤ x1) := hc
      obtain ⟨r4, t⟩ := t
      refine i5 c_10_13 rfl (i45 c_10_14 (lo (c := 54) (kd := 101) (n := 0) rfl (by decide)) (lro (c := 54) (k := 0) (j := 55) (by decide)) (i3 c_10_17 rfl ?_))
      refine i53 c_10_18 (lo (c := 55) (kd := 10) (n := 20) rfl (by decide)) (by decide) r4 (fun hr => ?_) (fun j5 hr => ?_)
      · have t := t.1 hr
        refine i38 c_10_19 rfl ?_
        exact i93n c_10_23 t
      · obtain ⟨hj5, t⟩ := t.2 _ hr
        refine i38 c_10_19 rfl ?_
        exact i93a c_10_23 t
theorem q_10 {d : Nat} {S : zS} {σ τ : zI} {Q : zQ} {number : Int} {a : Int → Int} (p0 : RX S σ a) (p1 : rg number) (p2 : number < a 5) (t1 : number < 0 → Q (some .null) S σ τ) (t2 : ∀ j : Nat, oT S j → 0 ≤ number → TX σ j a number → Q (some (.ref j)) S σ τ) : wc (d + 0) 10 [.ref 54, .int (wI number)] S σ τ Q := by
  refine wc_of mi_10 rfl (u_10_0 ⟨p1, ?_⟩)
  have b := p0.1
  refine ifI (fun e => t1 e) (fun e => ?_)
  rw [if_neg (by omega)]
  obtain ⟨x, hx, ho, ht⟩ := p0.2 number (by omega) p2
  refine ⟨by omega, fun e => ?_, fun j e => ?_⟩
  · rw [hx] at e; cases e
  · rw [hx] at e
    cases e
    exact ⟨ho, t2 _ ho (by omega) ht⟩
-- method 83: MillTown$Text.hasSort(I)Z
theorem c_83_0 : pg_cd 83 0 = (5, 1, 0, 0, 0) := by decide +kernel
theorem c_83_1 : pg_cd 83 1 = (43, 7, 31, 3, 0) := by decide +kernel
theorem c_83_4 : pg_cd 83 4 = (3, 1, 0, 1, 0) := by decide +kernel
theorem c_83_5 : pg_cd 83 5 = (20, 1, 0, 0, 0) := by decide +kernel
theorem c_83_6 : pg_cd 83 6 = (1, 1, 0, 0, 1) := by decide +kernel
theorem c_83_7 : pg_cd 83 7 = (13, 1, 0, 0, 0) := by decide +kernel
theorem c_83_8 : pg_cd 83 8 = (36, 3, 0, 0, 7) := by decide +kernel
theorem c_83_11 : pg_cd 83 11 = (1, 1, 0, 0, 1) := by decide +kernel
theorem c_83_12 : pg_cd 83 12 = (38, 3, 0, 0, 4) := by decide +kernel
theorem c_83_15 : pg_cd 83 15 = (1, 1, 0, 0, 0) := by decide +kernel
theorem c_83_16 : pg_cd 83 16 = (91, 0, 0, 0, 0) := by decide +kernel
theorem mi_83 : pg_mc 83 = 7 ∧ pg_na 83 = 1 ∧ pg_mx 83 = 2 := by decide +kernel
set_option maxRecDepth 20000 in
theorem u_83_0 {d : Nat} {S : zS} {σ τ : zI} {Q : zQ} {x0 : Nat} {x1 : Int} (hx0 : oT S x0) (t : if (zand (zush (σ x0 3) x1) 1) = 0 then (Q (some (.int (wI 0))) S σ τ) else (Q (some (.int (wI 1))) S σ τ)) : wi (d + 0) 83 0 [.ref x0, .int (wI x1)] [] S σ τ Q := by
  refine i5 c_83_0 rfl (wi_ok (fun K1 => ?_))
  refine i43 (v := σ x0 3) c_83_1 (fun _ => oT_0 hx0) rfl (i3 c_83_4 rfl (i20 c_83_5 (i1 c_83_6 (i13 c_83_7 ?_))))
  refine i36 c_83_8 (rg_toInt _) rfl (fun hc => ?_) (fun hc => ?_)
  · have t := iT t hc
    have ha2 : (zand (zush (σ x0 3) x1) 1) = 0 := hc
    refine i1 c_83_15 ?_
    exact i91 c_83_16 (by decide) t
  · have t := iF t hc
    have ha2 : ¬ ((zand (zush (σ x0 3) x1) 1) = 0) := hc
    refine i1 c_83_11 (i38 c_83_12 rfl ?_)
    exact i91 c_83_16 (by decide) t
theorem q_83 {d : Nat} {S : zS} {σ τ : zI} {Q : zQ} {x : Nat} {s : Int} (hx : oT S x) (t : Q (some (.int (wI (if ¬ zand (zush (σ x 3) s) 1 = 0 then 1 else 0)))) S σ τ) : wc (d + 0) 83 [.ref x, .int (wI s)] S σ τ Q := by
  refine wc_of mi_83 rfl (u_83_0 hx ?_)
  refine ifI (fun e => ?_) (fun e => ?_)
  · rw [if_neg (by simp [e])] at t; exact t
  · rw [if_pos e] at t; exact t
-- method 85: MillTown$Text.greatest(I)I
theorem c_85_0 : pg_cd 85 0 = (1, 1, 0, 0, 0) := by decide +kernel
theorem c_85_1 : pg_cd 85 1 = (6, 1, 0, 2, 0) := by decide +kernel
theorem c_85_2 : pg_cd 85 2 = (1, 1, 0, 0, 0) := by decide +kernel
theorem c_85_3 : pg_cd 85 3 = (6, 1, 0, 3, 0) := by decide +kernel
theorem c_85_4 : pg_cd 85 4 = (3, 1, 0, 3, 0) := by decide +kernel
theorem c_85_5 : pg_cd 85 5 = (5, 1, 0, 0, 0) := by decide +kernel
theorem c_85_6 : pg_cd 85 6 = (45, 7, 14, 0, 0) := by decide +kernel
theorem c_85_9 : pg_cd 85 9 = (43, 4, 24, 2, 0) := by decide +kernel
theorem c_85_12 : pg_cd 85 12 = (37, 3, 0, 3, 36) := by decide +kernel
theorem c_85_15 : pg_cd 85 15 = (5, 1, 0, 0, 0) := by decide +kernel
theorem c_85_16 : pg_cd 85 16 = (45, 7, 14, 0, 0) := by decide +kernel
theorem c_85_19 : pg_cd 85 19 = (3, 1, 0, 3, 0) := by decide +kernel
theorem c_85_20 : pg_cd 85 20 = (1, 1, 0, 0, 0) := by decide +kernel
theorem c_85_21 : pg_cd 85 21 = (80, 55, 42, 0, 0) := by decide +kernel
theorem c_85_24 : pg_cd 85 24 = (3, 1, 0, 1, 0) := by decide +kernel
theorem c_85_25 : pg_cd 85 25 = (37, 3, 0, 1, 17) := by decide +kernel
theorem c_85_28 : pg_cd 85 28 = (3, 1, 0, 2, 0) := by decide +kernel
theorem c_85_29 : pg_cd 85 29 = (5, 1, 0, 0, 0) := by decide +kernel
theorem c_85_30 : pg_cd 85 30 = (45, 7, 14, 0, 0) := by decide +kernel
theorem c_85_33 : pg_cd 85 33 = (3, 1, 0, 3, 0) := by decide +kernel
theorem c_85_34 : pg_cd 85 34 = (1, 1, 0, 0, 1) := by decide +kernel
theorem c_85_35 : pg_cd 85 35 = (80, 55, 42, 0, 0) := by decide +kernel
theorem c_85_38 : pg_cd 85 38 = (73, 0, 46, 0, 0) := by decide +kernel
theorem c_85_41 : pg_cd 85 41 = (6, 1, 0, 2, 0) := by decide +kernel
theorem c_85_42 : pg_cd 85 42 = (9, 3, 0, 3, 1) := by decide +kernel
theorem c_85_45 : pg_cd 85 45 = (38, 3, 0, 0, (-41)) := by decide +kernel
theorem c_85_48 : pg_cd 85 48 = (3, 1, 0, 2, 0) := by decide +kernel
theorem c_85_49 : pg_cd 85 49 = (90, 0, 0, 0, 0) := by decide +kernel
theorem mi_85 : pg_mc 85 = 7 ∧ pg_na 85 = 1 ∧ pg_mx 85 = 4 := by decide +kernel
set_option maxRecDepth 20000 in
theorem u_85_0 {d : Nat} {S : zS} {σ τ : zI} {Q : zQ} {x0 : Nat} {x1 : Int} (hx0 : oT S x0) (t : wi (d + 7) 85 4 [.ref x0, .int (wI x1), .int (wI 0), .int (wI 0)] [] S σ τ Q) : wi (d + 7) 85 0 [.ref x0, .int (wI x1), .retAddr 0, .retAddr 0] [] S σ τ Q := by
  refine i1 c_85_0 (i6 (L' := [.ref x0, .int (wI x1), .int (wI 0), .retAddr 0]) c_85_1 rfl (i1 c_85_2 (i6 (L' := [.ref x0, .int (wI x1), .int (wI 0), .int (wI 0)]) c_85_3 rfl t)))
set_option maxRecDepth 20000 in
theorem u_85_4 {d : Nat} {S : zS} {σ τ : zI} {Q : zQ} {x0 : Nat} {x1 : Int} {x2 : Int} {x3 : Int} (hx0 : oT S x0) (t : (rg x3) ∧ if (σ (x0 + 1) 2) ≤ x3 then (Q (some (.int (wI x2))) S σ τ) else ((oW S σ (x0 + 1) 8 192) ∧ (rg x1) ∧ if (rt_ (σ (x0 + 1) 2) (σ (x0 + 2)) 8 0 x3) = x1 then ((rg x2) ∧ wi (d + 7) 85 4 [.ref x0, .int (wI x1), .int (wI (max x2 (rt_ (σ (x0 + 1) 2) (σ (x0 + 2)) 8 1 x3))), .int (wI (x3 + 1))] [] S σ τ Q) else (wi (d + 7) 85 4 [.ref x0, .int (wI x1), .int (wI x2), .int (wI (x3 + 1))] [] S σ τ Q))) : wi (d + 7) 85 4 [.ref x0, .int (wI x1), .int (wI x2), .int (wI x3)] [] S σ τ Q := by
  refine i3 c_85_4 rfl (i5 c_85_5 rfl (i45 c_85_6 (fun _ => oT_0 hx0) (fun _ => oT_r0 hx0) (wi_ok (fun K1 => ?_))))
  obtain ⟨r2, t⟩ := t
  refine i43 (v := σ (x0 + 1) 2) c_85_9 (fun _ => oT_1 hx0) rfl ?_
  refine i37 c_85_12 r2 (rge_ K1 rfl) rfl (fun hc => ?_) (fun hc => ?_)
  · have t := iT t hc
    have ha3 : (σ (x0 + 1) 2) ≤ x3 := hc
    refine i3 c_85_48 rfl ?_
    exact i90 c_85_49 t
  · have t := iF t hc
    have ha3 : ¬ ((σ (x0 + 1) 2) ≤ x3) := hc
    obtain ⟨o4, t⟩ := t
    refine i5 c_85_15 rfl (i45 c_85_16 (fun _ => oT_0 hx0) (fun _ => oT_r0 hx0) (i3 c_85_19 rfl (i1 c_85_20 ?_)))
    refine i80 (As := [.int (wI x3), .int (wI 0)]) (rest := []) c_85_21 mi_55 rfl rfl (Nat.le_of_ble_eq_true rfl) (Nat.le_of_ble_eq_true rfl) (fun _ => oT_1 hx0) (q_at (fun _ => o4) r2 (by decide) ?_)
    show wi (d + 7) 85 24 [.ref x0, .int (wI x1), .int (wI x2), .int (wI x3)] [.int (wI (rt_ (σ (x0 + 1) 2) (σ (x0 + 2)) 8 0 x3))] S σ τ Q
    obtain ⟨r5, t⟩ := t
    refine i3 c_85_24 rfl ?_
    refine i37 c_85_25 (rg_rt_ (fun k => kO_r K1 _ k) _ _ _ _) r5 rfl (fun hc => ?_) (fun hc => ?_)
    · have t := iF t hc
      have ha6 : ¬ ((rt_ (σ (x0 + 1) 2) (σ (x0 + 2)) 8 0 x3) = x1) := hc
      refine i9 (L' := [.ref x0, .int (wI x1), .int (wI x2), .int (wI (x3 + 1))]) c_85_42 rfl rfl (i38 c_85_45 rfl t)
    · have t := iT t (Decidable.not_not.mp hc)
      have ha6 : (rt_ (σ (x0 + 1) 2) (σ (x0 + 2)) 8 0 x3) = x1 := Decidable.not_not.mp hc
      refine i3 c_85_28 rfl (i5 c_85_29 rfl (i45 c_85_30 (fun _ => oT_0 hx0) (fun _ => oT_r0 hx0) (i3 c_85_33 rfl (i1 c_85_34 ?_))))
      refine i80 (As := [.int (wI x3), .int (wI 1)]) (rest := [.int (wI x2)]) c_85_35 mi_55 rfl rfl (Nat.le_of_ble_eq_true rfl) (Nat.le_of_ble_eq_true rfl) (fun _ => oT_1 hx0) (q_at (fun _ => o4) r2 (by decide) ?_)
      show wi (d + 7) 85 38 [.ref x0, .int (wI x1), .int (wI x2), .int (wI x3)] [.int (wI (rt_ (σ (x0 + 1) 2) (σ (x0 + 2)) 8 1 x3)), .int (wI x2)] S σ τ Q
      obtain ⟨r7, t⟩ := t
      refine i73 c_85_38 (Nat.le_of_ble_eq_true rfl) (by omega) r7 (rg_rt_ (fun k => kO_r K1 _ k) _ _ _ _) (i6 (L' := [.ref x0, .int (wI x1), .int (wI (max x2 (rt_ (σ (x0 + 1) 2) (σ (x0 + 2)) 8 1 x3))), .int (wI x3)]) c_85_41 rfl (i9 (L' := [.ref x0, .int (wI x1), .int (wI (max x2 (rt_ (σ (x0 + 1) 2) (σ (x0 + 2)) 8 1 x3))), .int (wI (x3 + 1))]) c_85_42 rfl rfl (i38 c_85_45 rfl t)))
theorem q_85 {d : Nat} {S : zS} {σ τ : zI} {Q : zQ} {x : Nat} {s : Int} {a : Int → Int} {n : Int} (hx : oT S x) (p0 : TX σ x a n) (p1 : jv_T a) (p2 : 0 ≤ n ∧ n < a 5) (p3 : (6 : Int) ≤ s ∧ s ≤ (9 : Int) ∧ s ≠ (7 : Int)) (t : Q (some (.int (wI (r_mx a n s (a (5500 + 840 * n)))))) S σ τ) : wc (d + 7) 85 [.ref x, .int (wI s)] S σ τ Q := by
  have ow := TX_w p0 hx p1 p2.1 p2.2
  have jt := p1 n p2.1 p2.2
  have cn := p0.2.1
  refine wc_of mi_85 rfl (u_85_0 hx ?_)
  have key : ∀ c, 0 ≤ c → c ≤ a (5500 + 840 * n) → ∀ v, v = r_mx a n s c → wi (d + 7) 85 4 [.ref x, .int (wI s), .int (wI v), .int (wI c)] [] S σ τ Q := by
    refine lp_up (fun c c0 c1 ih => ?_)
    intro v hv
    have bv : 0 ≤ r_mx a n s c ∧ r_mx a n s c ≤ 9999 := r_mx_b c0 (by omega) (fun k k0 k1 k2 => by
      have := jt.2 k k0 (by omega)
      omega)
    rw [← hv] at bv
    refine u_85_4 hx ⟨by omega, ?_⟩
    refine ifI (fun e => ?_) (fun e => ?_)
    · have : c = a (5500 + 840 * n) := by omega
      rw [hv, this]; exact t
    · have tc := p0.2.2.1 c c0 (by omega)
      have jc := jt.2 c c0 (by omega)
      have ih := ih (by omega)
      rw [r_mx_s c0, ← hv] at ih
      refine ⟨ow, by omega, ?_⟩
      rw [rt8 ⟨c0, by omega⟩, rt8 ⟨c0, by omega⟩, tc.1]
      refine ifI (fun e2 => ?_) (fun e2 => ?_)
      · have e3 := (srt7 jc.1 p3.1).mp e2
        rw [tc.2.2.1 (by omega)]
        refine ⟨by omega, ?_⟩
        refine ih _ ?_
        split <;> omega
      · refine ih _ ?_
        rw [if_neg (fun h => e2 ((srt7 jc.1 p3.1).mpr h.1))]
  exact key 0 (by omega) (by omega) 0 rfl
-- method 12: MillTown$Law.forceFor(LMillTown$Town;IIII)I
theorem c_12_0 : pg_cd 12 0 = (5, 1, 0, 1, 0) := by decide +kernel
theorem c_12_1 : pg_cd 12 1 = (45, 8, 42, 7, 0) := by decide +kernel
theorem c_12_4 : pg_cd 12 4 = (8, 2, 0, 6, 0) := by decide +kernel
theorem c_12_6 : pg_cd 12 6 = (5, 2, 0, 6, 0) := by decide +kernel
theorem c_12_8 : pg_cd 12 8 = (43, 4, 37, 2, 0) := by decide +kernel
theorem c_12_11 : pg_cd 12 11 = (1, 1, 0, 0, 1) := by decide +kernel
theorem c_12_12 : pg_cd 12 12 = (11, 1, 0, 0, 0) := by decide +kernel
theorem c_12_13 : pg_cd 12 13 = (6, 2, 0, 7, 0) := by decide +kernel
theorem c_12_15 : pg_cd 12 15 = (3, 2, 0, 7, 0) := by decide +kernel
theorem c_12_17 : pg_cd 12 17 = (36, 3, 0, 2, 101) := by decide +kernel
theorem c_12_20 : pg_cd 12 20 = (5, 2, 0, 6, 0) := by decide +kernel
theorem c_12_22 : pg_cd 12 22 = (3, 2, 0, 7, 0) := by decide +kernel
theorem c_12_24 : pg_cd 12 24 = (1, 1, 0, 0, 1) := by decide +kernel
theorem c_12_25 : pg_cd 12 25 = (80, 55, 47, 0, 0) := by decide +kernel
theorem c_12_28 : pg_cd 12 28 = (6, 2, 0, 8, 0) := by decide +kernel
theorem c_12_30 : pg_cd 12 30 = (5, 1, 0, 0, 0) := by decide +kernel
theorem c_12_31 : pg_cd 12 31 = (5, 2, 0, 6, 0) := by decide +kernel
theorem c_12_33 : pg_cd 12 33 = (3, 2, 0, 7, 0) := by decide +kernel
theorem c_12_35 : pg_cd 12 35 = (1, 1, 0, 0, 0) := by decide +kernel
theorem c_12_36 : pg_cd 12 36 = (80, 55, 47, 0, 0) := by decide +kernel
theorem c_12_39 : pg_cd 12 39 = (80, 10, 29, 0, 0) := by decide +kernel
theorem c_12_42 : pg_cd 12 42 = (8, 2, 0, 9, 0) := by decide +kernel
theorem c_12_44 : pg_cd 12 44 = (3, 2, 0, 8, 0) := by decide +kernel
theorem c_12_46 : pg_cd 12 46 = (1, 1, 0, 0, (-1)) := by decide +kernel
theorem c_12_47 : pg_cd 12 47 = (37, 3, 0, 0, 9) := by decide +kernel
theorem c_12_50 : pg_cd 12 50 = (3, 2, 0, 8, 0) := by decide +kernel
theorem c_12_52 : pg_cd 12 52 = (3, 1, 0, 3, 0) := by decide +kernel
theorem c_12_53 : pg_cd 12 53 = (37, 3, 0, 1, 59) := by decide +kernel
theorem c_12_56 : pg_cd 12 56 = (5, 2, 0, 6, 0) := by decide +kernel
theorem c_12_58 : pg_cd 12 58 = (3, 2, 0, 7, 0) := by decide +kernel
theorem c_12_60 : pg_cd 12 60 = (1, 1, 0, 0, 4) := by decide +kernel
theorem c_12_61 : pg_cd 12 61 = (80, 55, 47, 0, 0) := by decide +kernel
theorem c_12_64 : pg_cd 12 64 = (3, 2, 0, 5, 0) := by decide +kernel
theorem c_12_66 : pg_cd 12 66 = (37, 3, 0, 4, 46) := by decide +kernel
theorem c_12_69 : pg_cd 12 69 = (5, 2, 0, 6, 0) := by decide +kernel
theorem c_12_71 : pg_cd 12 71 = (3, 2, 0, 7, 0) := by decide +kernel
theorem c_12_73 : pg_cd 12 73 = (1, 1, 0, 0, 2) := by decide +kernel
theorem c_12_74 : pg_cd 12 74 = (80, 55, 47, 0, 0) := by decide +kernel
theorem c_12_77 : pg_cd 12 77 = (3, 2, 0, 4, 0) := by decide +kernel
theorem c_12_79 : pg_cd 12 79 = (37, 3, 0, 4, 33) := by decide +kernel
theorem c_12_82 : pg_cd 12 82 = (3, 2, 0, 4, 0) := by decide +kernel
theorem c_12_84 : pg_cd 12 84 = (5, 2, 0, 6, 0) := by decide +kernel
theorem c_12_86 : pg_cd 12 86 = (3, 2, 0, 7, 0) := by decide +kernel
theorem c_12_88 : pg_cd 12 88 = (1, 1, 0, 0, 3) := by decide +kernel
theorem c_12_89 : pg_cd 12 89 = (80, 55, 47, 0, 0) := by decide +kernel
theorem c_12_92 : pg_cd 12 92 = (37, 3, 0, 4, 20) := by decide +kernel
theorem c_12_95 : pg_cd 12 95 = (5, 2, 0, 9, 0) := by decide +kernel
theorem c_12_97 : pg_cd 12 97 = (39, 3, 0, 0, 15) := by decide +kernel
theorem c_12_100 : pg_cd 12 100 = (5, 2, 0, 9, 0) := by decide +kernel
theorem c_12_102 : pg_cd 12 102 = (3, 1, 0, 2, 0) := by decide +kernel
theorem c_12_103 : pg_cd 12 103 = (80, 83, 51, 0, 0) := by decide +kernel
theorem c_12_106 : pg_cd 12 106 = (36, 3, 0, 0, 6) := by decide +kernel
theorem c_12_109 : pg_cd 12 109 = (3, 2, 0, 7, 0) := by decide +kernel
theorem c_12_111 : pg_cd 12 111 = (90, 0, 0, 0, 0) := by decide +kernel
theorem c_12_112 : pg_cd 12 112 = (9, 3, 0, 7, (-1)) := by decide +kernel
theorem c_12_115 : pg_cd 12 115 = (38, 3, 0, 0, (-100)) := by decide +kernel
theorem c_12_118 : pg_cd 12 118 = (1, 1, 0, 0, (-1)) := by decide +kernel
theorem c_12_119 : pg_cd 12 119 = (90, 0, 0, 0, 0) := by decide +kernel
theorem mi_12 : pg_mc 12 = 1 ∧ pg_na 12 = 5 ∧ pg_mx 12 = 10 := by decide +kernel
set_option maxRecDepth 20000 in
theorem u_12_0 {d : Nat} {S : zS} {σ τ : zI} {Q : zQ} {x1 : Nat} {x2 : Int} {x3 : Int} {x4 : Int} {x5 : Int} (hx1 : tw x1) (t : wi (d + 6) 12 15 [.ref 54, .ref x1, .int (wI x2), .int (wI x3), .int (wI x4), .int (wI x5), .ref (x1 + 15), .int (wI ((σ (x1 + 15) 2) - 1)), .retAddr 0, .retAddr 0] [] S σ τ Q) : wi (d + 6) 12 0 [.ref 54, .ref x1, .int (wI x2), .int (wI x3), .int (wI x4), .int (wI x5), .retAddr 0, .retAddr 0, .retAddr 0, .retAddr 0] [] S σ τ Q := by
  refine i5 c_12_0 rfl (i45 c_12_1 (lo (lyt_0 hx1) (by have := tw_b hx1; omega)) (lro (lrt_7 hx1)) (i8 (L' := [.ref 54, .ref x1, .int (wI x2), .int (wI x3), .int (wI x4), .int (wI x5), .ref (x1 + 15), .retAddr 0, .retAddr 0, .retAddr 0]) c_12_4 rfl (i5 c_12_6 rfl (wi_ok (fun K1 => ?_)))))
  refine i43 (v := σ (x1 + 15) 2) c_12_8 (lo (lyt_15 hx1) (by have := tw_b hx1; omega)) rfl (i1 c_12_11 (i11 c_12_12 (i6 (L' := [.ref 54, .ref x1, .int (wI x2), .int (wI x3), .int (wI x4), .int (wI x5), .ref (x1 + 15), .int (wI ((σ (x1 + 15) 2) - 1)), .retAddr 0, .retAddr 0]) c_12_13 rfl t)))
set_option maxRecDepth 20000 in
theorem u_12_15 {d : Nat} {S : zS} {σ τ : zI} {Q : zQ} {x1 : Nat} {x2 : Int} {x3 : Int} {x4 : Int} {x5 : Int} {x7 : Int} {y8 : Value} {y9 : Value} (hx1 : tw x1) (t : (rg x7) ∧ if x7 < 0 then (Q (some (.int (wI (-1)))) S σ τ) else (∃ a4 : Int → Int, (RX S σ a4) ∧ ((rt_ (σ (x1 + 15) 2) (σ (x1 + 16)) 5 0 x7) < a4 5) ∧ (((rt_ (σ (x1 + 15) 2) (σ (x1 + 16)) 5 0 x7) < 0 → if (rt_ (σ (x1 + 15) 2) (σ (x1 + 16)) 5 1 x7) = (-1) then ((rg x5) ∧ if x5 < (rt_ (σ (x1 + 15) 2) (σ (x1 + 16)) 5 4 x7) then (wi (d + 6) 12 15 [.ref 54, .ref x1, .int (wI x2), .int (wI x3), .int (wI x4), .int (wI x5), .ref (x1 + 15), .int (wI (x7 + (-1))), .int (wI (rt_ (σ (x1 + 15) 2) (σ (x1 + 16)) 5 1 x7)), .null] [] S σ τ Q) else ((rg x4) ∧ if x4 < (rt_ (σ (x1 + 15) 2) (σ (x1 + 16)) 5 2 x7) then (wi (d + 6) 12 15 [.ref 54, .ref x1, .int (wI x2), .int (wI x3), .int (wI x4), .int (wI x5), .ref (x1 + 15), .int (wI (x7 + (-1))), .int (wI (rt_ (σ (x1 + 15) 2) (σ (x1 + 16)) 5 1 x7)), .null] [] S σ τ Q) else (if (rt_ (σ (x1 + 15) 2) (σ (x1 + 16)) 5 3 x7) < x4 then (wi (d + 6) 12 15 [.ref 54, .ref x1, .int (wI x2), .int (wI x3), .int (wI x4), .int (wI x5), .ref (x1 + 15), .int (wI (x7 + (-1))), .int (wI (rt_ (σ (x1 + 15) 2) (σ (x1 + 16)) 5 1 x7)), .null] [] S σ τ Q) else (wi (d + 6) 12 15 [.ref 54, .ref x1, .int (wI x2), .int (wI x3), .int (wI x4), .int (wI x5), .ref (x1 + 15), .int (wI (x7 + (-1))), .int (wI (rt_ (σ (x1 + 15) 2) (σ (x1 + 16)) 5 1 x7)), .null] [] S σ τ Q)))) else ((rg x3) ∧ if (rt_ (σ (x1 + 15) 2) (σ (x1 + 16)) 5 1 x7) = x3 then ((rg x5) ∧ if x5 < (rt_ (σ (x1 + 15) 2) (σ (x1 + 16)) 5 4 x7) then (wi (d + 6) 12 15 [.ref 54, .ref x1, .int (wI x2), .int (wI x3), .int (wI x4), .int (wI x5), .ref (x1 + 15), .int (wI (x7 + (-1))), .int (wI (rt_ (σ (x1 + 15) 2) (σ (x1 + 16)) 5 1 x7)), .null] [] S σ τ Q) else ((rg x4) ∧ if x4 < (rt_ (σ (x1 + 15) 2) (σ (x1 + 16)) 5 2 x7) then (wi (d + 6) 12 15 [.ref 54, .ref x1, .int (wI x2), .int (wI x3), .int (wI x4), .int (wI x5), .ref (x1 + 15), .int (wI (x7 + (-1))), .int (wI (rt_ (σ (x1 + 15) 2) (σ (x1 + 16)) 5 1 x7)), .null] [] S σ τ Q) else (if (rt_ (σ (x1 + 15) 2) (σ (x1 + 16)) 5 3 x7) < x4 then (wi (d + 6) 12 15 [.ref 54, .ref x1, .int (wI x2), .int (wI x3), .int (wI x4), .int (wI x5), .ref (x1 + 15), .int (wI (x7 + (-1))), .int (wI (rt_ (σ (x1 + 15) 2) (σ (x1 + 16)) 5 1 x7)), .null] [] S σ τ Q) else (wi (d + 6) 12 15 [.ref 54, .ref x1, .int (wI x2), .int (wI x3), .int (wI x4), .int (wI x5), .ref (x1 + 15), .int (wI (x7 + (-1))), .int (wI (rt_ (σ (x1 + 15) 2) (σ (x1 + 16)) 5 1 x7)), .null] [] S σ τ Q)))) else (wi (d + 6) 12 15 [.ref 54, .ref x1, .int (wI x2), .int (wI x3), .int (wI x4), .int (wI x5), .ref (x1 + 15), .int (wI (x7 + (-1))), .int (wI (rt_ (σ (x1 + 15) 2) (σ (x1 + 16)) 5 1 x7)), .null] [] S σ τ Q))) ∧ ∀ j7 : Nat, oT S j7 → 0 ≤ (rt_ (σ (x1 + 15) 2) (σ (x1 + 16)) 5 0 x7) → TX σ j7 a4 (rt_ (σ (x1 + 15) 2) (σ (x1 + 16)) 5 0 x7) → if (rt_ (σ (x1 + 15) 2) (σ (x1 + 16)) 5 1 x7) = (-1) then ((rg x5) ∧ if x5 < (rt_ (σ (x1 + 15) 2) (σ (x1 + 16)) 5 4 x7) then (wi (d + 6) 12 15 [.ref 54, .ref x1, .int (wI x2), .int (wI x3), .int (wI x4), .int (wI x5), .ref (x1 + 15), .int (wI (x7 + (-1))), .int (wI (rt_ (σ (x1 + 15) 2) (σ (x1 + 16)) 5 1 x7)), .ref j7] [] S σ τ Q) else ((rg x4) ∧ if x4 < (rt_ (σ (x1 + 15) 2) (σ (x1 + 16)) 5 2 x7) then (wi (d + 6) 12 15 [.ref 54, .ref x1, .int (wI x2), .int (wI x3), .int (wI x4), .int (wI x5), .ref (x1 + 15), .int (wI (x7 + (-1))), .int (wI (rt_ (σ (x1 + 15) 2) (σ (x1 + 16)) 5 1 x7)), .ref j7] [] S σ τ Q) else (if (rt_ (σ (x1 + 15) 2) (σ (x1 + 16)) 5 3 x7) < x4 then (wi (d + 6) 12 15 [.ref 54, .ref x1, .int (wI x2), .int (wI x3), .int (wI x4), .int (wI x5), .ref (x1 + 15), .int (wI (x7 + (-1))), .int (wI (rt_ (σ (x1 + 15) 2) (σ (x1 + 16)) 5 1 x7)), .ref j7] [] S σ τ Q) else (if ¬ zand (zush (σ j7 3) x2) 1 = 0 then (Q (some (.int (wI x7))) S σ τ) else (wi (d + 6) 12 15 [.ref 54, .ref x1, .int (wI x2), .int (wI x3), .int (wI x4), .int (wI x5), .ref (x1 + 15), .int (wI (x7 + (-1))), .int (wI (rt_ (σ (x1 + 15) 2) (σ (x1 + 16)) 5 1 x7)), .ref j7] [] S σ τ Q))))) else ((rg x3) ∧ if (rt_ (σ (x1 + 15) 2) (σ (x1 + 16)) 5 1 x7) = x3 then ((rg x5) ∧ if x5 < (rt_ (σ (x1 + 15) 2) (σ (x1 + 16)) 5 4 x7) then (wi (d + 6) 12 15 [.ref 54, .ref x1, .int (wI x2), .int (wI x3), .int (wI x4), .int (wI x5), .ref (x1 + 15), .int (wI (x7 + (-1))), .int (wI (rt_ (σ (x1 + 15) 2) (σ (x1 + 16)) 5 1 x7)), .ref j7] [] S σ τ Q) else ((rg x4) ∧ if x4 < (rt_ (σ (x1 + 15) 2) (σ (x1 + 16)) 5 2 x7) then (wi (d + 6) 12 15 [.ref 54, .ref x1, .int (wI x2), .int (wI x3), .int (wI x4), .int (wI x5), .ref (x1 + 15), .int (wI (x7 + (-1))), .int (wI (rt_ (σ (x1 + 15) 2) (σ (x1 + 16)) 5 1 x7)), .ref j7] [] S σ τ Q) else (if (rt_ (σ (x1 + 15) 2) (σ (x1 + 16)) 5 3 x7) < x4 then (wi (d + 6) 12 15 [.ref 54, .ref x1, .int (wI x2), .int (wI x3), .int (wI x4), .int (wI x5), .ref (x1 + 15), .int (wI (x7 + (-1))), .int (wI (rt_ (σ (x1 + 15) 2) (σ (x1 + 16)) 5 1 x7)), .ref j7] [] S σ τ Q) else (if ¬ zand (zush (σ j7 3) x2) 1 = 0 then (Q (some (.int (wI x7))) S σ τ) else (wi (d + 6) 12 15 [.ref 54, .ref x1, .int (wI x2), .int (wI x3), .int (wI x4), .int (wI x5), .ref (x1 + 15), .int (wI (x7 + (-1))), .int (wI (rt_ (σ (x1 + 15) 2) (σ (x1 + 16)) 5 1 x7)), .ref j7] [] S σ τ Q))))) else (wi (d + 6) 12 15 [.ref 54, .ref x1, .int (wI x2), .int (wI x3), .int (wI x4), .int (wI x5), .ref (x1 + 15), .int (wI (x7 + (-1))), .int (wI (rt_ (σ (x1 + 15) 2) (σ (x1 + 16)) 5 1 x7)), .ref j7] [] S σ τ Q))))) : wi (d + 6) 12 15 [.ref 54, .ref x1, .int (wI x2), .int (wI x3), .int (wI x4), .int (wI x5), .ref (x1 + 15), .int (wI x7), y8, y9] [] S σ τ Q := by
  obtain ⟨r1, t⟩ := t
  refine i3 c_12_15 rfl ?_
  refine i36 c_12_17 r1 rfl (fun hc => ?_) (fun hc => ?_)
  · have t := iT t hc
    have ha2 : x7 < 0 := hc
    refine i1 c_12_118 ?_
    exact i90 c_12_119 t
  · have t := iF t hc
    have ha2 : ¬ (x7 < 0) := hc
    refine i5 c_12_20 rfl (i3 c_12_22 rfl (i1 c_12_24 (wi_ok (fun K3 => ?_))))
    refine i80 (As := [.int (wI x7), .int (wI 1)]) (rest := []) c_12_25 mi_55 rfl rfl (Nat.le_of_ble_eq_true rfl) (Nat.le_of_ble_eq_true rfl) (lo (lyt_15 hx1) (by have := tw_b hx1; omega)) (q_at (ow_forces hx1) r1 (by decide) ?_)
    show wi (d + 6) 12 28 [.ref 54, .ref x1, .int (wI x2), .int (wI x3), .int (wI x4), .int (wI x5), .ref (x1 + 15), .int (wI x7), y8, y9] [.int (wI (rt_ (σ (x1 + 15) 2) (σ (x1 + 16)) 5 1 x7))] S σ τ Q
    refine i6 (L' := [.ref 54, .ref x1, .int (wI x2), .int (wI x3), .int (wI x4), .int (wI x5), .ref (x1 + 15), .int (wI x7), .int (wI (rt_ (σ (x1 + 15) 2) (σ (x1 + 16)) 5 1 x7)), y9]) c_12_28 rfl (i5 c_12_30 rfl (i5 c_12_31 rfl (i3 c_12_33 rfl (i1 c_12_35 ?_))))
    refine i80 (As := [.int (wI x7), .int (wI 0)]) (rest := [.ref 54]) c_12_36 mi_55 rfl rfl (Nat.le_of_ble_eq_true rfl) (Nat.le_of_ble_eq_true rfl) (lo (lyt_15 hx1) (by have := tw_b hx1; omega)) (q_at (ow_forces hx1) r1 (by decide) ?_)
    show wi (d + 6) 12 39 [.ref 54, .ref x1, .int (wI x2), .int (wI x3), .int (wI x4), .int (wI x5), .ref (x1 + 15), .int (wI x7), .int (wI (rt_ (σ (x1 + 15) 2) (σ (x1 + 16)) 5 1 x7)), y9] [.int (wI (rt_ (σ (x1 + 15) 2) (σ (x1 + 16)) 5 0 x7)), .ref 54] S σ τ Q
    obtain ⟨a4, t⟩ := t
    obtain ⟨p5, t⟩ := t
    obtain ⟨p6, t⟩ := t
    refine i80 (As := [.int (wI (rt_ (σ (x1 + 15) 2) (σ (x1 + 16)) 5 0 x7))]) (rest := []) c_12_39 mi_10 rfl rfl (Nat.le_of_ble_eq_true rfl) (Nat.le_of_ble_eq_true rfl) (lo (c := 54) (kd := 101) (n := 0) rfl (by decide)) (q_10 (a := a4) p5 (rg_rt_ (fun k => kO_r K3 _ k) _ _ _ _) p6 (fun hn8 => ?_) (fun j7 q9 q10 q11 => ?_))
    · have t := t.1 hn8
      show wi (d + 6) 12 42 [.ref 54, .ref x1, .int (wI x2), .int (wI x3), .int (wI x4), .int (wI x5), .ref (x1 + 15), .int (wI x7), .int (wI (rt_ (σ (x1 + 15) 2) (σ (x1 + 16)) 5 1 x7)), y9] [.null] S σ τ Q
      refine i8n (L' := [.ref 54, .ref x1, .int (wI x2), .int (wI x3), .int (wI x4), .int (wI x5), .ref (x1 + 15), .int (wI x7), .int (wI (rt_ (σ (x1 + 15) 2) (σ (x1 + 16)) 5 1 x7)), .null]) c_12_42 rfl (i3 c_12_44 rfl (i1 c_12_46 ?_))
      refine i37 c_12_47 (rg_rt_ (fun k => kO_r K3 _ k) _ _ _ _) (by decide) rfl (fun hc => ?_) (fun hc => ?_)
      · have t := iT t hc
        have ha12 : (rt_ (σ (x1 + 15) 2) (σ (x1 + 16)) 5 1 x7) = (-1) := hc
        refine i5 c_12_56 rfl (i3 c_12_58 rfl (i1 c_12_60 ?_))
        refine i80 (As := [.int (wI x7), .int (wI 4)]) (rest := []) c_12_61 mi_55 rfl rfl (Nat.le_of_ble_eq_true rfl) (Nat.le_of_ble_eq_true rfl) (lo (lyt_15 hx1) (by have := tw_b hx1; omega)) (q_at (ow_forces hx1) r1 (by decide) ?_)
        show wi (d + 6) 12 64 [.ref 54, .ref x1, .int (wI x2), .int (wI x3), .int (wI x4), .int (wI x5), .ref (x1 + 15), .int (wI x7), .int (wI (rt_ (σ (x1 + 15) 2) (σ (x1 + 16)) 5 1 x7)), .null] [.int (wI (rt_ (σ (x1 + 15) 2) (σ (x1 + 16)) 5 4 x7))] S σ τ Q
        obtain ⟨r13, t⟩ := t
        refine i3 c_12_64 rfl ?_
        refine i37 c_12_66 (rg_rt_ (fun k => kO_r K3 _ k) _ _ _ _) r13 rfl (fun hc => ?_) (fun hc => ?_)
        · have t := iT t hc
          have ha14 : x5 < (rt_ (σ (x1 + 15) 2) (σ (x1 + 16)) 5 4 x7) := hc
          refine i9 (L' := [.ref 54, .ref x1, .int (wI x2), .int (wI x3), .int (wI x4), .int (wI x5), .ref (x1 + 15), .int (wI (x7 + (-1))), .int (wI (rt_ (σ (x1 + 15) 2) (σ (x1 + 16)) 5 1 x7)), .null]) c_12_112 rfl rfl (i38 c_12_115 rfl t)
        · have t := iF t hc
          have ha14 : ¬ (x5 < (rt_ (σ (x1 + 15) 2) (σ (x1 + 16)) 5 4 x7)) := hc
          refine i5 c_12_69 rfl (i3 c_12_71 rfl (i1 c_12_73 ?_))
          refine i80 (As := [.int (wI x7), .int (wI 2)]) (rest := []) c_12_74 mi_55 rfl rfl (Nat.le_of_ble_eq_true rfl) (Nat.le_of_ble_eq_true rfl) (lo (lyt_15 hx1) (by have := tw_b hx1; omega)) (q_at (ow_forces hx1) r1 (by decide) ?_)
          show wi (d + 6) 12 77 [.ref 54, .ref x1, .int (wI x2), .int (wI x3), .int (wI x4), .int (wI x5), .ref (x1 + 15), .int (wI x7), .int (wI (rt_ (σ (x1 + 15) 2) (σ (x1 + 16)) 5 1 x7)), .null] [.int (wI (rt_ (σ (x1 + 15) 2) (σ (x1 + 16)) 5 2 x7))] S σ τ Q
          obtain ⟨r15, t⟩ := t
          refine i3 c_12_77 rfl ?_
          refine i37 c_12_79 (rg_rt_ (fun k => kO_r K3 _ k) _ _ _ _) r15 rfl (fun hc => ?_) (fun hc => ?_)
          · have t := iT t hc
            have ha16 : x4 < (rt_ (σ (x1 + 15) 2) (σ (x1 + 16)) 5 2 x7) := hc
            refine i9 (L' := [.ref 54, .ref x1, .int (wI x2), .int (wI x3), .int (wI x4), .int (wI x5), .ref (x1 + 15), .int (wI (x7 + (-1))), .int (wI (rt_ (σ (x1 + 15) 2) (σ (x1 + 16)) 5 1 x7)), .null]) c_12_112 rfl rfl (i38 c_12_115 rfl t)
          · have t := iF t hc
            have ha16 : ¬ (x4 < (rt_ (σ (x1 + 15) 2) (σ (x1 + 16)) 5 2 x7)) := hc
            refine i3 c_12_82 rfl (i5 c_12_84 rfl (i3 c_12_86 rfl (i1 c_12_88 ?_)))
            refine i80 (As := [.int (wI x7), .int (wI 3)]) (rest := [.int (wI x4)]) c_12_89 mi_55 rfl rfl (Nat.le_of_ble_eq_true rfl) (Nat.le_of_ble_eq_true rfl) (lo (lyt_15 hx1) (by have := tw_b hx1; omega)) (q_at (ow_forces hx1) r1 (by decide) ?_)
            show wi (d + 6) 12 92 [.ref 54, .ref x1, .int (wI x2), .int (wI x3), .int (wI x4), .int (wI x5), .ref (x1 + 15), .int (wI x7), .int (wI (rt_ (σ (x1 + 15) 2) (σ (x1 + 16)) 5 1 x7)), .null] [.int (wI (rt_ (σ (x1 + 15) 2) (σ (x1 + 16)) 5 3 x7)), .int (wI x4)] S σ τ Q
            refine i37 c_12_92 r15 (rg_rt_ (fun k => kO_r K3 _ k) _ _ _ _) rfl (fun hc => ?_) (fun hc => ?_)
            · have t := iT t hc
              have ha17 : (rt_ (σ (x1 + 15) 2) (σ (x1 + 16)) 5 3 x7) < x4 := hc
              refine i9 (L' := [.ref 54, .ref x1, .int (wI x2), .int (wI x3), .int (wI x4), .int (wI x5), .ref (x1 + 15), .int (wI (x7 + (-1))), .int (wI (rt_ (σ (x1 + 15) 2) (σ (x1 + 16)) 5 1 x7)), .null]) c_12_112 rfl rfl (i38 c_12_115 rfl t)
            · have t := iF t hc
              have ha17 : ¬ ((rt_ (σ (x1 + 15) 2) (σ (x1 + 16)) 5 3 x7) < x4) := hc
              refine i5n c_12_95 rfl (i39n c_12_97 rfl (i9 (L' := [.ref 54, .ref x1, .int (wI x2), .int (wI x3), .int (wI x4), .int (wI x5), .ref (x1 + 15), .int (wI (x7 + (-1))), .int (wI (rt_ (σ (x1 + 15) 2) (σ (x1 + 16)) 5 1 x7)), .null]) c_12_112 rfl rfl (i38 c_12_115 rfl t)))
      · have t := iF t hc
        have ha12 : ¬ ((rt_ (σ (x1 + 15) 2) (σ (x1 + 16)) 5 1 x7) = (-1)) := hc
        obtain ⟨r18, t⟩ := t
        refine i3 c_12_50 rfl (i3 c_12_52 rfl ?_)
        refine i37 c_12_53 (rg_rt_ (fun k => kO_r K3 _ k) _ _ _ _) r18 rfl (fun hc => ?_) (fun hc => ?_)
        · have t := iF t hc
          have ha19 : ¬ ((rt_ (σ (x1 + 15) 2) (σ (x1 + 16)) 5 1 x7) = x3) := hc
          refine i9 (L' := [.ref 54, .ref x1, .int (wI x2), .int (wI x3), .int (wI x4), .int (wI x5), .ref (x1 + 15), .int (wI (x7 + (-1))), .int (wI (rt_ (σ (x1 + 15) 2) (σ (x1 + 16)) 5 1 x7)), .null]) c_12_112 rfl rfl (i38 c_12_115 rfl t)
        · have t := iT t (Decidable.not_not.mp hc)
          have ha19 : (rt_ (σ (x1 + 15) 2) (σ (x1 + 16)) 5 1 x7) = x3 := Decidable.not_not.mp hc
          refine i5 c_12_56 rfl (i3 c_12_58 rfl (i1 c_12_60 ?_))
          refine i80 (As := [.int (wI x7), .int (wI 4)]) (rest := []) c_12_61 mi_55 rfl rfl (Nat.le_of_ble_eq_true rfl) (Nat.le_of_ble_eq_true rfl) (lo (lyt_15 hx1) (by have := tw_b hx1; omega)) (q_at (ow_forces hx1) r1 (by decide) ?_)
          show wi (d + 6) 12 64 [.ref 54, .ref x1, .int (wI x2), .int (wI x3), .int (wI x4), .int (wI x5), .ref (x1 + 15), .int (wI x7), .int (wI (rt_ (σ (x1 + 15) 2) (σ (x1 + 16)) 5 1 x7)), .null] [.int (wI (rt_ (σ (x1 + 15) 2) (σ (x1 + 16)) 5 4 x7))] S σ τ Q
          obtain ⟨r20, t⟩ := t
          refine i3 c_12_64 rfl ?_
          refine i37 c_12_66 (rg_rt_ (fun k => kO_r K3 _ k) _ _ _ _) r20 rfl (fun hc => ?_) (fun hc => ?_)
          · have t := iT t hc
            have ha21 : x5 < (rt_ (σ (x1 + 15) 2) (σ (x1 + 16)) 5 4 x7) := hc
            refine i9 (L' := [.ref 54, .ref x1, .int (wI x2), .int (wI x3), .int (wI x4), .int (wI x5), .ref (x1 + 15), .int (wI (x7 + (-1))), .int (wI (rt_ (σ (x1 + 15) 2) (σ (x1 + 16)) 5 1 x7)), .null]) c_12_112 rfl rfl (i38 c_12_115 rfl t)
          · have t := iF t hc
            have ha21 : ¬ (x5 < (rt_ (σ (x1 + 15) 2) (σ (x1 + 16)) 5 4 x7)) := hc
            refine i5 c_12_69 rfl (i3 c_12_71 rfl (i1 c_12_73 ?_))
            refine i80 (As := [.int (wI x7), .int (wI 2)]) (rest := []) c_12_74 mi_55 rfl rfl (Nat.le_of_ble_eq_true rfl) (Nat.le_of_ble_eq_true rfl) (lo (lyt_15 hx1) (by have := tw_b hx1; omega)) (q_at (ow_forces hx1) r1 (by decide) ?_)
            show wi (d + 6) 12 77 [.ref 54, .ref x1, .int (wI x2), .int (wI x3), .int (wI x4), .int (wI x5), .ref (x1 + 15), .int (wI x7), .int (wI (rt_ (σ (x1 + 15) 2) (σ (x1 + 16)) 5 1 x7)), .null] [.int (wI (rt_ (σ (x1 + 15) 2) (σ (x1 + 16)) 5 2 x7))] S σ τ Q
            obtain ⟨r22, t⟩ := t
            refine i3 c_12_77 rfl ?_
            refine i37 c_12_79 (rg_rt_ (fun k => kO_r K3 _ k) _ _ _ _) r22 rfl (fun hc => ?_) (fun hc => ?_)
            · have t := iT t hc
              have ha23 : x4 < (rt_ (σ (x1 + 15) 2) (σ (x1 + 16)) 5 2 x7) := hc
              refine i9 (L' := [.ref 54, .ref x1, .int (wI x2), .int (wI x3), .int (wI x4), .int (wI x5), .ref (x1 + 15), .int (wI (x7 + (-1))), .int (wI (rt_ (σ (x1 + 15) 2) (σ (x1 + 16)) 5 1 x7)), .null]) c_12_112 rfl rfl (i38 c_12_115 rfl t)
            · have t := iF t hc
              have ha23 : ¬ (x4 < (rt_ (σ (x1 + 15) 2) (σ (x1 + 16)) 5 2 x7)) := hc
              refine i3 c_12_82 rfl (i5 c_12_84 rfl (i3 c_12_86 rfl (i1 c_12_88 ?_)))
              refine i80 (As := [.int (wI x7), .int (wI 3)]) (rest := [.int (wI x4)]) c_12_89 mi_55 rfl rfl (Nat.le_of_ble_eq_true rfl) (Nat.le_of_ble_eq_true rfl) (lo (lyt_15 hx1) (by have := tw_b hx1; omega)) (q_at (ow_forces hx1) r1 (by decide) ?_)
              show wi (d + 6) 12 92 [.ref 54, .ref x1, .int (wI x2), .int (wI x3), .int (wI x4), .int (wI x5), .ref (x1 + 15), .int (wI x7), .int (wI (rt_ (σ (x1 + 15) 2) (σ (x1 + 16)) 5 1 x7)), .null] [.int (wI (rt_ (σ (x1 + 15) 2) (σ (x1 + 16)) 5 3 x7)), .int (wI x4)] S σ τ Q
              refine i37 c_12_92 r22 (rg_rt_ (fun k => kO_r K3 _ k) _ _ _ _) rfl (fun hc => ?_) (fun hc => ?_)
              · have t := iT t hc
                have ha24 : (rt_ (σ (x1 + 15) 2) (σ (x1 + 16)) 5 3 x7) < x4 := hc
                refine i9 (L' := [.ref 54, .ref x1, .int (wI x2), .int (wI x3), .int (wI x4), .int (wI x5), .ref (x1 + 15), .int (wI (x7 + (-1))), .int (wI (rt_ (σ (x1 + 15) 2) (σ (x1 + 16)) 5 1 x7)), .null]) c_12_112 rfl rfl (i38 c_12_115 rfl t)
              · have t := iF t hc
                have ha24 : ¬ ((rt_ (σ (x1 + 15) 2) (σ (x1 + 16)) 5 3 x7) < x4) := hc
                refine i5n c_12_95 rfl (i39n c_12_97 rfl (i9 (L' := [.ref 54, .ref x1, .int (wI x2), .int (wI x3), .int (wI x4), .int (wI x5), .ref (x1 + 15), .int (wI (x7 + (-1))), .int (wI (rt_ (σ (x1 + 15) 2) (σ (x1 + 16)) 5 1 x7)), .null]) c_12_112 rfl rfl (i38 c_12_115 rfl t)))
    · have t := t.2 j7 q9 q10 q11
      have hj7 := q9
      show wi (d + 6) 12 42 [.ref 54, .ref x1, .int (wI x2), .int (wI x3), .int (wI x4), .int (wI x5), .ref (x1 + 15), .int (wI x7), .int (wI (rt_ (σ (x1 + 15) 2) (σ (x1 + 16)) 5 1 x7)), y9] [.ref j7] S σ τ Q
      refine i8 (L' := [.ref 54, .ref x1, .int (wI x2), .int (wI x3), .int (wI x4), .int (wI x5), .ref (x1 + 15), .int (wI x7), .int (wI (rt_ (σ (x1 + 15) 2) (σ (x1 + 16)) 5 1 x7)), .ref j7]) c_12_42 rfl (i3 c_12_44 rfl (i1 c_12_46 ?_))
      refine i37 c_12_47 (rg_rt_ (fun k => kO_r K3 _ k) _ _ _ _) (by decide) rfl (fun hc => ?_) (fun hc => ?_)
      · have t := iT t hc
        have ha25 : (rt_ (σ (x1 + 15) 2) (σ (x1 + 16)) 5 1 x7) = (-1) := hc
        refine i5 c_12_56 rfl (i3 c_12_58 rfl (i1 c_12_60 ?_))
        refine i80 (As := [.int (wI x7), .int (wI 4)]) (rest := []) c_12_61 mi_55 rfl rfl (Nat.le_of_ble_eq_true rfl) (Nat.le_of_ble_eq_true rfl) (lo (lyt_15 hx1) (by have := tw_b hx1; omega)) (q_at (ow_forces hx1) r1 (by decide) ?_)
        show wi (d + 6) 12 64 [.ref 54, .ref x1, .int (wI x2), .int (wI x3), .int (wI x4), .int (wI x5), .ref (x1 + 15), .int (wI x7), .int (wI (rt_ (σ (x1 + 15) 2) (σ (x1 + 16)) 5 1 x7)), .ref j7] [.int (wI (rt_ (σ (x1 + 15) 2) (σ (x1 + 16)) 5 4 x7))] S σ τ Q
        obtain ⟨r26, t⟩ := t
        refine i3 c_12_64 rfl ?_
        refine i37 c_12_66 (rg_rt_ (fun k => kO_r K3 _ k) _ _ _ _) r26 rfl (fun hc => ?_) (fun hc => ?_)
        · have t := iT t hc
          have ha27 : x5 < (rt_ (σ (x1 + 15) 2) (σ (x1 + 16)) 5 4 x7) := hc
          refine i9 (L' := [.ref 54, .ref x1, .int (wI x2), .int (wI x3), .int (wI x4), .int (wI x5), .ref (x1 + 15), .int (wI (x7 + (-1))), .int (wI (rt_ (σ (x1 + 15) 2) (σ (x1 + 16)) 5 1 x7)), .ref j7]) c_12_112 rfl rfl (i38 c_12_115 rfl t)
        · have t := iF t hc
          have ha27 : ¬ (x5 < (rt_ (σ (x1 + 15) 2) (σ (x1 + 16)) 5 4 x7)) := hc
          refine i5 c_12_69 rfl (i3 c_12_71 rfl (i1 c_12_73 ?_))
          refine i80 (As := [.int (wI x7), .int (wI 2)]) (rest := []) c_12_74 mi_55 rfl rfl (Nat.le_of_ble_eq_true rfl) (Nat.le_of_ble_eq_true rfl) (lo (lyt_15 hx1) (by have := tw_b hx1; omega)) (q_at (ow_forces hx1) r1 (by decide) ?_)
          show wi (d + 6) 12 77 [.ref 54, .ref x1, .int (wI x2), .int (wI x3), .int (wI x4), .int (wI x5), .ref (x1 + 15), .int (wI x7), .int (wI (rt_ (σ (x1 + 15) 2) (σ (x1 + 16)) 5 1 x7)), .ref j7] [.int (wI (rt_ (σ (x1 + 15) 2) (σ (x1 + 16)) 5 2 x7))] S σ τ Q
          obtain ⟨r28, t⟩ := t
          refine i3 c_12_77 rfl ?_
          refine i37 c_12_79 (rg_rt_ (fun k => kO_r K3 _ k) _ _ _ _) r28 rfl (fun hc => ?_) (fun hc => ?_)
          · have t := iT t hc
            have ha29 : x4 < (rt_ (σ (x1 + 15) 2) (σ (x1 + 16)) 5 2 x7) := hc
            refine i9 (L' := [.ref 54, .ref x1, .int (wI x2), .int (wI x3), .int (wI x4), .int (wI x5), .ref (x1 + 15), .int (wI (x7 + (-1))), .int (wI (rt_ (σ (x1 + 15) 2) (σ (x1 + 16)) 5 1 x7)), .ref j7]) c_12_112 rfl rfl (i38 c_12_115 rfl t)
          · have t := iF t hc
            have ha29 : ¬ (x4 < (rt_ (σ (x1 + 15) 2) (σ (x1 + 16)) 5 2 x7)) := hc
            refine i3 c_12_82 rfl (i5 c_12_84 rfl (i3 c_12_86 rfl (i1 c_12_88 ?_)))
            refine i80 (As := [.int (wI x7), .int (wI 3)]) (rest := [.int (wI x4)]) c_12_89 mi_55 rfl rfl (Nat.le_of_ble_eq_true rfl) (Nat.le_of_ble_eq_true rfl) (lo (lyt_15 hx1) (by have := tw_b hx1; omega)) (q_at (ow_forces hx1) r1 (by decide) ?_)
            show wi (d + 6) 12 92 [.ref 54, .ref x1, .int (wI x2), .int (wI x3), .int (wI x4), .int (wI x5), .ref (x1 + 15), .int (wI x7), .int (wI (rt_ (σ (x1 + 15) 2) (σ (x1 + 16)) 5 1 x7)), .ref j7] [.int (wI (rt_ (σ (x1 + 15) 2) (σ (x1 + 16)) 5 3 x7)), .int (wI x4)] S σ τ Q
            refine i37 c_12_92 r28 (rg_rt_ (fun k => kO_r K3 _ k) _ _ _ _) rfl (fun hc => ?_) (fun hc => ?_)
            · have t := iT t hc
              have ha30 : (rt_ (σ (x1 + 15) 2) (σ (x1 + 16)) 5 3 x7) < x4 := hc
              refine i9 (L' := [.ref 54, .ref x1, .int (wI x2), .int (wI x3), .int (wI x4), .int (wI x5), .ref (x1 + 15), .int (wI (x7 + (-1))), .int (wI (rt_ (σ (x1 + 15) 2) (σ (x1 + 16)) 5 1 x7)), .ref j7]) c_12_112 rfl rfl (i38 c_12_115 rfl t)
            · have t := iF t hc
              have ha30 : ¬ ((rt_ (σ (x1 + 15) 2) (σ (x1 + 16)) 5 3 x7) < x4) := hc
              refine i5 c_12_95 rfl (i39a c_12_97 (i5 c_12_100 rfl (i3 c_12_102 rfl ?_)))
              refine i80 (As := [.int (wI x2)]) (rest := []) c_12_103 mi_83 rfl rfl (Nat.le_of_ble_eq_true rfl) (Nat.le_of_ble_eq_true rfl) (fun _ => oT_0 hj7) (q_83 hj7 ?_)
              show wi (d + 6) 12 106 [.ref 54, .ref x1, .int (wI x2), .int (wI x3), .int (wI x4), .int (wI x5), .ref (x1 + 15), .int (wI x7), .int (wI (rt_ (σ (x1 + 15) 2) (σ (x1 + 16)) 5 1 x7)), .ref j7] [.int (wI (if ¬ zand (zush (σ j7 3) x2) 1 = 0 then 1 else 0))] S σ τ Q
              refine i36e c_12_106 rfl (fun hc => ?_) (fun hc => ?_)
              · have t := iT t hc
                have ha31 : ¬ zand (zush (σ j7 3) x2) 1 = 0 := hc
                refine i3 c_12_109 rfl ?_
                exact i90 c_12_111 t
              · have t := iF t hc
                have ha31 : ¬ (¬ zand (zush (σ j7 3) x2) 1 = 0) := hc
                refine i9 (L' := [.ref 54, .ref x1, .int (wI x2), .int (wI x3), .int (wI x4), .int (wI x5), .ref (x1 + 15), .int (wI (x7 + (-1))), .int (wI (rt_ (σ (x1 + 15) 2) (σ (x1 + 16)) 5 1 x7)), .ref j7]) c_12_112 rfl rfl (i38 c_12_115 rfl t)
      · have t := iF t hc
        have ha25 : ¬ ((rt_ (σ (x1 + 15) 2) (σ (x1 + 16)) 5 1 x7) = (-1)) := hc
        obtain ⟨r32, t⟩ := t
        refine i3 c_12_50 rfl (i3 c_12_52 rfl ?_)
        refine i37 c_12_53 (rg_rt_ (fun k => kO_r K3 _ k) _ _ _ _) r32 rfl (fun hc => ?_) (fun hc => ?_)
        · have t := iF t hc
          have ha33 : ¬ ((rt_ (σ (x1 + 15) 2) (σ (x1 + 16)) 5 1 x7) = x3) := hc
          refine i9 (L' := [.ref 54, .ref x1, .int (wI x2), .int (wI x3), .int (wI x4), .int (wI x5), .ref (x1 + 15), .int (wI (x7 + (-1))), .int (wI (rt_ (σ (x1 + 15) 2) (σ (x1 + 16)) 5 1 x7)), .ref j7]) c_12_112 rfl rfl (i38 c_12_115 rfl t)
        · have t := iT t (Decidable.not_not.mp hc)
          have ha33 : (rt_ (σ (x1 + 15) 2) (σ (x1 + 16)) 5 1 x7) = x3 := Decidable.not_not.mp hc
          refine i5 c_12_56 rfl (i3 c_12_58 rfl (i1 c_12_60 ?_))
          refine i80 (As := [.int (wI x7), .int (wI 4)]) (rest := []) c_12_61 mi_55 rfl rfl (Nat.le_of_ble_eq_true rfl) (Nat.le_of_ble_eq_true rfl) (lo (lyt_15 hx1) (by have := tw_b hx1; omega)) (q_at (ow_forces hx1) r1 (by decide) ?_)
          show wi (d + 6) 12 64 [.ref 54, .ref x1, .int (wI x2), .int (wI x3), .int (wI x4), .int (wI x5), .ref (x1 + 15), .int (wI x7), .int (wI (rt_ (σ (x1 + 15) 2) (σ (x1 + 16)) 5 1 x7)), .ref j7] [.int (wI (rt_ (σ (x1 + 15) 2) (σ (x1 + 16)) 5 4 x7))] S σ τ Q
          obtain ⟨r34, t⟩ := t
          refine i3 c_12_64 rfl ?_
          refine i37 c_12_66 (rg_rt_ (fun k => kO_r K3 _ k) _ _ _ _) r34 rfl (fun hc => ?_) (fun hc => ?_)
          · have t := iT t hc
            have ha35 : x5 < (rt_ (σ (x1 + 15) 2) (σ (x1 + 16)) 5 4 x7) := hc
            refine i9 (L' := [.ref 54, .ref x1, .int (wI x2), .int (wI x3), .int (wI x4), .int (wI x5), .ref (x1 + 15), .int (wI (x7 + (-1))), .int (wI (rt_ (σ (x1 + 15) 2) (σ (x1 + 16)) 5 1 x7)), .ref j7]) c_12_112 rfl rfl (i38 c_12_115 rfl t)
          · have t := iF t hc
            have ha35 : ¬ (x5 < (rt_ (σ (x1 + 15) 2) (σ (x1 + 16)) 5 4 x7)) := hc
            refine i5 c_12_69 rfl (i3 c_12_71 rfl (i1 c_12_73 ?_))
            refine i80 (As := [.int (wI x7), .int (wI 2)]) (rest := []) c_12_74 mi_55 rfl rfl (Nat.le_of_ble_eq_true rfl) (Nat.le_of_ble_eq_true rfl) (lo (lyt_15 hx1) (by have := tw_b hx1; omega)) (q_at (ow_forces hx1) r1 (by decide) ?_)
            show wi (d + 6) 12 77 [.ref 54, .ref x1, .int (wI x2), .int (wI x3), .int (wI x4), .int (wI x5), .ref (x1 + 15), .int (wI x7), .int (wI (rt_ (σ (x1 + 15) 2) (σ (x1 + 16)) 5 1 x7)), .ref j7] [.int (wI (rt_ (σ (x1 + 15) 2) (σ (x1 + 16)) 5 2 x7))] S σ τ Q
            obtain ⟨r36, t⟩ := t
            refine i3 c_12_77 rfl ?_
            refine i37 c_12_79 (rg_rt_ (fun k => kO_r K3 _ k) _ _ _ _) r36 rfl (fun hc => ?_) (fun hc => ?_)
            · have t := iT t hc
              have ha37 : x4 < (rt_ (σ (x1 + 15) 2) (σ (x1 + 16)) 5 2 x7) := hc
              refine i9 (L' := [.ref 54, .ref x1, .int (wI x2), .int (wI x3), .int (wI x4), .int (wI x5), .ref (x1 + 15), .int (wI (x7 + (-1))), .int (wI (rt_ (σ (x1 + 15) 2) (σ (x1 + 16)) 5 1 x7)), .ref j7]) c_12_112 rfl rfl (i38 c_12_115 rfl t)
            · have t := iF t hc
              have ha37 : ¬ (x4 < (rt_ (σ (x1 + 15) 2) (σ (x1 + 16)) 5 2 x7)) := hc
              refine i3 c_12_82 rfl (i5 c_12_84 rfl (i3 c_12_86 rfl (i1 c_12_88 ?_)))
              refine i80 (As := [.int (wI x7), .int (wI 3)]) (rest := [.int (wI x4)]) c_12_89 mi_55 rfl rfl (Nat.le_of_ble_eq_true rfl) (Nat.le_of_ble_eq_true rfl) (lo (lyt_15 hx1) (by have := tw_b hx1; omega)) (q_at (ow_forces hx1) r1 (by decide) ?_)
              show wi (d + 6) 12 92 [.ref 54, .ref x1, .int (wI x2), .int (wI x3), .int (wI x4), .int (wI x5), .ref (x1 + 15), .int (wI x7), .int (wI (rt_ (σ (x1 + 15) 2) (σ (x1 + 16)) 5 1 x7)), .ref j7] [.int (wI (rt_ (σ (x1 + 15) 2) (σ (x1 + 16)) 5 3 x7)), .int (wI x4)] S σ τ Q
              refine i37 c_12_92 r36 (rg_rt_ (fun k => kO_r K3 _ k) _ _ _ _) rfl (fun hc => ?_) (fun hc => ?_)
              · have t := iT t hc
                have ha38 : (rt_ (σ (x1 + 15) 2) (σ (x1 + 16)) 5 3 x7) < x4 := hc
                refine i9 (L' := [.ref 54, .ref x1, .int (wI x2), .int (wI x3), .int (wI x4), .int (wI x5), .ref (x1 + 15), .int (wI (x7 + (-1))), .int (wI (rt_ (σ (x1 + 15) 2) (σ (x1 + 16)) 5 1 x7)), .ref j7]) c_12_112 rfl rfl (i38 c_12_115 rfl t)
              · have t := iF t hc
                have ha38 : ¬ ((rt_ (σ (x1 + 15) 2) (σ (x1 + 16)) 5 3 x7) < x4) := hc
                refine i5 c_12_95 rfl (i39a c_12_97 (i5 c_12_100 rfl (i3 c_12_102 rfl ?_)))
                refine i80 (As := [.int (wI x2)]) (rest := []) c_12_103 mi_83 rfl rfl (Nat.le_of_ble_eq_true rfl) (Nat.le_of_ble_eq_true rfl) (fun _ => oT_0 hj7) (q_83 hj7 ?_)
                show wi (d + 6) 12 106 [.ref 54, .ref x1, .int (wI x2), .int (wI x3), .int (wI x4), .int (wI x5), .ref (x1 + 15), .int (wI x7), .int (wI (rt_ (σ (x1 + 15) 2) (σ (x1 + 16)) 5 1 x7)), .ref j7] [.int (wI (if ¬ zand (zush (σ j7 3) x2) 1 = 0 then 1 else 0))] S σ τ Q
                refine i36e c_12_106 rfl (fun hc => ?_) (fun hc => ?_)
                · have t := iT t hc
                  have ha39 : ¬ zand (zush (σ j7 3) x2) 1 = 0 := hc
                  refine i3 c_12_109 rfl ?_
                  exact i90 c_12_111 t
                · have t := iF t hc
                  have ha39 : ¬ (¬ zand (zush (σ j7 3) x2) 1 = 0) := hc
                  refine i9 (L' := [.ref 54, .ref x1, .int (wI x2), .int (wI x3), .int (wI x4), .int (wI x5), .ref (x1 + 15), .int (wI (x7 + (-1))), .int (wI (rt_ (σ (x1 + 15) 2) (σ (x1 + 16)) 5 1 x7)), .ref j7]) c_12_112 rfl rfl (i38 c_12_115 rfl t)
theorem q_12 {d : Nat} {S : zS} {σ τ : zI} {Q : zQ} {tn : Nat} {k : Int} {mill : Int} {week : Int} {known : Int} {a : Int → Int} {sort : Int} (htn : tw tn) (p0 : RT σ tn a) (p1 : RX S σ a) (p2 : Jv a) (p3 : jv_T a) (p4 : (sort = (1 : Int) ∧ k = (3 : Int)) ∨ ((6 : Int) ≤ sort ∧ sort ≤ 9 ∧ k = sort)) (p5 : rg mill) (p6 : rg week) (p7 : rg known) (t : Q (some (.int (wI (r_fc a sort mill week known)))) S σ τ) : wc (d + 6) 12 [.ref 54, .ref tn, .int (wI k), .int (wI mill), .int (wI week), .int (wI known)] S σ τ Q := by
  have hC := jC p2
  unfold jv_C at hC
  have hF := jF p2
  have c6 := cF p0
  unfold r_fc at t
  refine wc_of mi_12 rfl (u_12_0 htn ?_)
  have key : ∀ f, -1 ≤ f → f < a 6 → Q (some (.int (wI (r_fcI a sort mill week known f)))) S σ τ → ∀ y z, wi (d + 6) 12 15 [.ref 54, .ref tn, .int (wI k), .int (wI mill), .int (wI week), .int (wI known), .ref (tn + 15), .int (wI f), y, z] [] S σ τ Q := by
    refine lp_dn (fun f hf ih => ?_)
    intro h1 t y z
    refine u_12_15 htn ⟨by omega, ?_⟩
    by_cases c : f < 0
    · have : f = -1 := by omega
      subst this
      rw [if_pos (by omega)]
      exact t
    · have q := hF f (by omega) h1
      rw [if_neg c]
      rw [r_fcI_s (by omega)] at t
      have hr : 0 ≤ f ∧ f < a 6 := ⟨by omega, h1⟩
      rw [vF0 p0 hr, vF1 p0 hr, vF2 p0 hr, vF3 p0 hr, vF4 p0 hr]
      have tn_ : ¬ fc_c a sort mill week known f → ∀ y z, wi (d + 6) 12 15 [.ref 54, .ref tn, .int (wI k), .int (wI mill), .int (wI week), .int (wI known), .ref (tn + 15), .int (wI (f + -1)), y, z] [] S σ τ Q := fun h y z => by
        rw [if_neg h] at t
        exact ih (by omega) (by omega) t y z
      have tp : fc_c a sort mill week known f → Q (some (.int (wI f))) S σ τ := fun h => by rw [if_pos h] at t; exact t
      clear t ih
      refine ⟨a, p1, q.1.2, fun e => absurd e (by omega), fun j oj _ tx => ?_⟩
      have hc := TX_hc tx p3 q.1.1 q.1.2 p4
      generalize zand (zush (σ j 3) k) 1 = Z at hc
      clear tx
      repeat' (first | exact tn_ (fun h => by have := h.2.2.1; have := h.2.1; have := h.1; omega) _ _ | refine ⟨p5, ?_⟩ | refine ⟨p6, ?_⟩ | refine ⟨p7, ?_⟩ | refine ifI (fun _ => ?_) (fun _ => ?_))
      all_goals first | exact tp ⟨by omega, by omega, by omega, Decidable.not_not.mp (fun h => by simp_all)⟩ | exact tn_ (fun h => absurd h.2.2.2 (hc.mp (Decidable.not_not.mp (by assumption)))) _ _
  have e := key (a 6 - 1) (by omega) (by omega) t
  rw [← c6] at e
  exact e _ _
