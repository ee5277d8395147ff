/-! ===== a WEEK: WAGES, of the reference (segments printed by wip/whole, contracts own work) ===== -/
def wk_pm (a : Int → Int) (m : Int) : Int := wk_py a m (wk_by a m)
def wk_vx (a : Int → Int) (m p : Int) : Int := if 0 ≤ m ∧ wk_D a m then (if 3 ≤ a (3652 + 12 * p + 3) then wk_hn a p * a (3652 + 12 * p + 5) else wk_np a p * wk_pm a m) else 0
/-- what a PERSON's work is worth, what it keeps, what of one's work goes to whom -/
def wk_v (a : Int → Int) (p : Int) : Int := wk_vx a (a (3652 + 12 * p + 4)) p
def wk_o (a : Int → Int) (p : Int) : Int := if a (3652 + 12 * p + 3) = 2 then (wk_v a p).tdiv 3 else wk_v a p
def wk_e (a : Int → Int) (q p : Int) : Int := (if q = p then wk_o a q else 0) + (if a (3652 + 12 * q + 3) = 2 ∧ a (3652 + 12 * q + 6) = p then wk_v a q - wk_o a q else 0)
def wk_W (a : Int → Int) (m n p : Int) : Int := sI (fun q => if a (3652 + 12 * q + 4) < m ∨ a (3652 + 12 * q + 4) = m ∧ q < n then wk_e a q p else 0) (a 4)
/-- WAGES of a PERSON -/
def wk_Wf (a : Int → Int) (p : Int) : Int := sI (fun q => wk_e a q p) (a 4)
def wk_Sm (a : Int → Int) (m n : Int) : Int := sI (fun q => if a (3652 + 12 * q + 4) = m then wk_v a q else 0) n
def wk_md (a : Int → Int) (m : Int) : Int := if wk_D a m then wk_tx a m - (wk_s a m (a 4)).2.2 else 0
def wk_c3 (a : Int → Int) (m : Int) : Int := if wk_D a m then zw ((wk_s a m (a 4)).1 + (wk_md a m * (a (4372 + 8 * wk_by a m + 2) - a 11) - wk_Sm a m (a 4))) else a (3300 + 16 * m + 2)
def wk_cl (a : Int → Int) (m : Int) : Int := if wk_D a m ∧ wk_c3 a m < 0 then 1 else a (3300 + 16 * m + 5)
def wk_lw (a : Int → Int) (n o : Int) : Int := sI (fun m => if wk_by a m = o then wk_md a m else 0) n
def wk_pd (a : Int → Int) (n : Int) : Int := sI (fun m => if wk_D a m then wk_Sm a m (a 4) else 0) n
def PE3 (a : Int → Int) (m n p c : Int) : Int := if c = 8 ∧ p < a 4 then wk_W a m n p else PE2 a (a 1) p c
def MI3 (a : Int → Int) (n m c : Int) : Int := if (m < n ∧ wk_D a m) ∧ (c = 2 ∨ c = 5) then (if c = 2 then wk_c3 a m else wk_cl a m) else MI2 a (a 1) m c
def OD3 (a : Int → Int) (n o c : Int) : Int := if c = 1 ∧ o < a 7 then a (4372 + 8 * o + 1) - wk_lw a n o else OD1 a (a 1) o c
section WG
variable {a : Int → Int} {m : Int}
theorem wk_v_b (hJ : Jv a) (hT : jv_T a) (h0 : a 0 ≤ 399) {p : Int} (hp : 0 ≤ p ∧ p < a 4) : (0 ≤ wk_v a p ∧ wk_v a p ≤ 5500000) ∧ (0 ≤ wk_o a p ∧ wk_o a p ≤ wk_v a p) := by
  have hP := jP hJ p hp.1 hp.2
  have hC := jC hJ
  unfold jv_C at hC
  have b : 0 ≤ wk_v a p ∧ wk_v a p ≤ 5500000 := by
    unfold wk_v wk_vx
    split
    · next h =>
      split
      · have hb := wk_hn_b (Jl_of hJ) hT p
        have := Int.mul_le_mul hb.2 (show a (3652 + 12 * p + 5) ≤ 50 by omega) (by omega) (by omega)
        have := Int.mul_nonneg hb.1 (show 0 ≤ a (3652 + 12 * p + 5) by omega)
        omega
      · have nb : 0 ≤ wk_np a p ∧ wk_np a p ≤ 500 := wk_nx_b hJ hT h0 (by omega) hp
        have yb := (wk_by_b hJ hT h0 (m := a (3652 + 12 * p + 4)) (by omega) h.2).2.2.2.1
        have := Int.mul_le_mul nb.2 yb.2 yb.1 (by omega)
        have := Int.mul_nonneg nb.1 yb.1
        unfold wk_pm
        omega
    · omega
  refine ⟨b, ?_⟩
  unfold wk_o
  split
  · rw [Int.tdiv_eq_ediv_of_nonneg b.1]; omega
  · omega
theorem wk_e_b (hJ : Jv a) (hT : jv_T a) (h0 : a 0 ≤ 399) {q p : Int} (hq : 0 ≤ q ∧ q < a 4) : 0 ≤ wk_e a q p ∧ wk_e a q p ≤ wk_v a q := by
  have b := wk_v_b hJ hT h0 hq
  unfold wk_e
  repeat' split
  all_goals omega
theorem wk_W_b (hJ : Jv a) (hT : jv_T a) (h0 : a 0 ≤ 399) {n p : Int} : 0 ≤ wk_W a m n p ∧ wk_W a m n p ≤ 330000000 := by
  have hC := jC hJ
  unfold jv_C at hC
  have := sI_b (f := fun q => if a (3652 + 12 * q + 4) < m ∨ a (3652 + 12 * q + 4) = m ∧ q < n then wk_e a q p else 0) (n := a 4) (lo := 0) (hi := 5500000) (by omega) (fun q q0 q1 => by
    have b := wk_e_b hJ hT h0 (p := p) ⟨q0, q1⟩
    have c := (wk_v_b hJ hT h0 ⟨q0, q1⟩).1
    try dsimp only
    split <;> omega)
  unfold wk_W
  omega
theorem wk_Sm_b (hJ : Jv a) (hT : jv_T a) (h0 : a 0 ≤ 399) {n : Int} (hn : 0 ≤ n ∧ n ≤ a 4) : 0 ≤ wk_Sm a m n ∧ wk_Sm a m n ≤ 330000000 := by
  have hC := jC hJ
  unfold jv_C at hC
  have := sI_b (f := fun q => if a (3652 + 12 * q + 4) = m then wk_v a q else 0) (n := n) (lo := 0) (hi := 5500000) (by omega) (fun q q0 q1 => by
    have c := (wk_v_b hJ hT h0 (p := q) ⟨q0, by omega⟩).1
    try dsimp only
    split <;> omega)
  unfold wk_Sm
  omega
theorem wk_W_s {n p : Int} (hn : 0 ≤ n ∧ n < a 4) : wk_W a m (n + 1) p = wk_W a m n p + (if a (3652 + 12 * n + 4) = m then wk_e a n p else 0) := by
  unfold wk_W
  refine sI_1 hn (fun q q0 q1 q2 => ?_) ?_
  · try dsimp only
    by_cases c : a (3652 + 12 * q + 4) < m ∨ a (3652 + 12 * q + 4) = m ∧ q < n
    · rw [if_pos c, if_pos (by omega)]
    · rw [if_neg c, if_neg (by omega)]
  · try dsimp only
    by_cases c : a (3652 + 12 * n + 4) = m
    · rw [if_pos (by omega), if_neg (by omega), if_pos c]; omega
    · by_cases c2 : a (3652 + 12 * n + 4) < m
      · rw [if_pos (by omega), if_pos (by omega), if_neg c]; omega
      · rw [if_neg (by omega), if_neg (by omega), if_neg c]; omega
theorem wk_W_e {p : Int} : wk_W a m (a 4) p = wk_W a (m + 1) 0 p := by
  unfold wk_W
  refine sI_c (fun q q0 q1 => ?_)
  try dsimp only
  by_cases c : a (3652 + 12 * q + 4) < m ∨ a (3652 + 12 * q + 4) = m ∧ q < a 4
  · rw [if_pos c, if_pos (by omega)]
  · rw [if_neg c, if_neg (by omega)]
theorem wk_v_no {q : Int} (h : ¬ wk_D a (a (3652 + 12 * q + 4))) (p : Int) : wk_v a q = 0 ∧ wk_e a q p = 0 := by
  have e : wk_v a q = 0 := by unfold wk_v wk_vx; rw [if_neg (fun x => h x.2)]
  refine ⟨e, ?_⟩
  unfold wk_e wk_o
  rw [e]
  repeat' split
  all_goals first | rfl | decide
theorem wk_W_no {p : Int} (h : ¬ wk_D a m) : wk_W a (m + 1) 0 p = wk_W a m 0 p := by
  unfold wk_W
  refine sI_c (fun q q0 q1 => ?_)
  try dsimp only
  by_cases c : a (3652 + 12 * q + 4) = m
  · rw [if_pos (by omega), if_neg (by omega), (wk_v_no (by rw [c]; exact h) p).2]
  · by_cases c2 : a (3652 + 12 * q + 4) < m
    · rw [if_pos (by omega), if_pos (by omega)]
    · rw [if_neg (by omega), if_neg (by omega)]
theorem wk_W_f (hJ : Jv a) {p : Int} : wk_W a (a 1) 0 p = wk_Wf a p := by
  unfold wk_W wk_Wf
  refine sI_c (fun q q0 q1 => ?_)
  have hP := jP hJ q q0 q1
  try dsimp only
  rw [if_pos (by omega)]
theorem wk_W_0 (hC : jv_C a) {p : Int} : wk_W a 0 0 p = 0 := by
  unfold jv_C at hC
  have : wk_W a 0 0 p = sI (fun _ => 0) (a 4) := by
    unfold wk_W
    refine sI_c (fun q q0 q1 => ?_)
    try dsimp only
    split
    · next h =>
      have e : wk_v a q = 0 := by unfold wk_v wk_vx; rw [if_neg (by omega)]
      unfold wk_e wk_o
      rw [e]
      repeat' split
      all_goals first | rfl | decide
    · rfl
  rw [this, sI_z]
theorem wk_md_b (hJ : Jv a) (hT : jv_T a) (h0 : a 0 ≤ 399) (hm : 0 ≤ m ∧ m < a 1) : 0 ≤ wk_md a m ∧ wk_md a m ≤ 500 ∧ (wk_D a m → wk_md a m ≤ wk_tk a (wk_T a m) m) := by
  have hC := jC hJ
  unfold jv_C at hC
  unfold wk_md
  split
  · next h =>
    have s := wk_s_b hJ hT h0 hm h (a 4) (by omega) (by omega)
    have y := (wk_by_b hJ hT h0 hm h).2.2.2.2.2.2
    have e : wk_tx a m = wk_tk a (wk_T a m) m := if_pos h
    refine ⟨by omega, by omega, fun _ => by omega⟩
  · next h => exact ⟨by omega, by omega, fun q => absurd q h⟩
theorem wk_lw_s {n o : Int} (hn : 0 ≤ n) : wk_lw a (n + 1) o = wk_lw a n o + (if wk_by a n = o then wk_md a n else 0) := sI_s hn
theorem wk_lw_b (hJ : Jv a) (hT : jv_T a) (h0 : a 0 ≤ 399) : ∀ n, 0 ≤ n → n ≤ a 1 → ∀ o, 0 ≤ o → o < a 7 → 0 ≤ wk_lw a n o ∧ wk_lw a n o ≤ wk_T a n o := by
  have key : ∀ n : Nat, (n : Int) ≤ a 1 → ∀ o, 0 ≤ o → o < a 7 → 0 ≤ wk_lw a n o ∧ wk_lw a n o ≤ wk_T a n o := by
    intro n
    induction n with
    | zero => intro _ o _ _; exact ⟨Int.le_refl _, Int.le_refl _⟩
    | succ n ih =>
      intro hn o o0 o1
      have i := ih (by omega) o o0 o1
      have md := wk_md_b hJ hT h0 (m := n) (by omega)
      rw [show ((n + 1 : Nat) : Int) = (n : Int) + 1 by omega, wk_lw_s (by omega), wk_T_s (by omega)]
      by_cases d : wk_D a n
      · have e : wk_by a n = wk_bo a (wk_T a n) n := if_pos d
        have k := md.2.2 d
        rw [if_pos (show wk_do a (wk_T a n) n from d)]
        by_cases c : o = wk_bo a (wk_T a n) n
        · rw [if_pos (by omega), ← c, u1_s]; omega
        · rw [if_neg (by omega), u1_n c]; omega
      · have e : wk_by a n = -1 := if_neg d
        rw [if_neg (show ¬ wk_do a (wk_T a n) n from d), if_neg (by omega)]; omega
  intro n n0 n1
  have := key n.toNat (by omega)
  rw [Int.toNat_of_nonneg n0] at this
  exact this
theorem MI3_x {x c : Int} (h : ¬ (x = m ∧ (c = 2 ∨ c = 5))) : MI3 a (m + 1) x c = MI3 a m x c := by
  unfold MI3
  by_cases c1 : (x < m ∧ wk_D a x) ∧ (c = 2 ∨ c = 5)
  · rw [if_pos c1, if_pos (show (x < m + 1 ∧ wk_D a x) ∧ (c = 2 ∨ c = 5) from ⟨⟨by omega, c1.1.2⟩, c1.2⟩)]
  · rw [if_neg c1, if_neg (fun q : (x < m + 1 ∧ wk_D a x) ∧ (c = 2 ∨ c = 5) => c1 ⟨⟨by omega, q.1.2⟩, q.2⟩)]
theorem MI3_no (h : ¬ wk_D a m) (x c : Int) : MI3 a (m + 1) x c = MI3 a m x c := by
  by_cases e : x = m ∧ (c = 2 ∨ c = 5)
  · obtain ⟨rfl, _⟩ := e
    unfold MI3
    rw [if_neg (fun q => h q.1.2), if_neg (fun q => h q.1.2)]
  · exact MI3_x e
theorem MI3_m (h : wk_D a m) (c : Int) (hc : c = 2 ∨ c = 5) : MI3 a (m + 1) m c = if c = 2 then wk_c3 a m else wk_cl a m := by
  unfold MI3
  rw [if_pos (show (m < m + 1 ∧ wk_D a m) ∧ (c = 2 ∨ c = 5) from ⟨⟨by omega, h⟩, hc⟩)]
theorem MI3_k {n x c : Int} (hx : x < a 1) (hc : c = 7 ∨ c = 8 ∨ c = 9 ∨ c = 11) : MI3 a n x c = if c = 7 then wk_ls a x else if c = 8 then wk_ht a x else if c = 9 then wk_by a x else wk_tx a x := by
  unfold MI3
  rw [if_neg (by omega)]
  exact MI2_k hx hc
theorem MI3_2 {x c : Int} (hx : x < a 1) (h : wk_D a x) (hc : c = 2 ∨ c = 10) : MI3 a x x c = if c = 2 then (wk_s a x (a 4)).1 else wk_md a x := by
  unfold MI3 MI2
  rw [if_neg (by omega), if_pos (show (x < a 1 ∧ wk_D a x) ∧ (c = 2 ∨ c = 4 ∨ c = 10) from ⟨⟨hx, h⟩, by omega⟩)]
  rcases hc with rfl | rfl
  · rw [if_pos rfl, if_pos rfl]
  · rw [if_neg (by omega), if_neg (by omega), if_neg (by omega)]
    unfold wk_md
    rw [if_pos h]
theorem sM_3 {n : Int} : sM a (MI3 a n) := fun p c h1 h2 h => by
  unfold MI3
  rw [if_neg (by omega)]
  exact sM_2 p c h1 h2 h
theorem sP_3 {n : Int} : sP a (PE3 a m n) := fun p c h1 h2 h3 h4 h7 h8 => by
  unfold PE3
  rw [if_neg (by omega)]
  exact sP_2 p c h1 h2 h3 h4 h7 h8
theorem OD3_no {n : Int} (hn : 0 ≤ n) (h : ¬ wk_D a n) (o c : Int) (ho : 0 ≤ o) : OD3 a (n + 1) o c = OD3 a n o c := by
  unfold OD3
  have e : wk_by a n = -1 := if_neg h
  rw [wk_lw_s hn, if_neg (show ¬ wk_by a n = o by omega), Int.add_zero]
theorem OD3_D {n : Int} (hn : 0 ≤ n) (hb : wk_by a n < a 7) (o c : Int) : t2 (OD3 a n) (wk_by a n) 1 (a (4372 + 8 * wk_by a n + 1) - wk_lw a n (wk_by a n) - wk_md a n) o c = OD3 a (n + 1) o c := by
  unfold t2 OD3
  rw [wk_lw_s hn]
  by_cases c1 : o = wk_by a n ∧ c = 1
  · obtain ⟨rfl, rfl⟩ := c1
    rw [if_pos ⟨rfl, rfl⟩, if_pos ⟨rfl, hb⟩, if_pos rfl]; omega
  · rw [if_neg c1]
    by_cases c2 : c = 1 ∧ o < a 7
    · rw [if_pos c2, if_pos c2, if_neg (fun q => c1 ⟨q.symm, c2.1⟩), Int.add_zero]
    · rw [if_neg c2, if_neg c2]
theorem PE3_8 {n p : Int} (hp : p < a 4) : PE3 a m n p 8 = wk_W a m n p := by
  unfold PE3
  rw [if_pos ⟨rfl, hp⟩]
theorem wI_zw2 (x y : Int) : wI (zw (zw x + y)) = wI (zw x + y) := wI_zw _
end WG
-- method 285: MillTownModel.gets(II)V
theorem c_285_0 : pg_cd 285 0 = (5, 1, 0, 0, 0) := by decide +kernel
theorem c_285_1 : pg_cd 285 1 = (45, 12, 8, 0, 0) := by decide +kernel
theorem c_285_4 : pg_cd 285 4 = (1, 3, 0, 0, 3652) := by decide +kernel
theorem c_285_7 : pg_cd 285 7 = (1, 2, 0, 0, 12) := by decide +kernel
theorem c_285_9 : pg_cd 285 9 = (3, 1, 0, 1, 0) := by decide +kernel
theorem c_285_10 : pg_cd 285 10 = (12, 1, 0, 0, 0) := by decide +kernel
theorem c_285_11 : pg_cd 285 11 = (10, 1, 0, 0, 0) := by decide +kernel
theorem c_285_12 : pg_cd 285 12 = (1, 2, 0, 0, 8) := by decide +kernel
theorem c_285_14 : pg_cd 285 14 = (10, 1, 0, 0, 0) := by decide +kernel
theorem c_285_15 : pg_cd 285 15 = (34, 1, 0, 0, 0) := by decide +kernel
theorem c_285_16 : pg_cd 285 16 = (50, 1, 0, 0, 0) := by decide +kernel
theorem c_285_17 : pg_cd 285 17 = (3, 1, 0, 2, 0) := by decide +kernel
theorem c_285_18 : pg_cd 285 18 = (10, 1, 0, 0, 0) := by decide +kernel
theorem c_285_19 : pg_cd 285 19 = (54, 1, 0, 0, 0) := by decide +kernel
theorem c_285_20 : pg_cd 285 20 = (94, 0, 0, 0, 0) := by decide +kernel
theorem mi_285 : pg_mc 285 = 12 ∧ pg_na 285 = 2 ∧ pg_mx 285 = 3 := by decide +kernel
set_option maxRecDepth 20000 in
theorem u_285_0 {d : Nat} {S : zS} {σ τ : zI} {Q : zQ} {x1 : Int} {x2 : Int} (t : (0 ≤ (3652 + (12 * x1)) + 8 ∧ (3652 + (12 * x1)) + 8 < 112300) ∧ ∃ w3 : Int, wI w3 = wI ((σ 84 ((3652 + (12 * x1)) + 8)) + x2) ∧ rg w3 ∧ Q none S (uc σ 84 (u1 (σ 84) ((3652 + (12 * x1)) + 8) w3)) τ) : wi (d + 0) 285 0 [.ref 83, .int (wI x1), .int (wI x2)] [] S σ τ Q := by
  obtain ⟨r1, t⟩ := t
  refine i5 c_285_0 rfl (i45 c_285_1 (lo (c := 83) (kd := 112) (n := 0) rfl (by decide)) (lro (c := 83) (k := 0) (j := 84) (by decide)) (i1 c_285_4 (i1 c_285_7 (i3 c_285_9 rfl (i12 c_285_10 (i10 c_285_11 (i1 c_285_12 (i10 c_285_14 (i34a c_285_15 (wi_ok (fun K2 => ?_)))))))))))
  obtain ⟨w3, e4, r5, t⟩ := t
  refine i50 (v := σ 84 ((3652 + (12 * x1)) + 8)) c_285_16 (lo (c := 84) (kd := 0) (n := 112300) rfl (by decide)) (by decide) r1 rfl (i3 c_285_17 rfl (i10 c_285_18 (i54 (σ1 := uc σ 84 (u1 (σ 84) ((3652 + (12 * x1)) + 8) w3)) c_285_19 (lo (c := 84) (kd := 0) (n := 112300) rfl (by decide)) (by decide) r1 (by decide) e4 r5 (wr_ rfl rfl) ?_)))
  exact i94 c_285_20 t
theorem q_285 {d : Nat} {S : zS} {σ τ : zI} {Q : zQ} {p : Int} {n : Int} (p0 : 0 ≤ p ∧ p < (60 : Int)) (p1 : rg (σ 84 (3652 + 12 * p + 8) + n)) (t : Q none S (uc σ 84 (u1 (σ 84) (3652 + 12 * p + 8) (σ 84 (3652 + 12 * p + 8) + n))) τ) : wc (d + 0) 285 [.ref 83, .int (wI p), .int (wI n)] S σ τ Q := by
  exact wc_of mi_285 rfl (u_285_0 ⟨by omega, _, rfl, p1, t⟩)
/-- what payAll leaves -/
def PAF (a a1 : Int → Int) (n : Int) (σ σ1 : zI) : Prop := σ1 84 = As a1 (PE3 a n 0) (MI3 a n) (OD3 a n) ∧ σ1 83 31 = zw (σ 83 31 + wk_pd a n) ∧ (∀ c, c ≠ 83 → c ≠ 84 → c ≠ 91 → c ≠ 92 → σ1 c = σ c) ∧ ∀ k, k < 22 ∨ 25 < k ∧ k ≠ 31 → σ1 83 k = σ 83 k
-- method 286: MillTownModel.payAll(I)V
theorem c_286_0 : pg_cd 286 0 = (1, 1, 0, 0, 0) := by decide +kernel
theorem c_286_1 : pg_cd 286 1 = (6, 1, 0, 2, 0) := by decide +kernel
theorem c_286_2 : pg_cd 286 2 = (3, 1, 0, 2, 0) := by decide +kernel
theorem c_286_3 : pg_cd 286 3 = (5, 1, 0, 0, 0) := by decide +kernel
theorem c_286_4 : pg_cd 286 4 = (45, 12, 8, 0, 0) := by decide +kernel
theorem c_286_7 : pg_cd 286 7 = (1, 1, 0, 0, 1) := by decide +kernel
theorem c_286_8 : pg_cd 286 8 = (50, 1, 0, 0, 0) := by decide +kernel
theorem c_286_9 : pg_cd 286 9 = (37, 3, 0, 3, 300) := by decide +kernel
theorem c_286_12 : pg_cd 286 12 = (1, 3, 0, 0, 3300) := by decide +kernel
theorem c_286_15 : pg_cd 286 15 = (1, 2, 0, 0, 16) := by decide +kernel
theorem c_286_17 : pg_cd 286 17 = (3, 1, 0, 2, 0) := by decide +kernel
theorem c_286_18 : pg_cd 286 18 = (12, 1, 0, 0, 0) := by decide +kernel
theorem c_286_19 : pg_cd 286 19 = (10, 1, 0, 0, 0) := by decide +kernel
theorem c_286_20 : pg_cd 286 20 = (6, 1, 0, 3, 0) := by decide +kernel
theorem c_286_21 : pg_cd 286 21 = (5, 1, 0, 0, 0) := by decide +kernel
theorem c_286_22 : pg_cd 286 22 = (45, 12, 8, 0, 0) := by decide +kernel
theorem c_286_25 : pg_cd 286 25 = (3, 1, 0, 3, 0) := by decide +kernel
theorem c_286_26 : pg_cd 286 26 = (1, 2, 0, 0, 8) := by decide +kernel
theorem c_286_28 : pg_cd 286 28 = (10, 1, 0, 0, 0) := by decide +kernel
theorem c_286_29 : pg_cd 286 29 = (50, 1, 0, 0, 0) := by decide +kernel
theorem c_286_30 : pg_cd 286 30 = (36, 3, 0, 1, 6) := by decide +kernel
theorem c_286_33 : pg_cd 286 33 = (38, 3, 0, 0, 270) := by decide +kernel
theorem c_286_36 : pg_cd 286 36 = (1, 3, 0, 0, 4372) := by decide +kernel
theorem c_286_39 : pg_cd 286 39 = (1, 2, 0, 0, 8) := by decide +kernel
theorem c_286_41 : pg_cd 286 41 = (5, 1, 0, 0, 0) := by decide +kernel
theorem c_286_42 : pg_cd 286 42 = (45, 12, 8, 0, 0) := by decide +kernel
theorem c_286_45 : pg_cd 286 45 = (3, 1, 0, 3, 0) := by decide +kernel
theorem c_286_46 : pg_cd 286 46 = (1, 2, 0, 0, 9) := by decide +kernel
theorem c_286_48 : pg_cd 286 48 = (10, 1, 0, 0, 0) := by decide +kernel
theorem c_286_49 : pg_cd 286 49 = (50, 1, 0, 0, 0) := by decide +kernel
theorem c_286_50 : pg_cd 286 50 = (12, 1, 0, 0, 0) := by decide +kernel
theorem c_286_51 : pg_cd 286 51 = (10, 1, 0, 0, 0) := by decide +kernel
theorem c_286_52 : pg_cd 286 52 = (6, 2, 0, 4, 0) := by decide +kernel
theorem c_286_54 : pg_cd 286 54 = (5, 1, 0, 0, 0) := by decide +kernel
theorem c_286_55 : pg_cd 286 55 = (5, 1, 0, 0, 0) := by decide +kernel
theorem c_286_56 : pg_cd 286 56 = (45, 12, 8, 0, 0) := by decide +kernel
theorem c_286_59 : pg_cd 286 59 = (3, 2, 0, 4, 0) := by decide +kernel
theorem c_286_61 : pg_cd 286 61 = (50, 1, 0, 0, 0) := by decide +kernel
theorem c_286_62 : pg_cd 286 62 = (3, 1, 0, 2, 0) := by decide +kernel
theorem c_286_63 : pg_cd 286 63 = (3, 1, 0, 1, 0) := by decide +kernel
theorem c_286_64 : pg_cd 286 64 = (3, 1, 0, 1, 0) := by decide +kernel
theorem c_286_65 : pg_cd 286 65 = (80, 271, 337, 0, 0) := by decide +kernel
theorem c_286_68 : pg_cd 286 68 = (6, 2, 0, 5, 0) := by decide +kernel
theorem c_286_70 : pg_cd 286 70 = (1, 1, 0, 0, 0) := by decide +kernel
theorem c_286_71 : pg_cd 286 71 = (6, 2, 0, 6, 0) := by decide +kernel
theorem c_286_73 : pg_cd 286 73 = (1, 1, 0, 0, 0) := by decide +kernel
theorem c_286_74 : pg_cd 286 74 = (6, 2, 0, 7, 0) := by decide +kernel
theorem c_286_76 : pg_cd 286 76 = (3, 2, 0, 7, 0) := by decide +kernel
theorem c_286_78 : pg_cd 286 78 = (5, 1, 0, 0, 0) := by decide +kernel
theorem c_286_79 : pg_cd 286 79 = (45, 12, 8, 0, 0) := by decide +kernel
theorem c_286_82 : pg_cd 286 82 = (1, 1, 0, 0, 4) := by decide +kernel
theorem c_286_83 : pg_cd 286 83 = (50, 1, 0, 0, 0) := by decide +kernel
theorem c_286_84 : pg_cd 286 84 = (37, 3, 0, 3, 126) := by decide +kernel
theorem c_286_87 : pg_cd 286 87 = (5, 1, 0, 0, 0) := by decide +kernel
theorem c_286_88 : pg_cd 286 88 = (3, 2, 0, 7, 0) := by decide +kernel
theorem c_286_90 : pg_cd 286 90 = (1, 1, 0, 0, 4) := by decide +kernel
theorem c_286_91 : pg_cd 286 91 = (80, 199, 102, 0, 0) := by decide +kernel
theorem c_286_94 : pg_cd 286 94 = (3, 1, 0, 2, 0) := by decide +kernel
theorem c_286_95 : pg_cd 286 95 = (37, 3, 0, 0, 6) := by decide +kernel
theorem c_286_98 : pg_cd 286 98 = (38, 3, 0, 0, 106) := by decide +kernel
theorem c_286_101 : pg_cd 286 101 = (5, 1, 0, 0, 0) := by decide +kernel
theorem c_286_102 : pg_cd 286 102 = (3, 2, 0, 7, 0) := by decide +kernel
theorem c_286_104 : pg_cd 286 104 = (1, 1, 0, 0, 3) := by decide +kernel
theorem c_286_105 : pg_cd 286 105 = (80, 199, 102, 0, 0) := by decide +kernel
theorem c_286_108 : pg_cd 286 108 = (1, 1, 0, 0, 3) := by decide +kernel
theorem c_286_109 : pg_cd 286 109 = (37, 3, 0, 2, 20) := by decide +kernel
theorem c_286_112 : pg_cd 286 112 = (5, 1, 0, 0, 0) := by decide +kernel
theorem c_286_113 : pg_cd 286 113 = (3, 2, 0, 7, 0) := by decide +kernel
theorem c_286_115 : pg_cd 286 115 = (80, 283, 361, 0, 0) := by decide +kernel
theorem c_286_118 : pg_cd 286 118 = (5, 1, 0, 0, 0) := by decide +kernel
theorem c_286_119 : pg_cd 286 119 = (3, 2, 0, 7, 0) := by decide +kernel
theorem c_286_121 : pg_cd 286 121 = (1, 1, 0, 0, 5) := by decide +kernel
theorem c_286_122 : pg_cd 286 122 = (80, 199, 102, 0, 0) := by decide +kernel
theorem c_286_125 : pg_cd 286 125 = (12, 1, 0, 0, 0) := by decide +kernel
theorem c_286_126 : pg_cd 286 126 = (38, 3, 0, 0, 13) := by decide +kernel
theorem c_286_129 : pg_cd 286 129 = (5, 1, 0, 0, 0) := by decide +kernel
theorem c_286_130 : pg_cd 286 130 = (45, 12, 50, 33, 0) := by decide +kernel
theorem c_286_133 : pg_cd 286 133 = (3, 2, 0, 7, 0) := by decide +kernel
theorem c_286_135 : pg_cd 286 135 = (50, 1, 0, 0, 0) := by decide +kernel
theorem c_286_136 : pg_cd 286 136 = (3, 2, 0, 5, 0) := by decide +kernel
theorem c_286_138 : pg_cd 286 138 = (12, 1, 0, 0, 0) := by decide +kernel
theorem c_286_139 : pg_cd 286 139 = (6, 2, 0, 8, 0) := by decide +kernel
theorem c_286_141 : pg_cd 286 141 = (3, 2, 0, 6, 0) := by decide +kernel
theorem c_286_143 : pg_cd 286 143 = (3, 2, 0, 8, 0) := by decide +kernel
theorem c_286_145 : pg_cd 286 145 = (10, 1, 0, 0, 0) := by decide +kernel
theorem c_286_146 : pg_cd 286 146 = (6, 2, 0, 6, 0) := by decide +kernel
theorem c_286_148 : pg_cd 286 148 = (5, 1, 0, 0, 0) := by decide +kernel
theorem c_286_149 : pg_cd 286 149 = (3, 2, 0, 7, 0) := by decide +kernel
theorem c_286_151 : pg_cd 286 151 = (5, 1, 0, 0, 0) := by decide +kernel
theorem c_286_152 : pg_cd 286 152 = (3, 2, 0, 7, 0) := by decide +kernel
theorem c_286_154 : pg_cd 286 154 = (1, 1, 0, 0, 3) := by decide +kernel
theorem c_286_155 : pg_cd 286 155 = (80, 199, 102, 0, 0) := by decide +kernel
theorem c_286_158 : pg_cd 286 158 = (1, 1, 0, 0, 2) := by decide +kernel
theorem c_286_159 : pg_cd 286 159 = (37, 3, 0, 1, 10) := by decide +kernel
theorem c_286_162 : pg_cd 286 162 = (3, 2, 0, 8, 0) := by decide +kernel
theorem c_286_164 : pg_cd 286 164 = (1, 1, 0, 0, 3) := by decide +kernel
theorem c_286_165 : pg_cd 286 165 = (16, 1, 0, 0, 0) := by decide +kernel
theorem c_286_166 : pg_cd 286 166 = (38, 3, 0, 0, 5) := by decide +kernel
theorem c_286_169 : pg_cd 286 169 = (3, 2, 0, 8, 0) := by decide +kernel
theorem c_286_171 : pg_cd 286 171 = (80, 285, 364, 0, 0) := by decide +kernel
theorem c_286_174 : pg_cd 286 174 = (5, 1, 0, 0, 0) := by decide +kernel
theorem c_286_175 : pg_cd 286 175 = (3, 2, 0, 7, 0) := by decide +kernel
theorem c_286_177 : pg_cd 286 177 = (1, 1, 0, 0, 3) := by decide +kernel
theorem c_286_178 : pg_cd 286 178 = (80, 199, 102, 0, 0) := by decide +kernel
theorem c_286_181 : pg_cd 286 181 = (1, 1, 0, 0, 2) := by decide +kernel
theorem c_286_182 : pg_cd 286 182 = (37, 3, 0, 1, 22) := by decide +kernel
theorem c_286_185 : pg_cd 286 185 = (5, 1, 0, 0, 0) := by decide +kernel
theorem c_286_186 : pg_cd 286 186 = (5, 1, 0, 0, 0) := by decide +kernel
theorem c_286_187 : pg_cd 286 187 = (3, 2, 0, 7, 0) := by decide +kernel
theorem c_286_189 : pg_cd 286 189 = (1, 2, 0, 0, 6) := by decide +kernel
theorem c_286_191 : pg_cd 286 191 = (80, 199, 102, 0, 0) := by decide +kernel
theorem c_286_194 : pg_cd 286 194 = (3, 2, 0, 8, 0) := by decide +kernel
theorem c_286_196 : pg_cd 286 196 = (3, 2, 0, 8, 0) := by decide +kernel
theorem c_286_198 : pg_cd 286 198 = (1, 1, 0, 0, 3) := by decide +kernel
theorem c_286_199 : pg_cd 286 199 = (16, 1, 0, 0, 0) := by decide +kernel
theorem c_286_200 : pg_cd 286 200 = (11, 1, 0, 0, 0) := by decide +kernel
theorem c_286_201 : pg_cd 286 201 = (80, 285, 364, 0, 0) := by decide +kernel
theorem c_286_204 : pg_cd 286 204 = (9, 3, 0, 7, 1) := by decide +kernel
theorem c_286_207 : pg_cd 286 207 = (38, 3, 0, 0, (-131)) := by decide +kernel
theorem c_286_210 : pg_cd 286 210 = (5, 1, 0, 0, 0) := by decide +kernel
theorem c_286_211 : pg_cd 286 211 = (33, 1, 0, 0, 0) := by decide +kernel
theorem c_286_212 : pg_cd 286 212 = (43, 12, 367, 31, 0) := by decide +kernel
theorem c_286_215 : pg_cd 286 215 = (3, 2, 0, 6, 0) := by decide +kernel
theorem c_286_217 : pg_cd 286 217 = (10, 1, 0, 0, 0) := by decide +kernel
theorem c_286_218 : pg_cd 286 218 = (46, 12, 367, 31, 0) := by decide +kernel
theorem c_286_221 : pg_cd 286 221 = (5, 1, 0, 0, 0) := by decide +kernel
theorem c_286_222 : pg_cd 286 222 = (45, 12, 8, 0, 0) := by decide +kernel
theorem c_286_225 : pg_cd 286 225 = (3, 1, 0, 3, 0) := by decide +kernel
theorem c_286_226 : pg_cd 286 226 = (1, 1, 0, 0, 2) := by decide +kernel
theorem c_286_227 : pg_cd 286 227 = (10, 1, 0, 0, 0) := by decide +kernel
theorem c_286_228 : pg_cd 286 228 = (34, 1, 0, 0, 0) := by decide +kernel
theorem c_286_229 : pg_cd 286 229 = (50, 1, 0, 0, 0) := by decide +kernel
theorem c_286_230 : pg_cd 286 230 = (5, 1, 0, 0, 0) := by decide +kernel
theorem c_286_231 : pg_cd 286 231 = (45, 12, 8, 0, 0) := by decide +kernel
theorem c_286_234 : pg_cd 286 234 = (3, 1, 0, 3, 0) := by decide +kernel
theorem c_286_235 : pg_cd 286 235 = (1, 2, 0, 0, 10) := by decide +kernel
theorem c_286_237 : pg_cd 286 237 = (10, 1, 0, 0, 0) := by decide +kernel
theorem c_286_238 : pg_cd 286 238 = (50, 1, 0, 0, 0) := by decide +kernel
theorem c_286_239 : pg_cd 286 239 = (5, 1, 0, 0, 0) := by decide +kernel
theorem c_286_240 : pg_cd 286 240 = (45, 12, 8, 0, 0) := by decide +kernel
theorem c_286_243 : pg_cd 286 243 = (3, 2, 0, 4, 0) := by decide +kernel
theorem c_286_245 : pg_cd 286 245 = (1, 1, 0, 0, 2) := by decide +kernel
theorem c_286_246 : pg_cd 286 246 = (10, 1, 0, 0, 0) := by decide +kernel
theorem c_286_247 : pg_cd 286 247 = (50, 1, 0, 0, 0) := by decide +kernel
theorem c_286_248 : pg_cd 286 248 = (5, 1, 0, 0, 0) := by decide +kernel
theorem c_286_249 : pg_cd 286 249 = (45, 12, 8, 0, 0) := by decide +kernel
theorem c_286_252 : pg_cd 286 252 = (1, 2, 0, 0, 11) := by decide +kernel
theorem c_286_254 : pg_cd 286 254 = (50, 1, 0, 0, 0) := by decide +kernel
theorem c_286_255 : pg_cd 286 255 = (11, 1, 0, 0, 0) := by decide +kernel
theorem c_286_256 : pg_cd 286 256 = (12, 1, 0, 0, 0) := by decide +kernel
theorem c_286_257 : pg_cd 286 257 = (3, 2, 0, 6, 0) := by decide +kernel
theorem c_286_259 : pg_cd 286 259 = (11, 1, 0, 0, 0) := by decide +kernel
theorem c_286_260 : pg_cd 286 260 = (10, 1, 0, 0, 0) := by decide +kernel
theorem c_286_261 : pg_cd 286 261 = (54, 1, 0, 0, 0) := by decide +kernel
theorem c_286_262 : pg_cd 286 262 = (5, 1, 0, 0, 0) := by decide +kernel
theorem c_286_263 : pg_cd 286 263 = (45, 12, 8, 0, 0) := by decide +kernel
theorem c_286_266 : pg_cd 286 266 = (3, 2, 0, 4, 0) := by decide +kernel
theorem c_286_268 : pg_cd 286 268 = (1, 1, 0, 0, 1) := by decide +kernel
theorem c_286_269 : pg_cd 286 269 = (10, 1, 0, 0, 0) := by decide +kernel
theorem c_286_270 : pg_cd 286 270 = (34, 1, 0, 0, 0) := by decide +kernel
theorem c_286_271 : pg_cd 286 271 = (50, 1, 0, 0, 0) := by decide +kernel
theorem c_286_272 : pg_cd 286 272 = (5, 1, 0, 0, 0) := by decide +kernel
theorem c_286_273 : pg_cd 286 273 = (45, 12, 8, 0, 0) := by decide +kernel
theorem c_286_276 : pg_cd 286 276 = (3, 1, 0, 3, 0) := by decide +kernel
theorem c_286_277 : pg_cd 286 277 = (1, 2, 0, 0, 10) := by decide +kernel
theorem c_286_279 : pg_cd 286 279 = (10, 1, 0, 0, 0) := by decide +kernel
theorem c_286_280 : pg_cd 286 280 = (50, 1, 0, 0, 0) := by decide +kernel
theorem c_286_281 : pg_cd 286 281 = (11, 1, 0, 0, 0) := by decide +kernel
theorem c_286_282 : pg_cd 286 282 = (54, 1, 0, 0, 0) := by decide +kernel
theorem c_286_283 : pg_cd 286 283 = (5, 1, 0, 0, 0) := by decide +kernel
theorem c_286_284 : pg_cd 286 284 = (45, 12, 8, 0, 0) := by decide +kernel
theorem c_286_287 : pg_cd 286 287 = (3, 1, 0, 3, 0) := by decide +kernel
theorem c_286_288 : pg_cd 286 288 = (1, 1, 0, 0, 2) := by decide +kernel
theorem c_286_289 : pg_cd 286 289 = (10, 1, 0, 0, 0) := by decide +kernel
theorem c_286_290 : pg_cd 286 290 = (50, 1, 0, 0, 0) := by decide +kernel
theorem c_286_291 : pg_cd 286 291 = (36, 3, 0, 3, 12) := by decide +kernel
theorem c_286_294 : pg_cd 286 294 = (5, 1, 0, 0, 0) := by decide +kernel
theorem c_286_295 : pg_cd 286 295 = (45, 12, 8, 0, 0) := by decide +kernel
theorem c_286_298 : pg_cd 286 298 = (3, 1, 0, 3, 0) := by decide +kernel
theorem c_286_299 : pg_cd 286 299 = (1, 1, 0, 0, 5) := by decide +kernel
theorem c_286_300 : pg_cd 286 300 = (10, 1, 0, 0, 0) := by decide +kernel
theorem c_286_301 : pg_cd 286 301 = (1, 1, 0, 0, 1) := by decide +kernel
theorem c_286_302 : pg_cd 286 302 = (54, 1, 0, 0, 0) := by decide +kernel
theorem c_286_303 : pg_cd 286 303 = (9, 3, 0, 2, 1) := by decide +kernel
theorem c_286_306 : pg_cd 286 306 = (38, 3, 0, 0, (-304)) := by decide +kernel
theorem c_286_309 : pg_cd 286 309 = (94, 0, 0, 0, 0) := by decide +kernel
theorem mi_286 : pg_mc 286 = 12 ∧ pg_na 286 = 1 ∧ pg_mx 286 = 9 := by decide +kernel
set_option maxRecDepth 20000 in
theorem u_286_0 {d : Nat} {S : zS} {σ τ : zI} {Q : zQ} {x1 : Int} (t : wi (d + 9) 286 2 [.ref 83, .int (wI x1), .int (wI 0), .retAddr 0, .retAddr 0, .retAddr 0, .retAddr 0, .retAddr 0, .retAddr 0] [] S σ τ Q) : wi (d + 9) 286 0 [.ref 83, .int (wI x1), .retAddr 0, .retAddr 0, .retAddr 0, .retAddr 0, .retAddr 0, .retAddr 0, .retAddr 0] [] S σ τ Q := by
  refine i1 c_286_0 (i6 (L' := [.ref 83, .int (wI x1), .int (wI 0), .retAddr 0, .retAddr 0, .retAddr 0, .retAddr 0, .retAddr 0, .retAddr 0]) c_286_1 rfl t)
set_option maxRecDepth 20000 in
theorem u_286_2 {d : Nat} {S : zS} {σ τ : zI} {Q : zQ} {x1 : Int} {x2 : Int} {y3 : Value} {y4 : Value} {y5 : Value} {y6 : Value} {y7 : Value} {y8 : Value} (t : (rg x2) ∧ if (σ 84 1) ≤ x2 then (Q none S σ τ) else ((0 ≤ (3300 + (16 * x2)) + 8 ∧ (3300 + (16 * x2)) + 8 < 112300) ∧ if (σ 84 ((3300 + (16 * x2)) + 8)) = 0 then (wi (d + 9) 286 303 [.ref 83, .int (wI x1), .int (wI x2), .int (wI (3300 + (16 * x2))), y4, y5, y6, y7, y8] [] S σ τ Q) else ((0 ≤ (3300 + (16 * x2)) + 9 ∧ (3300 + (16 * x2)) + 9 < 112300) ∧ (0 ≤ 4372 + (8 * (σ 84 ((3300 + (16 * x2)) + 9))) ∧ 4372 + (8 * (σ 84 ((3300 + (16 * x2)) + 9))) < 112300) ∧ (Jl (σ 84)) ∧ (jv_T (σ 84)) ∧ (jv_E (σ 84)) ∧ (0 ≤ (σ 84 (4372 + (8 * (σ 84 ((3300 + (16 * x2)) + 9))))) ∧ (σ 84 (4372 + (8 * (σ 84 ((3300 + (16 * x2)) + 9))))) ≤ 5) ∧ (rg x1) ∧ ∀ (σ113 : zI) (τ114 : zI), Fr8 σ σ113 τ τ114 → σ113 83 24 = r_fc (σ 84) 1 x2 x1 x1 → Wy σ113 (σ 84) (σ 84 (4372 + (8 * (σ 84 ((3300 + (16 * x2)) + 9))))) x2 x1 x1 → wi (d + 9) 286 76 [.ref 83, .int (wI x1), .int (wI x2), .int (wI (3300 + (16 * x2))), .int (wI (4372 + (8 * (σ 84 ((3300 + (16 * x2)) + 9))))), .int (wI (r_pay (σ 84) (σ 84 (4372 + (8 * (σ 84 ((3300 + (16 * x2)) + 9))))) x2 x1 x1)), .int (wI 0), .int (wI 0), y8] [] S σ113 τ114 Q))) : wi (d + 9) 286 2 [.ref 83, .int (wI x1), .int (wI x2), y3, y4, y5, y6, y7, y8] [] S σ τ Q := by
  refine i3 c_286_2 rfl (i5 c_286_3 rfl (i45 c_286_4 (lo (c := 83) (kd := 112) (n := 0) rfl (by decide)) (lro (c := 83) (k := 0) (j := 84) (by decide)) (i1 c_286_7 (wi_ok (fun K1 => ?_)))))
  obtain ⟨r2, t⟩ := t
  refine i50 (v := σ 84 1) c_286_8 (lo (c := 84) (kd := 0) (n := 112300) rfl (by decide)) (by decide) (by decide) rfl ?_
  refine i37 c_286_9 r2 (rge_ K1 rfl) rfl (fun hc => ?_) (fun hc => ?_)
  · have t := iT t hc
    have ha3 : (σ 84 1) ≤ x2 := hc
    exact i94 c_286_309 t
  · have t := iF t hc
    have ha3 : ¬ ((σ 84 1) ≤ x2) := hc
    obtain ⟨r4, t⟩ := t
    refine i1 c_286_12 (i1 c_286_15 (i3 c_286_17 rfl (i12 c_286_18 (i10 c_286_19 (i6 (L' := [.ref 83, .int (wI x1), .int (wI x2), .int (wI (3300 + (16 * x2))), y4, y5, y6, y7, y8]) c_286_20 rfl (i5 c_286_21 rfl (i45 c_286_22 (lo (c := 83) (kd := 112) (n := 0) rfl (by decide)) (lro (c := 83) (k := 0) (j := 84) (by decide)) (i3 c_286_25 rfl (i1 c_286_26 (i10 c_286_28 (i50 (v := σ 84 ((3300 + (16 * x2)) + 8)) c_286_29 (lo (c := 84) (kd := 0) (n := 112300) rfl (by decide)) (by decide) r4 rfl ?_)))))))))))
    refine i36 c_286_30 (rge_ K1 rfl) rfl (fun hc => ?_) (fun hc => ?_)
    · have t := iF t hc
      have ha5 : ¬ ((σ 84 ((3300 + (16 * x2)) + 8)) = 0) := hc
      obtain ⟨r6, t⟩ := t
      obtain ⟨r7, t⟩ := t
      obtain ⟨p8, t⟩ := t
      obtain ⟨p9, t⟩ := t
      obtain ⟨p10, t⟩ := t
      obtain ⟨p11, t⟩ := t
      obtain ⟨r12, t⟩ := t
      refine i1 c_286_36 (i1 c_286_39 (i5 c_286_41 rfl (i45 c_286_42 (lo (c := 83) (kd := 112) (n := 0) rfl (by decide)) (lro (c := 83) (k := 0) (j := 84) (by decide)) (i3 c_286_45 rfl (i1 c_286_46 (i10 c_286_48 (i50 (v := σ 84 ((3300 + (16 * x2)) + 9)) c_286_49 (lo (c := 84) (kd := 0) (n := 112300) rfl (by decide)) (by decide) r6 rfl (i12 c_286_50 (i10 c_286_51 (i6 (L' := [.ref 83, .int (wI x1), .int (wI x2), .int (wI (3300 + (16 * x2))), .int (wI (4372 + (8 * (σ 84 ((3300 + (16 * x2)) + 9))))), y5, y6, y7, y8]) c_286_52 rfl (i5 c_286_54 rfl (i5 c_286_55 rfl (i45 c_286_56 (lo (c := 83) (kd := 112) (n := 0) rfl (by decide)) (lro (c := 83) (k := 0) (j := 84) (by decide)) (i3 c_286_59 rfl (i50 (v := σ 84 (4372 + (8 * (σ 84 ((3300 + (16 * x2)) + 9))))) c_286_61 (lo (c := 84) (kd := 0) (n := 112300) rfl (by decide)) (by decide) r7 rfl (i3 c_286_62 rfl (i3 c_286_63 rfl (i3 c_286_64 rfl ?_))))))))))))))))))
      refine i80 (As := [.int (wI (σ 84 (4372 + (8 * (σ 84 ((3300 + (16 * x2)) + 9)))))), .int (wI x2), .int (wI x1), .int (wI x1)]) (rest := []) c_286_65 mi_271 rfl rfl (Nat.le_of_ble_eq_true rfl) (Nat.le_of_ble_eq_true rfl) (lo (c := 83) (kd := 112) (n := 0) rfl (by decide)) (q_271 p8 p9 p10 p11 r2 r12 r12 (fun σ113 τ114 q15 q16 q17 => ?_))
      have t := t σ113 τ114 q15 q16 q17
      show wi (d + 9) 286 68 [.ref 83, .int (wI x1), .int (wI x2), .int (wI (3300 + (16 * x2))), .int (wI (4372 + (8 * (σ 84 ((3300 + (16 * x2)) + 9))))), y5, y6, y7, y8] [.int (wI (r_pay (σ 84) (σ 84 (4372 + (8 * (σ 84 ((3300 + (16 * x2)) + 9))))) x2 x1 x1))] S σ113 τ114 Q
      refine i6 (L' := [.ref 83, .int (wI x1), .int (wI x2), .int (wI (3300 + (16 * x2))), .int (wI (4372 + (8 * (σ 84 ((3300 + (16 * x2)) + 9))))), .int (wI (r_pay (σ 84) (σ 84 (4372 + (8 * (σ 84 ((3300 + (16 * x2)) + 9))))) x2 x1 x1)), y6, y7, y8]) c_286_68 rfl (i1 c_286_70 (i6 (L' := [.ref 83, .int (wI x1), .int (wI x2), .int (wI (3300 + (16 * x2))), .int (wI (4372 + (8 * (σ 84 ((3300 + (16 * x2)) + 9))))), .int (wI (r_pay (σ 84) (σ 84 (4372 + (8 * (σ 84 ((3300 + (16 * x2)) + 9))))) x2 x1 x1)), .int (wI 0), y7, y8]) c_286_71 rfl (i1 c_286_73 (i6 (L' := [.ref 83, .int (wI x1), .int (wI x2), .int (wI (3300 + (16 * x2))), .int (wI (4372 + (8 * (σ 84 ((3300 + (16 * x2)) + 9))))), .int (wI (r_pay (σ 84) (σ 84 (4372 + (8 * (σ 84 ((3300 + (16 * x2)) + 9))))) x2 x1 x1)), .int (wI 0), .int (wI 0), y8]) c_286_74 rfl t))))
    · have t := iT t (Decidable.not_not.mp hc)
      have ha5 : (σ 84 ((3300 + (16 * x2)) + 8)) = 0 := Decidable.not_not.mp hc
      refine i38 c_286_33 rfl t
set_option maxRecDepth 20000 in
theorem u_286_76 {d : Nat} {S : zS} {σ τ : zI} {Q : zQ} {x1 : Int} {x2 : Int} {x3 : Int} {x4 : Int} {x5 : Int} {x6 : Int} {x7 : Int} {y8 : Value} (t : (rg x7) ∧ if (σ 84 4) ≤ x7 then (∃ w4 : Int, wI w4 = wI ((σ 83 31) + x6) ∧ rg w4 ∧ (0 ≤ x3 + 2 ∧ x3 + 2 < 112300) ∧ (0 ≤ x3 + 10 ∧ x3 + 10 < 112300) ∧ (0 ≤ x4 + 2 ∧ x4 + 2 < 112300) ∧ ∃ w11 : Int, wI w11 = wI ((σ 84 (x3 + 2)) + (((σ 84 (x3 + 10)) * ((σ 84 (x4 + 2)) - (σ 84 11))) - x6)) ∧ rg w11 ∧ (0 ≤ x4 + 1 ∧ x4 + 1 < 112300) ∧ ∃ w16 : Int, wI w16 = wI (((u1 (σ 84) (x3 + 2) w11) (x4 + 1)) - ((u1 (σ 84) (x3 + 2) w11) (x3 + 10))) ∧ rg w16 ∧ if (0 : Int) ≤ ((u1 (u1 (σ 84) (x3 + 2) w11) (x4 + 1) w16) (x3 + 2)) then (wi (d + 9) 286 303 [.ref 83, .int (wI x1), .int (wI x2), .int (wI x3), .int (wI x4), .int (wI x5), .int (wI x6), .int (wI x7), y8] [] S (uc (uc σ 83 (u1 (σ 83) 31 w4)) 84 (u1 (u1 (σ 84) (x3 + 2) w11) (x4 + 1) w16)) τ Q) else ((0 ≤ x3 + 5 ∧ x3 + 5 < 112300) ∧ wi (d + 9) 286 303 [.ref 83, .int (wI x1), .int (wI x2), .int (wI x3), .int (wI x4), .int (wI x5), .int (wI x6), .int (wI x7), y8] [] S (uc (uc σ 83 (u1 (σ 83) 31 w4)) 84 (u1 (u1 (u1 (σ 84) (x3 + 2) w11) (x4 + 1) w16) (x3 + 5) 1)) τ Q)) else ((0 ≤ 3652 + 12 * x7 + 4 ∧ 3652 + 12 * x7 + 4 < 112300) ∧ (rg x2) ∧ if (σ 84 (3652 + 12 * x7 + 4)) = x2 then ((0 ≤ 3652 + 12 * x7 + 3 ∧ 3652 + 12 * x7 + 3 < 112300) ∧ if (σ 84 (3652 + 12 * x7 + 3)) < 3 then ((0 ≤ x7 ∧ x7 < 60) ∧ wi (d + 9) 286 139 [.ref 83, .int (wI x1), .int (wI x2), .int (wI x3), .int (wI x4), .int (wI x5), .int (wI x6), .int (wI x7), y8] [.int (wI ((σ 94 x7) * x5))] S σ τ Q) else (∃ a28 : Int → Int, ∃ a129 : Int → Int, ∃ PE30 : Int → Int → Int, ∃ MI31 : Int → Int → Int, ∃ OD32 : Int → Int → Int, (σ 84 = As a129 PE30 MI31 OD32) ∧ (Jv a28) ∧ (jv_T a28) ∧ (sP a28 PE30) ∧ (∀ x, 0 ≤ x → x < a28 1 → MI31 x 8 = wk_ht a28 x) ∧ (0 ≤ x7 ∧ x7 < a28 4) ∧ (∀ x7, 0 ≤ x7 → x7 < a28 4 → σ 93 x7 = wk_h a28 x7) ∧ ∀ (v40 : Int), v40 = wk_hn a28 x7 → 0 ≤ v40 ∧ v40 ≤ 80 → (0 ≤ 3652 + 12 * x7 + 5 ∧ 3652 + 12 * x7 + 5 < 112300) ∧ wi (d + 9) 286 139 [.ref 83, .int (wI x1), .int (wI x2), .int (wI x3), .int (wI x4), .int (wI x5), .int (wI x6), .int (wI x7), y8] [.int (wI (v40 * (σ 84 (3652 + 12 * x7 + 5))))] S σ τ Q)) else (wi (d + 9) 286 204 [.ref 83, .int (wI x1), .int (wI x2), .int (wI x3), .int (wI x4), .int (wI x5), .int (wI x6), .int (wI x7), y8] [] S σ τ Q))) : wi (d + 9) 286 76 [.ref 83, .int (wI x1), .int (wI x2), .int (wI x3), .int (wI x4), .int (wI x5), .int (wI x6), .int (wI x7), y8] [] S σ τ Q := by
  refine i3 c_286_76 rfl (i5 c_286_78 rfl (i45 c_286_79 (lo (c := 83) (kd := 112) (n := 0) rfl (by decide)) (lro (c := 83) (k := 0) (j := 84) (by decide)) (i1 c_286_82 (wi_ok (fun K1 => ?_)))))
  obtain ⟨r2, t⟩ := t
  refine i50 (v := σ 84 4) c_286_83 (lo (c := 84) (kd := 0) (n := 112300) rfl (by decide)) (by decide) (by decide) rfl ?_
  refine i37 c_286_84 r2 (rge_ K1 rfl) rfl (fun hc => ?_) (fun hc => ?_)
  · have t := iT t hc
    have ha3 : (σ 84 4) ≤ x7 := hc
    obtain ⟨w4, e5, r6, t⟩ := t
    obtain ⟨r7, t⟩ := t
    refine i5 c_286_210 rfl (i33a c_286_211 (i43 (v := σ 83 31) c_286_212 (lo (c := 83) (kd := 112) (n := 0) rfl (by decide)) rfl (i3 c_286_215 rfl (i10 c_286_217 (i46 (σ1 := uc σ 83 (u1 (σ 83) 31 w4)) c_286_218 (lo (c := 83) (kd := 112) (n := 0) rfl (by decide)) (by decide) e5 r6 (wr_ rfl rfl) (i5 c_286_221 rfl (i45 c_286_222 (lo (c := 83) (kd := 112) (n := 0) rfl (by decide)) (lro (c := 83) (k := 0) (j := 84) (by decide)) (i3 c_286_225 rfl (i1 c_286_226 (i10 c_286_227 (i34a c_286_228 (wi_ok (fun K8 => ?_)))))))))))))
    obtain ⟨r9, t⟩ := t
    obtain ⟨r10, t⟩ := t
    obtain ⟨w11, e12, r13, t⟩ := t
    obtain ⟨r14, t⟩ := t
    refine i50 (v := σ 84 (x3 + 2)) c_286_229 (lo (c := 84) (kd := 0) (n := 112300) rfl (by decide)) (by decide) r7 (congrFun (uc_ns rfl (by decide)) _) (i5 c_286_230 rfl (i45 c_286_231 (lo (c := 83) (kd := 112) (n := 0) rfl (by decide)) (lro (c := 83) (k := 0) (j := 84) (by decide)) (i3 c_286_234 rfl (i1 c_286_235 (i10 c_286_237 (i50 (v := σ 84 (x3 + 10)) c_286_238 (lo (c := 84) (kd := 0) (n := 112300) rfl (by decide)) (by decide) r9 (congrFun (uc_ns rfl (by decide)) _) (i5 c_286_239 rfl (i45 c_286_240 (lo (c := 83) (kd := 112) (n := 0) rfl (by decide)) (lro (c := 83) (k := 0) (j := 84) (by decide)) (i3 c_286_243 rfl (i1 c_286_245 (i10 c_286_246 (i50 (v := σ 84 (x4 + 2)) c_286_247 (lo (c := 84) (kd := 0) (n := 112300) rfl (by decide)) (by decide) r10 (congrFun (uc_ns rfl (by decide)) _) (i5 c_286_248 rfl (i45 c_286_249 (lo (c := 83) (kd := 112) (n := 0) rfl (by decide)) (lro (c := 83) (k := 0) (j := 84) (by decide)) (i1 c_286_252 (i50 (v := σ 84 11) c_286_254 (lo (c := 84) (kd := 0) (n := 112300) rfl (by decide)) (by decide) (by decide) (congrFun (uc_ns rfl (by decide)) _) (i11 c_286_255 (i12 c_286_256 (i3 c_286_257 rfl (i11 c_286_259 (i10 c_286_260 (i54 (σ1 := uc (uc σ 83 (u1 (σ 83) 31 w4)) 84 (u1 (σ 84) (x3 + 2) w11)) c_286_261 (lo (c := 84) (kd := 0) (n := 112300) rfl (by decide)) (by decide) r7 (by decide) e12 r13 (wr_ (uc_ns rfl (by decide)) rfl) (i5 c_286_262 rfl (i45 c_286_263 (lo (c := 83) (kd := 112) (n := 0) rfl (by decide)) (lro (c := 83) (k := 0) (j := 84) (by decide)) (i3 c_286_266 rfl (i1 c_286_268 (i10 c_286_269 (i34a c_286_270 (wi_ok (fun K15 => ?_))))))))))))))))))))))))))))))
    obtain ⟨w16, e17, r18, t⟩ := t
    refine i50 (v := (u1 (σ 84) (x3 + 2) w11) (x4 + 1)) c_286_271 (lo (c := 84) (kd := 0) (n := 112300) rfl (by decide)) (by decide) r14 (congrFun (uc_s _ _ _) _) (i5 c_286_272 rfl (i45 c_286_273 (lo (c := 83) (kd := 112) (n := 0) rfl (by decide)) (lro (c := 83) (k := 0) (j := 84) (by decide)) (i3 c_286_276 rfl (i1 c_286_277 (i10 c_286_279 (i50 (v := (u1 (σ 84) (x3 + 2) w11) (x3 + 10)) c_286_280 (lo (c := 84) (kd := 0) (n := 112300) rfl (by decide)) (by decide) r9 (congrFun (uc_s _ _ _) _) (i11 c_286_281 (i54 (σ1 := uc (uc σ 83 (u1 (σ 83) 31 w4)) 84 (u1 (u1 (σ 84) (x3 + 2) w11) (x4 + 1) w16)) c_286_282 (lo (c := 84) (kd := 0) (n := 112300) rfl (by decide)) (by decide) r14 (by decide) e17 r18 (wr_ (uc_s _ _ _) (uc_uc _ _ _ _)) (i5 c_286_283 rfl (i45 c_286_284 (lo (c := 83) (kd := 112) (n := 0) rfl (by decide)) (lro (c := 83) (k := 0) (j := 84) (by decide)) (i3 c_286_287 rfl (i1 c_286_288 (i10 c_286_289 (wi_ok (fun K19 => ?_)))))))))))))))
    refine i50 (v := (u1 (u1 (σ 84) (x3 + 2) w11) (x4 + 1) w16) (x3 + 2)) c_286_290 (lo (c := 84) (kd := 0) (n := 112300) rfl (by decide)) (by decide) r7 (congrFun (uc_s _ _ _) _) ?_
    refine i36 c_286_291 (rge_ K19 (congrFun (uc_s _ _ _) _)) rfl (fun hc => ?_) (fun hc => ?_)
    · have t := iT t hc
      have ha20 : (0 : Int) ≤ ((u1 (u1 (σ 84) (x3 + 2) w11) (x4 + 1) w16) (x3 + 2)) := hc
      exact t
    · have t := iF t hc
      have ha20 : ¬ ((0 : Int) ≤ ((u1 (u1 (σ 84) (x3 + 2) w11) (x4 + 1) w16) (x3 + 2))) := hc
      obtain ⟨r21, t⟩ := t
      refine i5 c_286_294 rfl (i45 c_286_295 (lo (c := 83) (kd := 112) (n := 0) rfl (by decide)) (lro (c := 83) (k := 0) (j := 84) (by decide)) (i3 c_286_298 rfl (i1 c_286_299 (i10 c_286_300 (i1 c_286_301 (i54 (σ1 := uc (uc σ 83 (u1 (σ 83) 31 w4)) 84 (u1 (u1 (u1 (σ 84) (x3 + 2) w11) (x4 + 1) w16) (x3 + 5) 1)) c_286_302 (lo (c := 84) (kd := 0) (n := 112300) rfl (by decide)) (by decide) r21 (by decide) rfl (by decide) (wr_ (uc_s _ _ _) (uc_uc _ _ _ _)) t))))))
  · have t := iF t hc
    have ha3 : ¬ ((σ 84 4) ≤ x7) := hc
    obtain ⟨p22, t⟩ := t
    refine i5 c_286_87 rfl (i3 c_286_88 rfl (i1 c_286_90 ?_))
    refine i80 (As := [.int (wI x7), .int (wI 4)]) (rest := []) c_286_91 mi_199 rfl rfl (Nat.le_of_ble_eq_true rfl) (Nat.le_of_ble_eq_true rfl) (lo (c := 83) (kd := 112) (n := 0) rfl (by decide)) (q_199 p22 ?_)
    show wi (d + 9) 286 94 [.ref 83, .int (wI x1), .int (wI x2), .int (wI x3), .int (wI x4), .int (wI x5), .int (wI x6), .int (wI x7), y8] [.int (wI (σ 84 (3652 + 12 * x7 + 4)))] S σ τ Q
    obtain ⟨r23, t⟩ := t
    refine i3 c_286_94 rfl ?_
    refine i37 c_286_95 (rge_ K1 rfl) r23 rfl (fun hc => ?_) (fun hc => ?_)
    · have t := iT t hc
      have ha24 : (σ 84 (3652 + 12 * x7 + 4)) = x2 := hc
      obtain ⟨p25, t⟩ := t
      refine i5 c_286_101 rfl (i3 c_286_102 rfl (i1 c_286_104 ?_))
      refine i80 (As := [.int (wI x7), .int (wI 3)]) (rest := []) c_286_105 mi_199 rfl rfl (Nat.le_of_ble_eq_true rfl) (Nat.le_of_ble_eq_true rfl) (lo (c := 83) (kd := 112) (n := 0) rfl (by decide)) (q_199 p25 ?_)
      show wi (d + 9) 286 108 [.ref 83, .int (wI x1), .int (wI x2), .int (wI x3), .int (wI x4), .int (wI x5), .int (wI x6), .int (wI x7), y8] [.int (wI (σ 84 (3652 + 12 * x7 + 3)))] S σ τ Q
      refine i1 c_286_108 ?_
      refine i37 c_286_109 (rge_ K1 rfl) (by decide) rfl (fun hc => ?_) (fun hc => ?_)
      · have t := iT t hc
        have ha26 : (σ 84 (3652 + 12 * x7 + 3)) < 3 := hc
        obtain ⟨r27, t⟩ := t
        refine i5 c_286_129 rfl (i45 c_286_130 (lo (c := 83) (kd := 112) (n := 0) rfl (by decide)) (lro (c := 83) (k := 33) (j := 94) (by decide)) (i3 c_286_133 rfl (i50 (v := σ 94 x7) c_286_135 (lo (c := 94) (kd := 0) (n := 60) rfl (by decide)) (by decide) r27 rfl (i3 c_286_136 rfl (i12 c_286_138 t)))))
      · have t := iF t hc
        have ha26 : ¬ ((σ 84 (3652 + 12 * x7 + 3)) < 3) := hc
        obtain ⟨a28, t⟩ := t
        obtain ⟨a129, t⟩ := t
        obtain ⟨PE30, t⟩ := t
        obtain ⟨MI31, t⟩ := t
        obtain ⟨OD32, t⟩ := t
        obtain ⟨p33, t⟩ := t
        obtain ⟨p34, t⟩ := t
        obtain ⟨p35, t⟩ := t
        obtain ⟨p36, t⟩ := t
        obtain ⟨p37, t⟩ := t
        obtain ⟨p38, t⟩ := t
        obtain ⟨p39, t⟩ := t
        refine i5 c_286_112 rfl (i3 c_286_113 rfl ?_)
        refine i80 (As := [.int (wI x7)]) (rest := []) c_286_115 mi_283 rfl rfl (Nat.le_of_ble_eq_true rfl) (Nat.le_of_ble_eq_true rfl) (lo (c := 83) (kd := 112) (n := 0) rfl (by decide)) (q_283 (a := a28) (a1 := a129) (PE := PE30) (MI := MI31) (OD := OD32) p33 p34 p35 p36 p37 p38 p39 (fun v40 q41 q42 => ?_))
        have t := t v40 q41 q42
        show wi (d + 9) 286 118 [.ref 83, .int (wI x1), .int (wI x2), .int (wI x3), .int (wI x4), .int (wI x5), .int (wI x6), .int (wI x7), y8] [.int (wI v40)] S σ τ Q
        obtain ⟨p43, t⟩ := t
        refine i5 c_286_118 rfl (i3 c_286_119 rfl (i1 c_286_121 ?_))
        refine i80 (As := [.int (wI x7), .int (wI 5)]) (rest := [.int (wI v40)]) c_286_122 mi_199 rfl rfl (Nat.le_of_ble_eq_true rfl) (Nat.le_of_ble_eq_true rfl) (lo (c := 83) (kd := 112) (n := 0) rfl (by decide)) (q_199 p43 ?_)
        show wi (d + 9) 286 125 [.ref 83, .int (wI x1), .int (wI x2), .int (wI x3), .int (wI x4), .int (wI x5), .int (wI x6), .int (wI x7), y8] [.int (wI (σ 84 (3652 + 12 * x7 + 5))), .int (wI v40)] S σ τ Q
        refine i12 c_286_125 (i38 c_286_126 rfl t)
    · have t := iF t hc
      have ha24 : ¬ ((σ 84 (3652 + 12 * x7 + 4)) = x2) := hc
      refine i38 c_286_98 rfl t
set_option maxRecDepth 20000 in
theorem u_286_139 {d : Nat} {S : zS} {σ τ : zI} {Q : zQ} {x1 : Int} {x2 : Int} {x3 : Int} {x4 : Int} {x5 : Int} {x6 : Int} {x7 : Int} {y8 : Value} {s0 : Int} (t : (0 ≤ 3652 + 12 * x7 + 3 ∧ 3652 + 12 * x7 + 3 < 112300) ∧ if (σ 84 (3652 + 12 * x7 + 3)) = 2 then ((rg s0) ∧ wi (d + 9) 286 171 [.ref 83, .int (wI x1), .int (wI x2), .int (wI x3), .int (wI x4), .int (wI x5), .int (wI (x6 + s0)), .int (wI x7), .int (wI s0)] [.int (wI (Int.tdiv s0 3)), .int (wI x7), .ref 83] S σ τ Q) else (wi (d + 9) 286 171 [.ref 83, .int (wI x1), .int (wI x2), .int (wI x3), .int (wI x4), .int (wI x5), .int (wI (x6 + s0)), .int (wI x7), .int (wI s0)] [.int (wI s0), .int (wI x7), .ref 83] S σ τ Q)) : wi (d + 9) 286 139 [.ref 83, .int (wI x1), .int (wI x2), .int (wI x3), .int (wI x4), .int (wI x5), .int (wI x6), .int (wI x7), y8] [.int (wI s0)] S σ τ Q := by
  obtain ⟨p1, t⟩ := t
  refine i6 (L' := [.ref 83, .int (wI x1), .int (wI x2), .int (wI x3), .int (wI x4), .int (wI x5), .int (wI x6), .int (wI x7), .int (wI s0)]) c_286_139 rfl (i3 c_286_141 rfl (i3 c_286_143 rfl (i10 c_286_145 (i6 (L' := [.ref 83, .int (wI x1), .int (wI x2), .int (wI x3), .int (wI x4), .int (wI x5), .int (wI (x6 + s0)), .int (wI x7), .int (wI s0)]) c_286_146 rfl (i5 c_286_148 rfl (i3 c_286_149 rfl (i5 c_286_151 rfl (i3 c_286_152 rfl (i1 c_286_154 ?_)))))))))
  refine i80 (As := [.int (wI x7), .int (wI 3)]) (rest := [.int (wI x7), .ref 83]) c_286_155 mi_199 rfl rfl (Nat.le_of_ble_eq_true rfl) (Nat.le_of_ble_eq_true rfl) (lo (c := 83) (kd := 112) (n := 0) rfl (by decide)) (q_199 p1 ?_)
  show wi (d + 9) 286 158 [.ref 83, .int (wI x1), .int (wI x2), .int (wI x3), .int (wI x4), .int (wI x5), .int (wI (x6 + s0)), .int (wI x7), .int (wI s0)] [.int (wI (σ 84 (3652 + 12 * x7 + 3))), .int (wI x7), .ref 83] S σ τ Q
  refine wi_ok (fun K2 => ?_)
  refine i1 c_286_158 ?_
  refine i37 c_286_159 (rge_ K2 rfl) (by decide) rfl (fun hc => ?_) (fun hc => ?_)
  · have t := iF t hc
    have ha3 : ¬ ((σ 84 (3652 + 12 * x7 + 3)) = 2) := hc
    refine i3 c_286_169 rfl t
  · have t := iT t (Decidable.not_not.mp hc)
    have ha3 : (σ 84 (3652 + 12 * x7 + 3)) = 2 := Decidable.not_not.mp hc
    obtain ⟨r4, t⟩ := t
    refine i3 c_286_162 rfl (i1 c_286_164 (i16 c_286_165 r4 (by decide) (by decide) (i38 c_286_166 rfl t)))
set_option maxRecDepth 20000 in
theorem u_286_171 {d : Nat} {S : zS} {σ τ : zI} {Q : zQ} {x1 : Int} {x2 : Int} {x3 : Int} {x4 : Int} {x5 : Int} {x6 : Int} {x7 : Int} {x8 : Int} {s1 : Int} {s2 : Int} (t : (0 ≤ s1 ∧ s1 < (60 : Int)) ∧ (rg (σ 84 (3652 + 12 * s1 + 8) + s2)) ∧ (0 ≤ 3652 + 12 * x7 + 3 ∧ 3652 + 12 * x7 + 3 < 112300) ∧ if (u1 ((σ 84)) (3652 + 12 * s1 + 8) ((σ 84) (3652 + 12 * s1 + 8) + s2) (3652 + 12 * x7 + 3)) = 2 then ((0 ≤ 3652 + 12 * x7 + 6 ∧ 3652 + 12 * x7 + 6 < 112300) ∧ (rg x8) ∧ (0 ≤ (u1 ((σ 84)) (3652 + 12 * s1 + 8) ((σ 84) (3652 + 12 * s1 + 8) + s2) (3652 + 12 * x7 + 6)) ∧ (u1 ((σ 84)) (3652 + 12 * s1 + 8) ((σ 84) (3652 + 12 * s1 + 8) + s2) (3652 + 12 * x7 + 6)) < (60 : Int)) ∧ (rg ((uc σ 84 (u1 ((σ 84)) (3652 + 12 * s1 + 8) ((σ 84) (3652 + 12 * s1 + 8) + s2))) 84 (3652 + 12 * (u1 ((σ 84)) (3652 + 12 * s1 + 8) ((σ 84) (3652 + 12 * s1 + 8) + s2) (3652 + 12 * x7 + 6)) + 8) + (x8 - (Int.tdiv x8 3)))) ∧ wi (d + 9) 286 204 [.ref 83, .int (wI x1), .int (wI x2), .int (wI x3), .int (wI x4), .int (wI x5), .int (wI x6), .int (wI x7), .int (wI x8)] [] S (uc σ 84 (u1 ((u1 ((σ 84)) (3652 + 12 * s1 + 8) ((σ 84) (3652 + 12 * s1 + 8) + s2))) (3652 + 12 * (u1 ((σ 84)) (3652 + 12 * s1 + 8) ((σ 84) (3652 + 12 * s1 + 8) + s2) (3652 + 12 * x7 + 6)) + 8) ((u1 ((σ 84)) (3652 + 12 * s1 + 8) ((σ 84) (3652 + 12 * s1 + 8) + s2)) (3652 + 12 * (u1 ((σ 84)) (3652 + 12 * s1 + 8) ((σ 84) (3652 + 12 * s1 + 8) + s2) (3652 + 12 * x7 + 6)) + 8) + (x8 - (Int.tdiv x8 3))))) τ Q) else (wi (d + 9) 286 204 [.ref 83, .int (wI x1), .int (wI x2), .int (wI x3), .int (wI x4), .int (wI x5), .int (wI x6), .int (wI x7), .int (wI x8)] [] S (uc σ 84 (u1 ((σ 84)) (3652 + 12 * s1 + 8) ((σ 84) (3652 + 12 * s1 + 8) + s2))) τ Q)) : wi (d + 9) 286 171 [.ref 83, .int (wI x1), .int (wI x2), .int (wI x3), .int (wI x4), .int (wI x5), .int (wI x6), .int (wI x7), .int (wI x8)] [.int (wI s2), .int (wI s1), .ref 83] S σ τ Q := by
  obtain ⟨p1, t⟩ := t
  obtain ⟨p2, t⟩ := t
  refine i80 (As := [.int (wI s1), .int (wI s2)]) (rest := []) c_286_171 mi_285 rfl rfl (Nat.le_of_ble_eq_true rfl) (Nat.le_of_ble_eq_true rfl) (lo (c := 83) (kd := 112) (n := 0) rfl (by decide)) (q_285 p1 p2 ?_)
  show wi (d + 9) 286 174 [.ref 83, .int (wI x1), .int (wI x2), .int (wI x3), .int (wI x4), .int (wI x5), .int (wI x6), .int (wI x7), .int (wI x8)] [] S (uc σ 84 (u1 ((σ 84)) (3652 + 12 * s1 + 8) ((σ 84) (3652 + 12 * s1 + 8) + s2))) τ Q
  obtain ⟨p3, t⟩ := t
  refine i5 c_286_174 rfl (i3 c_286_175 rfl (i1 c_286_177 ?_))
  refine i80 (As := [.int (wI x7), .int (wI 3)]) (rest := []) c_286_178 mi_199 rfl rfl (Nat.le_of_ble_eq_true rfl) (Nat.le_of_ble_eq_true rfl) (lo (c := 83) (kd := 112) (n := 0) rfl (by decide)) (q_199 p3 ?_)
  show wi (d + 9) 286 181 [.ref 83, .int (wI x1), .int (wI x2), .int (wI x3), .int (wI x4), .int (wI x5), .int (wI x6), .int (wI x7), .int (wI x8)] [.int (wI (u1 ((σ 84)) (3652 + 12 * s1 + 8) ((σ 84) (3652 + 12 * s1 + 8) + s2) (3652 + 12 * x7 + 3)))] S (uc σ 84 (u1 ((σ 84)) (3652 + 12 * s1 + 8) ((σ 84) (3652 + 12 * s1 + 8) + s2))) τ Q
  refine wi_ok (fun K4 => ?_)
  refine i1 c_286_181 ?_
  refine i37 c_286_182 (rge_ K4 (congrFun (uc_s _ _ _) _)) (by decide) rfl (fun hc => ?_) (fun hc => ?_)
  · have t := iF t hc
    have ha5 : ¬ ((u1 ((σ 84)) (3652 + 12 * s1 + 8) ((σ 84) (3652 + 12 * s1 + 8) + s2) (3652 + 12 * x7 + 3)) = 2) := hc
    exact t
  · have t := iT t (Decidable.not_not.mp hc)
    have ha5 : (u1 ((σ 84)) (3652 + 12 * s1 + 8) ((σ 84) (3652 + 12 * s1 + 8) + s2) (3652 + 12 * x7 + 3)) = 2 := Decidable.not_not.mp hc
    obtain ⟨p6, t⟩ := t
    refine i5 c_286_185 rfl (i5 c_286_186 rfl (i3 c_286_187 rfl (i1 c_286_189 ?_)))
    refine i80 (As := [.int (wI x7), .int (wI 6)]) (rest := [.ref 83]) c_286_191 mi_199 rfl rfl (Nat.le_of_ble_eq_true rfl) (Nat.le_of_ble_eq_true rfl) (lo (c := 83) (kd := 112) (n := 0) rfl (by decide)) (q_199 p6 ?_)
    show wi (d + 9) 286 194 [.ref 83, .int (wI x1), .int (wI x2), .int (wI x3), .int (wI x4), .int (wI x5), .int (wI x6), .int (wI x7), .int (wI x8)] [.int (wI (u1 ((σ 84)) (3652 + 12 * s1 + 8) ((σ 84) (3652 + 12 * s1 + 8) + s2) (3652 + 12 * x7 + 6))), .ref 83] S (uc σ 84 (u1 ((σ 84)) (3652 + 12 * s1 + 8) ((σ 84) (3652 + 12 * s1 + 8) + s2))) τ Q
    obtain ⟨r7, t⟩ := t
    obtain ⟨p8, t⟩ := t
    obtain ⟨p9, t⟩ := t
    refine i3 c_286_194 rfl (i3 c_286_196 rfl (i1 c_286_198 (i16 c_286_199 r7 (by decide) (by decide) (i11 c_286_200 ?_))))
    refine i80 (As := [.int (wI (u1 ((σ 84)) (3652 + 12 * s1 + 8) ((σ 84) (3652 + 12 * s1 + 8) + s2) (3652 + 12 * x7 + 6))), .int (wI (x8 - (Int.tdiv x8 3)))]) (rest := []) c_286_201 mi_285 rfl rfl (Nat.le_of_ble_eq_true rfl) (Nat.le_of_ble_eq_true rfl) (lo (c := 83) (kd := 112) (n := 0) rfl (by decide)) (q_285 p8 p9 ?_)
    show wi (d + 9) 286 204 [.ref 83, .int (wI x1), .int (wI x2), .int (wI x3), .int (wI x4), .int (wI x5), .int (wI x6), .int (wI x7), .int (wI x8)] [] S (uc (uc σ 84 (u1 ((σ 84)) (3652 + 12 * s1 + 8) ((σ 84) (3652 + 12 * s1 + 8) + s2))) 84 (u1 ((uc σ 84 (u1 ((σ 84)) (3652 + 12 * s1 + 8) ((σ 84) (3652 + 12 * s1 + 8) + s2))) 84) (3652 + 12 * (u1 ((σ 84)) (3652 + 12 * s1 + 8) ((σ 84) (3652 + 12 * s1 + 8) + s2) (3652 + 12 * x7 + 6)) + 8) ((uc σ 84 (u1 ((σ 84)) (3652 + 12 * s1 + 8) ((σ 84) (3652 + 12 * s1 + 8) + s2))) 84 (3652 + 12 * (u1 ((σ 84)) (3652 + 12 * s1 + 8) ((σ 84) (3652 + 12 * s1 + 8) + s2) (3652 + 12 * x7 + 6)) + 8) + (x8 - (Int.tdiv x8 3))))) τ Q
    refine wi_s (σ1 := uc σ 84 (u1 ((u1 ((σ 84)) (3652 + 12 * s1 + 8) ((σ 84) (3652 + 12 * s1 + 8) + s2))) (3652 + 12 * (u1 ((σ 84)) (3652 + 12 * s1 + 8) ((σ 84) (3652 + 12 * s1 + 8) + s2) (3652 + 12 * x7 + 6)) + 8) ((u1 ((σ 84)) (3652 + 12 * s1 + 8) ((σ 84) (3652 + 12 * s1 + 8) + s2)) (3652 + 12 * (u1 ((σ 84)) (3652 + 12 * s1 + 8) ((σ 84) (3652 + 12 * s1 + 8) + s2) (3652 + 12 * x7 + 6)) + 8) + (x8 - (Int.tdiv x8 3))))) (by funext j; by_cases h0 : j = 84 <;> simp [uc, h0]) t
set_option maxRecDepth 20000 in
theorem u_286_204 {d : Nat} {S : zS} {σ τ : zI} {Q : zQ} {x1 : Int} {x2 : Int} {x3 : Int} {x4 : Int} {x5 : Int} {x6 : Int} {x7 : Int} {y8 : Value} (t : wi (d + 9) 286 76 [.ref 83, .int (wI x1), .int (wI x2), .int (wI x3), .int (wI x4), .int (wI x5), .int (wI x6), .int (wI (x7 + 1)), y8] [] S σ τ Q) : wi (d + 9) 286 204 [.ref 83, .int (wI x1), .int (wI x2), .int (wI x3), .int (wI x4), .int (wI x5), .int (wI x6), .int (wI x7), y8] [] S σ τ Q := by
  refine i9 (L' := [.ref 83, .int (wI x1), .int (wI x2), .int (wI x3), .int (wI x4), .int (wI x5), .int (wI x6), .int (wI (x7 + 1)), y8]) c_286_204 rfl rfl (i38 c_286_207 rfl t)
set_option maxRecDepth 20000 in
theorem u_286_303 {d : Nat} {S : zS} {σ τ : zI} {Q : zQ} {x1 : Int} {x2 : Int} {x3 : Int} {y4 : Value} {y5 : Value} {y6 : Value} {y7 : Value} {y8 : Value} (t : wi (d + 9) 286 2 [.ref 83, .int (wI x1), .int (wI (x2 + 1)), .int (wI x3), y4, y5, y6, y7, y8] [] S σ τ Q) : wi (d + 9) 286 303 [.ref 83, .int (wI x1), .int (wI x2), .int (wI x3), y4, y5, y6, y7, y8] [] S σ τ Q := by
  refine i9 (L' := [.ref 83, .int (wI x1), .int (wI (x2 + 1)), .int (wI x3), y4, y5, y6, y7, y8]) c_286_303 rfl rfl (i38 c_286_306 rfl t)
theorem q_286 {d : Nat} {S : zS} {σ τ : zI} {Q : zQ} {w : Int} {a : Int → Int} {a1 : Int → Int} (p0 : σ 84 = As a1 (PE2 a (a 1)) (MI2 a (a 1)) (OD1 a (a 1))) (p1 : eB a a1) (p2 : Jv a) (p3 : jv_T a) (p4 : jv_E a) (p5 : a 0 ≤ 399) (p6 : w = a 0) (p7 : (∀ p, 0 ≤ p → p < a 4 → σ 93 p = wk_h a p)) (p8 : (∀ p, 0 ≤ p → p < a 4 → σ 94 p = wk_mp a (a 1) p)) (t : ∀ (σ1 : zI) (τ1 : zI), PAF a a1 (a 1) σ σ1 → Q none S σ1 τ1) : wc (d + 9) 286 [.ref 83, .int (wI w)] S σ τ Q := by
  have hC := jC p2
  have hC' := hC
  unfold jv_C at hC
  subst p6
  refine wc_ok fun K => ?_
  have k31 := kO_r K 83 31
  refine wc_of mi_286 rfl (u_286_0 ?_)
  have key : ∀ m, 0 ≤ m → m ≤ a 1 → ∀ σ' : zI, PAF a a1 m σ σ' → ∀ τ' y3 y4 y5 y6 y7 y8, wi (d + 9) 286 2 [.ref 83, .int (wI (a 0)), .int (wI m), y3, y4, y5, y6, y7, y8] [] S σ' τ' Q := by
    refine lp_up (fun m m0 m1 ih => ?_)
    intro σ' f τ' y3 y4 y5 y6 y7 y8
    obtain ⟨f3, f31, f1, f2⟩ := f
    have hB : eB a (σ' 84) := by rw [f3]; exact eB_A p1
    refine u_286_2 ?_
    rw [hB 1 (by omega)]
    refine ⟨by omega, ifI (fun e => ?_) (fun e => ?_)⟩
    · have e : m = a 1 := by omega
      subst e
      exact t _ _ ⟨f3, f31, f1, f2⟩
    · have ih := ih (by omega)
      have v8 : σ' 84 (3300 + 16 * m + 8) = wk_ht a m := by rw [f3, As_m (by omega) (by omega), MI3_k (by omega) (by omega), if_neg (by omega), if_pos rfl]
      rw [v8]
      refine ⟨by omega, ifI (fun e1 => ?_) (fun e1 => ?_)⟩
      · have hD : ¬ wk_D a m := fun q => by have := wk_ht_D q; omega
        refine u_286_303 (ih σ' ⟨?_, ?_, f1, f2⟩ τ' _ _ _ _ _ _)
        · rw [f3]
          refine As_c (fun _ _ => rfl) (fun x c _ _ _ _ => ?_) (fun x c _ _ _ _ => (MI3_no hD x c).symm) (fun o c o0 _ _ _ => (OD3_no m0 hD o c o0).symm)
          unfold PE3; rw [wk_W_no hD]
        · rw [f31]
          have : wk_pd a (m + 1) = wk_pd a m + 0 := by
            show sI _ _ = _
            rw [sI_s m0, if_neg hD]; rfl
          rw [this, Int.add_zero]
      · have hD : wk_D a m := by
          by_cases q : wk_D a m
          · exact q
          · exact absurd (wk_ht_N q) e1
        have yb := wk_by_b p2 p3 p5 ⟨m0, by omega⟩ hD
        have v9 : σ' 84 (3300 + 16 * m + 9) = wk_by a m := by rw [f3, As_m (by omega) (by omega), MI3_k (by omega) (by omega), if_neg (by omega), if_neg (by omega), if_pos rfl]
        have vk : σ' 84 (4372 + 8 * wk_by a m) = wk_kB a m := by rw [f3, As_o0 (by omega)]; unfold OD3 OD1 wk_kB; rw [if_neg (by omega), if_neg (by omega), Int.add_zero]
        rw [v9, vk]
        refine ⟨by omega, by omega, eB_l hB hC' (Jl_of p2), jT_c (eB_L hB) hC' p3, jE_c (eB_L hB) hC' p3 p4, by omega, by omega, fun σ2 τ2 fr _ _ => ?_⟩
        have epay : r_pay (σ' 84) (wk_kB a m) m (a 0) (a 0) = wk_pm a m := by rw [pay_c (eB_L hB) (Jl_of p2) p3 p4 (by omega)]; rfl
        rw [epay]
        have pers : ∀ p, 0 ≤ p → p ≤ a 4 → ∀ σ3 : zI, (∀ c, c ≠ 83 → c ≠ 84 → c ≠ 91 → c ≠ 92 → σ3 c = σ c) → (∀ k, k < 22 ∨ 25 < k ∧ k ≠ 31 → σ3 83 k = σ 83 k) → σ3 83 31 = zw (σ 83 31 + wk_pd a m) → σ3 84 = As a1 (PE3 a m p) (MI3 a m) (OD3 a m) → ∀ y8, wi (d + 9) 286 76 [.ref 83, .int (wI (a 0)), .int (wI m), .int (wI (3300 + 16 * m)), .int (wI (4372 + 8 * wk_by a m)), .int (wI (wk_pm a m)), .int (wI (wk_Sm a m p)), .int (wI p), y8] [] S σ3 τ2 Q := by
          refine lp_up (fun p q0 q1 ih2 => ?_)
          intro σ3 g1 g2 g31 g3 y8
          have Sb := wk_Sm_b (m := m) p2 p3 p5 ⟨q0, q1⟩
          refine u_286_76 ?_
          have e4 : σ3 84 4 = a 4 := by rw [g3, As_k (by omega)]; exact p1 4 (by omega)
          rw [e4]
          refine ⟨by omega, ifI (fun e2 => ?_) (fun e2 => ?_)⟩
          · have e2 : p = a 4 := by omega
            subst e2
            have w2 : σ3 84 (3300 + 16 * m + 2) = (wk_s a m (a 4)).1 := by rw [g3, As_m (by omega) (by omega), MI3_2 (by omega) hD (by omega), if_pos rfl]
            have w10 : σ3 84 (3300 + 16 * m + 10) = wk_md a m := by rw [g3, As_m (by omega) (by omega), MI3_2 (by omega) hD (by omega), if_neg (by omega)]
            have wo2 : σ3 84 (4372 + 8 * wk_by a m + 2) = a (4372 + 8 * wk_by a m + 2) := by rw [g3, As_o (by omega) (by omega)]; unfold OD3 OD1; rw [if_neg (by omega), if_neg (by omega)]
            have w11 : σ3 84 11 = a 11 := by rw [g3, As_k (by omega)]; exact p1 11 (by omega)
            have wo1 : σ3 84 (4372 + 8 * wk_by a m + 1) = a (4372 + 8 * wk_by a m + 1) - wk_lw a m (wk_by a m) := by rw [g3, As_o (by omega) (by omega)]; unfold OD3; rw [if_pos (by omega)]
            have ec3 : wk_c3 a m = zw ((wk_s a m (a 4)).1 + (wk_md a m * (a (4372 + 8 * wk_by a m + 2) - a 11) - wk_Sm a m (a 4))) := if_pos hD
            have lb := wk_lw_b p2 p3 p5 (m + 1) (by omega) (by omega) (wk_by a m) (by omega) (by omega)
            have tb := wk_T_b p2 p3 p5 (m + 1) (by omega) (by omega) (wk_by a m) (by omega) (by omega)
            have lw0 := wk_lw_b p2 p3 p5 m m0 (by omega) (wk_by a m) (by omega) (by omega)
            rw [wk_lw_s m0, if_pos rfl] at lb
            have hOr := (jO p2).1 (wk_by a m) (by omega) (by omega)
            have md := wk_md_b p2 p3 p5 (m := m) (by omega)
            have s5 : MI3 a m m 5 = a (3300 + 16 * m + 5) := by unfold MI3 MI2 MI1 MI0; rw [if_neg (by omega), if_neg (by omega), if_neg (by omega), if_neg (by omega)]
            rw [w2, w10, wo2, w11]
            refine ⟨zw (σ3 83 31 + wk_Sm a m (a 4)), wI_zw _, rg_zw _, by omega, by omega, by omega, wk_c3 a m, by rw [ec3]; exact wI_zw _, by rw [ec3]; exact rg_zw _, by omega, a (4372 + 8 * wk_by a m + 1) - wk_lw a m (wk_by a m) - wk_md a m, ?_, by omega, ?_⟩
            · rw [u1_n (by omega), u1_n (by omega), wo1, w10]
            have u3 : ∀ v5, u1 (u1 (σ3 84) (3300 + 16 * m + 2) (wk_c3 a m)) (4372 + 8 * wk_by a m + 1) (a (4372 + 8 * wk_by a m + 1) - wk_lw a m (wk_by a m) - wk_md a m) = As a1 (PE3 a m (a 4)) (t2 (MI3 a m) m 2 (wk_c3 a m)) (t2 (OD3 a m) (wk_by a m) 1 (a (4372 + 8 * wk_by a m + 1) - wk_lw a m (wk_by a m) - wk_md a m)) ∧ (v5 = wk_cl a m → As a1 (PE3 a m (a 4)) (t2 (t2 (MI3 a m) m 2 (wk_c3 a m)) m 5 v5) (t2 (OD3 a m) (wk_by a m) 1 (a (4372 + 8 * wk_by a m + 1) - wk_lw a m (wk_by a m) - wk_md a m)) = As a1 (PE3 a (m + 1) 0) (MI3 a (m + 1)) (OD3 a (m + 1))) := fun v5 => by
              refine ⟨by rw [g3, As_um (by omega) (by omega), As_uo (by omega) (by omega)], fun h5 => ?_⟩
              refine As_c (fun _ _ => rfl) (fun x c _ _ _ _ => ?_) (fun x c _ _ _ _ => ?_) (fun o c _ _ _ _ => OD3_D m0 (by omega) o c)
              · unfold PE3; rw [wk_W_e]
              · by_cases c5 : x = m ∧ c = 5
                · obtain ⟨rfl, rfl⟩ := c5
                  rw [t2_s, MI3_m hD 5 (by omega), if_neg (by omega), h5]
                · rw [t2_n c5]
                  by_cases c2 : x = m ∧ c = 2
                  · obtain ⟨rfl, rfl⟩ := c2
                    rw [t2_s, MI3_m hD 2 (by omega), if_pos rfl]
                  · rw [t2_n c2, MI3_x (by omega)]
            have pd : zw (σ3 83 31 + wk_Sm a m (a 4)) = zw (σ 83 31 + wk_pd a (m + 1)) := by
              have : wk_pd a (m + 1) = wk_pd a m + wk_Sm a m (a 4) := by
                show sI _ _ = _
                rw [sI_s m0, if_pos hD]; rfl
              rw [g31, zw_add, this, Int.add_assoc]
            have r2 : u1 (u1 (σ3 84) (3300 + 16 * m + 2) (wk_c3 a m)) (4372 + 8 * wk_by a m + 1) (a (4372 + 8 * wk_by a m + 1) - wk_lw a m (wk_by a m) - wk_md a m) (3300 + 16 * m + 2) = wk_c3 a m := by rw [u1_n (by omega), u1_s]
            rw [r2]
            refine ifI (fun e5 => u_286_303 (ih _ ⟨?_, ?_, ?_, ?_⟩ _ _ _ _ _ _ _)) (fun e5 => ⟨by omega, u_286_303 (ih _ ⟨?_, ?_, ?_, ?_⟩ _ _ _ _ _ _ _)⟩)
            · rw [uc_s, (u3 (wk_cl a m)).1, ← (u3 (wk_cl a m)).2 rfl]
              refine As_c (fun _ _ => rfl) (fun _ _ _ _ _ _ => rfl) (fun x c _ _ _ _ => (t2_id ?_ x c).symm) (fun _ _ _ _ _ _ => rfl)
              rw [t2_n (by omega), s5]; unfold wk_cl; rw [if_neg (by omega)]
            · rw [uc_n (by decide), uc_s, u1_s]; exact pd
            · intro c h1 h2 h3 h4; rw [uc_n h2, uc_n h1]; exact g1 c h1 h2 h3 h4
            · intro k hk; rw [uc_n (by decide), uc_s, u1_n (by omega)]; exact g2 k hk
            · rw [uc_s, (u3 1).1, As_um (by omega) (by omega)]
              refine (u3 1).2 ?_
              unfold wk_cl; rw [if_pos ⟨hD, by omega⟩]
            · rw [uc_n (by decide), uc_s, u1_s]; exact pd
            · intro c h1 h2 h3 h4; rw [uc_n h2, uc_n h1]; exact g1 c h1 h2 h3 h4
            · intro k hk; rw [uc_n (by decide), uc_s, u1_n (by omega)]; exact g2 k hk
          · have hP := jP p2 p q0 (by omega)
            have ih2 := ih2 (by omega)
            have rd : ∀ c, 0 ≤ c → c < 12 → c ≠ 7 → c ≠ 8 → σ3 84 (3652 + 12 * p + c) = a (3652 + 12 * p + c) := fun c c0 c1 c7 c8 => by
              rw [g3, As_p (by omega) (by omega)]; exact sP_3 p c (by omega) (by omega) c0 c1 c7 c8
            rw [rd 4 (by omega) (by omega) (by omega) (by omega), rd 3 (by omega) (by omega) (by omega) (by omega), rd 5 (by omega) (by omega) (by omega) (by omega)]
            have Ss : wk_Sm a m (p + 1) = wk_Sm a m p + (if a (3652 + 12 * p + 4) = m then wk_v a p else 0) := sI_s q0
            rw [Ss] at ih2
            refine ⟨by omega, by omega, ifI (fun e3 => ?_) (fun e3 => ?_)⟩
            · rw [if_pos e3] at ih2
              have vb := wk_v_b p2 p3 p5 (p := p) ⟨q0, by omega⟩
              have ev : wk_v a p = if 3 ≤ a (3652 + 12 * p + 3) then wk_hn a p * a (3652 + 12 * p + 5) else wk_np a p * wk_pm a m := by
                unfold wk_v; rw [e3]; unfold wk_vx; rw [if_pos ⟨m0, hD⟩]
              have pay1 : ∀ s0, s0 = wk_v a p → ∀ y8, wi (d + 9) 286 139 [.ref 83, .int (wI (a 0)), .int (wI m), .int (wI (3300 + 16 * m)), .int (wI (4372 + 8 * wk_by a m)), .int (wI (wk_pm a m)), .int (wI (wk_Sm a m p)), .int (wI p), y8] [.int (wI s0)] S σ3 τ2 Q := fun s0 hs y8 => by
                subst hs
                have own : ∀ s2, s2 = wk_o a p → wi (d + 9) 286 171 [.ref 83, .int (wI (a 0)), .int (wI m), .int (wI (3300 + 16 * m)), .int (wI (4372 + 8 * wk_by a m)), .int (wI (wk_pm a m)), .int (wI (wk_Sm a m p + wk_v a p)), .int (wI p), .int (wI (wk_v a p))] [.int (wI s2), .int (wI p), .ref 83] S σ3 τ2 Q := fun s2 hs => by
                  subst hs
                  have Wb := wk_W_b (m := m) (n := p) (p := p) p2 p3 p5
                  refine u_286_171 ?_
                  have w8 : σ3 84 (3652 + 12 * p + 8) = wk_W a m p p := by rw [g3, As_p (by omega) (by omega)]; exact PE3_8 (by omega)
                  rw [w8]
                  have u8 : u1 (σ3 84) (3652 + 12 * p + 8) (wk_W a m p p + wk_o a p) = As a1 (t2 (PE3 a m p) p 8 (wk_W a m p p + wk_o a p)) (MI3 a m) (OD3 a m) := by rw [g3, As_up (by omega) (by omega)]
                  rw [u8]
                  have r3 : As a1 (t2 (PE3 a m p) p 8 (wk_W a m p p + wk_o a p)) (MI3 a m) (OD3 a m) (3652 + 12 * p + 3) = a (3652 + 12 * p + 3) := by rw [As_p (by omega) (by omega), t2_n (by omega)]; exact sP_3 p 3 (by omega) (by omega) (by omega) (by omega) (by omega) (by omega)
                  have r6 : As a1 (t2 (PE3 a m p) p 8 (wk_W a m p p + wk_o a p)) (MI3 a m) (OD3 a m) (3652 + 12 * p + 6) = a (3652 + 12 * p + 6) := by rw [As_p (by omega) (by omega), t2_n (by omega)]; exact sP_3 p 6 (by omega) (by omega) (by omega) (by omega) (by omega) (by omega)
                  rw [r3, r6]
                  refine ⟨by omega, by omega, by omega, ifI (fun e5 => ?_) (fun e5 => ?_)⟩
                  · obtain ⟨tc, htc⟩ : ∃ tc, tc = a (3652 + 12 * p + 6) := ⟨_, rfl⟩
                    have ht := hP.2.2.2.2.2.2.2.2.2.2.2.1 e5
                    rw [← htc] at ht hP ⊢
                    have tne : tc ≠ p := fun q => by rw [q] at ht; omega
                    have eo : wk_o a p = (wk_v a p).tdiv 3 := if_pos e5
                    have Wt := wk_W_b (m := m) (n := p) (p := tc) p2 p3 p5
                    have r8 : (uc σ3 84 (As a1 (t2 (PE3 a m p) p 8 (wk_W a m p p + wk_o a p)) (MI3 a m) (OD3 a m))) 84 (3652 + 12 * tc + 8) = wk_W a m p tc := by rw [uc_s, As_p (by omega) (by omega), t2_n (by omega)]; exact PE3_8 (by omega)
                    have r9 : As a1 (t2 (PE3 a m p) p 8 (wk_W a m p p + wk_o a p)) (MI3 a m) (OD3 a m) (3652 + 12 * tc + 8) = wk_W a m p tc := by rw [uc_s] at r8; exact r8
                    rw [r8, r9, ← eo]
                    refine ⟨by omega, by omega, by omega, by omega, u_286_204 (ih2 _ (fun c h1 h2 h3 h4 => ?_) (fun k hk => ?_) ?_ ?_ _)⟩
                    · rw [uc_n h2]; exact g1 c h1 h2 h3 h4
                    · rw [uc_n (by decide)]; exact g2 k hk
                    · rw [uc_n (by decide)]; exact g31
                    · rw [uc_s, As_up (by omega) (by omega)]
                      refine As_c (fun _ _ => rfl) (fun x c _ _ _ _ => ?_) (fun _ _ _ _ _ _ => rfl) (fun _ _ _ _ _ _ => rfl)
                      by_cases c8 : c = 8 ∧ x < a 4
                      · obtain ⟨rfl, x4⟩ := c8
                        rw [PE3_8 x4, wk_W_s ⟨q0, by omega⟩, if_pos e3]
                        unfold wk_e
                        by_cases xt : x = tc
                        · subst xt
                          rw [t2_s, if_neg (by omega), if_pos ⟨e5, htc.symm⟩]; omega
                        · rw [t2_n (by omega)]
                          by_cases xp : x = p
                          · subst xp
                            rw [t2_s, if_pos rfl, if_neg (by omega)]; omega
                          · rw [t2_n (by omega), PE3_8 x4, if_neg (by omega), if_neg (by omega)]; omega
                      · rw [t2_n (by omega), t2_n (by omega)]; unfold PE3; rw [if_neg c8, if_neg c8]
                  · refine u_286_204 (ih2 _ (fun c h1 h2 h3 h4 => ?_) (fun k hk => ?_) ?_ ?_ _)
                    · rw [uc_n h2]; exact g1 c h1 h2 h3 h4
                    · rw [uc_n (by decide)]; exact g2 k hk
                    · rw [uc_n (by decide)]; exact g31
                    · rw [uc_s]
                      refine As_c (fun _ _ => rfl) (fun x c _ _ _ _ => ?_) (fun _ _ _ _ _ _ => rfl) (fun _ _ _ _ _ _ => rfl)
                      by_cases c8 : c = 8 ∧ x < a 4
                      · obtain ⟨rfl, x4⟩ := c8
                        rw [PE3_8 x4, wk_W_s ⟨q0, by omega⟩, if_pos e3]
                        unfold wk_e
                        by_cases xp : x = p
                        · subst xp
                          rw [t2_s, if_pos rfl, if_neg (by omega)]; omega
                        · rw [t2_n (by omega), PE3_8 x4, if_neg (by omega), if_neg (by omega)]; omega
                      · rw [t2_n (by omega)]; unfold PE3; rw [if_neg c8, if_neg c8]
                refine u_286_139 ?_
                rw [rd 3 (by omega) (by omega) (by omega) (by omega)]
                refine ⟨by omega, ifI (fun e5 => ⟨by omega, own _ ?_⟩) (fun e5 => own _ ?_)⟩
                · unfold wk_o; rw [if_pos e5]
                · unfold wk_o; rw [if_neg e5]
              refine ⟨by omega, ifI (fun e5 => ⟨by omega, pay1 _ ?_ _⟩) (fun e5 => ?_)⟩
              · rw [ev, if_neg (by omega), g1 94 (by decide) (by decide) (by decide) (by decide), p8 p q0 (by omega)]
                unfold wk_mp
                rw [if_pos (by omega)]
              · refine ⟨a, a1, PE3 a m p, MI3 a m, OD3 a m, g3, p2, p3, sP_3, fun x x0 x1 => ?_, by omega, ?_, fun v hv vb => ⟨by omega, pay1 _ ?_ _⟩⟩
                · rw [MI3_k x1 (by omega), if_neg (by omega), if_pos rfl]
                · rw [g1 93 (by decide) (by decide) (by decide) (by decide)]; exact p7
                · rw [ev, if_pos (by omega), hv]
            · rw [if_neg e3, Int.add_zero] at ih2
              refine u_286_204 (ih2 σ3 g1 g2 g31 ?_ _)
              rw [g3]
              refine As_c (fun _ _ => rfl) (fun x c _ _ _ _ => ?_) (fun _ _ _ _ _ _ => rfl) (fun _ _ _ _ _ _ => rfl)
              unfold PE3
              rw [wk_W_s ⟨q0, by omega⟩, if_neg e3, Int.add_zero]
        refine pers 0 (by omega) (by omega) σ2 (fun c h1 h2 h3 h4 => ?_) (fun k hk => ?_) ?_ ?_ _
        · rw [fr.1 c h1 h3 h4]; exact f1 c h1 h2 h3 h4
        · rw [fr.2.1 k (by omega)]; exact f2 k hk
        · rw [fr.2.1 31 (by omega)]; exact f31
        · rw [fr.1 84 (by decide) (by decide) (by decide)]; exact f3
  refine key 0 (by omega) (by omega) σ ⟨?_, ?_, fun _ _ _ _ _ => rfl, fun _ _ => rfl⟩ τ _ _ _ _ _ _
  · rw [p0]
    refine As_c (fun _ _ => rfl) (fun x c x0 _ _ _ => ?_) (fun x c x0 _ _ _ => ?_) (fun x c _ _ _ _ => ?_)
    · unfold PE3
      by_cases c8 : c = 8 ∧ x < a 4
      · rw [if_pos c8, wk_W_0 hC']
        unfold PE2 PE1 PE0
        rw [if_neg (by omega), if_neg (by omega), if_pos c8]
      · rw [if_neg c8]
    · unfold MI3; rw [if_neg (by omega)]
    · unfold OD3
      by_cases c1 : c = 1 ∧ x < a 7
      · obtain ⟨rfl, _⟩ := c1
        rw [if_pos (by omega)]
        unfold OD1
        rw [if_neg (by omega)]
        show _ = _ - 0
        omega
      · rw [if_neg c1]
  · show σ 83 31 = zw (σ 83 31 + 0)
    rw [Int.add_zero, zw_of k31]
