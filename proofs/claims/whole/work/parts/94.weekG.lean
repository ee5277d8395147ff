/-! ===== a WEEK: the FUND, and a HOME, of the reference (segments printed by wip/whole, contracts own work) ===== -/
def wk_lv (a : Int → Int) (p : Int) : Int := if a 9 ≤ wk_Wf a p then wk_Wf a p - a 9 else wk_Wf a p
def wk_F1 (a : Int → Int) (n : Int) : Int := a 8 + sI (fun p => if a 9 ≤ wk_Wf a p then a 9 else 0) n
abbrev wk_sk (a : Int → Int) (p : Int) : Prop := 0 ≤ a (3652 + 12 * p + 4) ∧ a (3300 + 16 * a (3652 + 12 * p + 4) + 6) ≠ 0
def wk_F2N (a : Int → Int) : Nat → Int
  | 0 => wk_F1 a (a 4)
  | n + 1 => if wk_sk a (n : Int) ∧ a 10 ≤ (wk_F2N a n) then (wk_F2N a n) - a 10 else (wk_F2N a n)
def wk_F2 (a : Int → Int) (n : Int) : Int := wk_F2N a n.toNat
theorem wk_F2_0 {a : Int → Int} : wk_F2 a 0 = wk_F1 a (a 4) := rfl
theorem wk_F2_s {a : Int → Int} {n : Int} (h : 0 ≤ n) : wk_F2 a (n + 1) = if wk_sk a n ∧ a 10 ≤ (wk_F2 a n) then (wk_F2 a n) - a 10 else (wk_F2 a n) := by
  unfold wk_F2
  have e : (n + 1).toNat = n.toNat + 1 := by omega
  rw [e]
  show (if wk_sk a (n.toNat : Int) ∧ a 10 ≤ (wk_F2N a n.toNat) then (wk_F2N a n.toNat) - a 10 else (wk_F2N a n.toNat)) = _
  rw [Int.toNat_of_nonneg h]
/-- WAGES with LEVY off and RELIEF -/
def wk_W2 (a : Int → Int) (p : Int) : Int := if wk_sk a p ∧ a 10 ≤ wk_F2 a p then wk_lv a p + a 10 else wk_lv a p
def PE4 (a : Int → Int) (p c : Int) : Int := if c = 8 ∧ p < a 4 then wk_W2 a p else PE2 a (a 1) p c
def PEl (a : Int → Int) (n p c : Int) : Int := if c = 8 ∧ p < a 4 then (if p < n then wk_lv a p else wk_Wf a p) else PE2 a (a 1) p c
def PEm (a : Int → Int) (n p c : Int) : Int := if c = 8 ∧ p < a 4 then (if p < n then wk_W2 a p else wk_lv a p) else PE2 a (a 1) p c
/-- how high COINS stand -/
def jv_U (a : Int → Int) : Prop := (0 ≤ a 8 ∧ a 8 ≤ 600000000) ∧ (∀ h, 0 ≤ h → h < a 3 → a (3460 + 8 * h + 1) ≤ 600000000) ∧ ∀ s, 0 ≤ s → s < a 2 → -1000 ≤ a (3428 + 8 * s) ∧ a (3428 + 8 * s) + r_debts a s ≤ 100000 ∧ (a (3428 + 8 * s + 3) = 0 → 0 ≤ a (3428 + 8 * s))
section FU
variable {a : Int → Int}
theorem wk_Wf_b (hJ : Jv a) (hT : jv_T a) (h0 : a 0 ≤ 399) (p : Int) : 0 ≤ wk_Wf a p ∧ wk_Wf a p ≤ 330000000 := by
  rw [← wk_W_f hJ]
  exact wk_W_b hJ hT h0
theorem wk_lv_b (hJ : Jv a) (hT : jv_T a) (h0 : a 0 ≤ 399) (p : Int) : 0 ≤ wk_lv a p ∧ wk_lv a p ≤ wk_Wf a p := by
  have b := wk_Wf_b hJ hT h0 p
  have hS := jS hJ
  unfold jv_S at hS
  unfold wk_lv
  split <;> omega
theorem wk_F1_b (hJ : Jv a) {n : Int} (hn : 0 ≤ n ∧ n ≤ a 4) : a 8 ≤ wk_F1 a n ∧ wk_F1 a n ≤ a 8 + 3000 := by
  have hC := jC hJ
  unfold jv_C at hC
  have hS := jS hJ
  unfold jv_S at hS
  have := sI_b (f := fun p => if a 9 ≤ wk_Wf a p then a 9 else 0) (n := n) (lo := 0) (hi := 50) hn.1 (fun p p0 p1 => by
    try dsimp only
    split <;> omega)
  unfold wk_F1
  omega
theorem wk_F2_b (hJ : Jv a) (h8 : 0 ≤ a 8) : ∀ n, 0 ≤ n → n ≤ a 4 → 0 ≤ wk_F2 a n ∧ wk_F2 a n ≤ wk_F1 a (a 4) := by
  have hC := jC hJ
  unfold jv_C at hC
  have hS := jS hJ
  unfold jv_S at hS
  have f := wk_F1_b hJ (n := a 4) (by omega)
  have key : ∀ n : Nat, (n : Int) ≤ a 4 → 0 ≤ wk_F2 a n ∧ wk_F2 a n ≤ wk_F1 a (a 4) := by
    intro n
    induction n with
    | zero => intro _; rw [show ((0 : Nat) : Int) = 0 from rfl, wk_F2_0]; omega
    | succ n ih =>
      intro hn
      have i := ih (by omega)
      rw [show ((n + 1 : Nat) : Int) = (n : Int) + 1 by omega, wk_F2_s (by omega)]
      split <;> omega
  intro n n0 n1
  have := key n.toNat (by omega)
  rw [Int.toNat_of_nonneg n0] at this
  exact this
theorem wk_W2_b (hJ : Jv a) (hT : jv_T a) (h0 : a 0 ≤ 399) (p : Int) : 0 ≤ wk_W2 a p ∧ wk_W2 a p ≤ wk_Wf a p + 500 := by
  have b := wk_lv_b hJ hT h0 p
  have hS := jS hJ
  unfold jv_S at hS
  unfold wk_W2
  split <;> omega
theorem sP_4 : sP a (PE4 a) := fun p c h1 h2 h3 h4 h7 h8 => by
  unfold PE4
  rw [if_neg (by omega)]
  exact sP_2 p c h1 h2 h3 h4 h7 h8
theorem sP_l {n : Int} : sP a (PEl a n) := fun p c h1 h2 h3 h4 h7 h8 => by
  unfold PEl
  rw [if_neg (by omega)]
  exact sP_2 p c h1 h2 h3 h4 h7 h8
theorem sP_m {n : Int} : sP a (PEm a n) := fun p c h1 h2 h3 h4 h7 h8 => by
  unfold PEm
  rw [if_neg (by omega)]
  exact sP_2 p c h1 h2 h3 h4 h7 h8
end FU
-- method 287: MillTownModel.fundGoes()V
theorem c_287_0 : pg_cd 287 0 = (1, 1, 0, 0, 0) := by decide +kernel
theorem c_287_1 : pg_cd 287 1 = (6, 1, 0, 1, 0) := by decide +kernel
theorem c_287_2 : pg_cd 287 2 = (3, 1, 0, 1, 0) := by decide +kernel
theorem c_287_3 : pg_cd 287 3 = (5, 1, 0, 0, 0) := by decide +kernel
theorem c_287_4 : pg_cd 287 4 = (45, 12, 8, 0, 0) := by decide +kernel
theorem c_287_7 : pg_cd 287 7 = (1, 1, 0, 0, 4) := by decide +kernel
theorem c_287_8 : pg_cd 287 8 = (50, 1, 0, 0, 0) := by decide +kernel
theorem c_287_9 : pg_cd 287 9 = (37, 3, 0, 3, 59) := by decide +kernel
theorem c_287_12 : pg_cd 287 12 = (5, 1, 0, 0, 0) := by decide +kernel
theorem c_287_13 : pg_cd 287 13 = (3, 1, 0, 1, 0) := by decide +kernel
theorem c_287_14 : pg_cd 287 14 = (1, 2, 0, 0, 8) := by decide +kernel
theorem c_287_16 : pg_cd 287 16 = (80, 199, 102, 0, 0) := by decide +kernel
theorem c_287_19 : pg_cd 287 19 = (5, 1, 0, 0, 0) := by decide +kernel
theorem c_287_20 : pg_cd 287 20 = (45, 12, 8, 0, 0) := by decide +kernel
theorem c_287_23 : pg_cd 287 23 = (1, 2, 0, 0, 9) := by decide +kernel
theorem c_287_25 : pg_cd 287 25 = (50, 1, 0, 0, 0) := by decide +kernel
theorem c_287_26 : pg_cd 287 26 = (37, 3, 0, 3, 6) := by decide +kernel
theorem c_287_29 : pg_cd 287 29 = (38, 3, 0, 0, 33) := by decide +kernel
theorem c_287_32 : pg_cd 287 32 = (5, 1, 0, 0, 0) := by decide +kernel
theorem c_287_33 : pg_cd 287 33 = (3, 1, 0, 1, 0) := by decide +kernel
theorem c_287_34 : pg_cd 287 34 = (5, 1, 0, 0, 0) := by decide +kernel
theorem c_287_35 : pg_cd 287 35 = (45, 12, 8, 0, 0) := by decide +kernel
theorem c_287_38 : pg_cd 287 38 = (1, 2, 0, 0, 9) := by decide +kernel
theorem c_287_40 : pg_cd 287 40 = (50, 1, 0, 0, 0) := by decide +kernel
theorem c_287_41 : pg_cd 287 41 = (21, 1, 0, 0, 0) := by decide +kernel
theorem c_287_42 : pg_cd 287 42 = (80, 285, 364, 0, 0) := by decide +kernel
theorem c_287_45 : pg_cd 287 45 = (5, 1, 0, 0, 0) := by decide +kernel
theorem c_287_46 : pg_cd 287 46 = (45, 12, 8, 0, 0) := by decide +kernel
theorem c_287_49 : pg_cd 287 49 = (1, 2, 0, 0, 8) := by decide +kernel
theorem c_287_51 : pg_cd 287 51 = (34, 1, 0, 0, 0) := by decide +kernel
theorem c_287_52 : pg_cd 287 52 = (50, 1, 0, 0, 0) := by decide +kernel
theorem c_287_53 : pg_cd 287 53 = (5, 1, 0, 0, 0) := by decide +kernel
theorem c_287_54 : pg_cd 287 54 = (45, 12, 8, 0, 0) := by decide +kernel
theorem c_287_57 : pg_cd 287 57 = (1, 2, 0, 0, 9) := by decide +kernel
theorem c_287_59 : pg_cd 287 59 = (50, 1, 0, 0, 0) := by decide +kernel
theorem c_287_60 : pg_cd 287 60 = (10, 1, 0, 0, 0) := by decide +kernel
theorem c_287_61 : pg_cd 287 61 = (54, 1, 0, 0, 0) := by decide +kernel
theorem c_287_62 : pg_cd 287 62 = (9, 3, 0, 1, 1) := by decide +kernel
theorem c_287_65 : pg_cd 287 65 = (38, 3, 0, 0, (-63)) := by decide +kernel
theorem c_287_68 : pg_cd 287 68 = (1, 1, 0, 0, 0) := by decide +kernel
theorem c_287_69 : pg_cd 287 69 = (6, 1, 0, 1, 0) := by decide +kernel
theorem c_287_70 : pg_cd 287 70 = (3, 1, 0, 1, 0) := by decide +kernel
theorem c_287_71 : pg_cd 287 71 = (5, 1, 0, 0, 0) := by decide +kernel
theorem c_287_72 : pg_cd 287 72 = (45, 12, 8, 0, 0) := by decide +kernel
theorem c_287_75 : pg_cd 287 75 = (1, 1, 0, 0, 4) := by decide +kernel
theorem c_287_76 : pg_cd 287 76 = (50, 1, 0, 0, 0) := by decide +kernel
theorem c_287_77 : pg_cd 287 77 = (37, 3, 0, 3, 79) := by decide +kernel
theorem c_287_80 : pg_cd 287 80 = (5, 1, 0, 0, 0) := by decide +kernel
theorem c_287_81 : pg_cd 287 81 = (3, 1, 0, 1, 0) := by decide +kernel
theorem c_287_82 : pg_cd 287 82 = (1, 1, 0, 0, 4) := by decide +kernel
theorem c_287_83 : pg_cd 287 83 = (80, 199, 102, 0, 0) := by decide +kernel
theorem c_287_86 : pg_cd 287 86 = (6, 1, 0, 2, 0) := by decide +kernel
theorem c_287_87 : pg_cd 287 87 = (3, 1, 0, 2, 0) := by decide +kernel
theorem c_287_88 : pg_cd 287 88 = (36, 3, 0, 2, 62) := by decide +kernel
theorem c_287_91 : pg_cd 287 91 = (5, 1, 0, 0, 0) := by decide +kernel
theorem c_287_92 : pg_cd 287 92 = (3, 1, 0, 2, 0) := by decide +kernel
theorem c_287_93 : pg_cd 287 93 = (1, 2, 0, 0, 6) := by decide +kernel
theorem c_287_95 : pg_cd 287 95 = (80, 198, 118, 0, 0) := by decide +kernel
theorem c_287_98 : pg_cd 287 98 = (36, 3, 0, 0, 52) := by decide +kernel
theorem c_287_101 : pg_cd 287 101 = (5, 1, 0, 0, 0) := by decide +kernel
theorem c_287_102 : pg_cd 287 102 = (45, 12, 8, 0, 0) := by decide +kernel
theorem c_287_105 : pg_cd 287 105 = (1, 2, 0, 0, 8) := by decide +kernel
theorem c_287_107 : pg_cd 287 107 = (50, 1, 0, 0, 0) := by decide +kernel
theorem c_287_108 : pg_cd 287 108 = (5, 1, 0, 0, 0) := by decide +kernel
theorem c_287_109 : pg_cd 287 109 = (45, 12, 8, 0, 0) := by decide +kernel
theorem c_287_112 : pg_cd 287 112 = (1, 2, 0, 0, 10) := by decide +kernel
theorem c_287_114 : pg_cd 287 114 = (50, 1, 0, 0, 0) := by decide +kernel
theorem c_287_115 : pg_cd 287 115 = (37, 3, 0, 3, 6) := by decide +kernel
theorem c_287_118 : pg_cd 287 118 = (38, 3, 0, 0, 32) := by decide +kernel
theorem c_287_121 : pg_cd 287 121 = (5, 1, 0, 0, 0) := by decide +kernel
theorem c_287_122 : pg_cd 287 122 = (45, 12, 8, 0, 0) := by decide +kernel
theorem c_287_125 : pg_cd 287 125 = (1, 2, 0, 0, 8) := by decide +kernel
theorem c_287_127 : pg_cd 287 127 = (34, 1, 0, 0, 0) := by decide +kernel
theorem c_287_128 : pg_cd 287 128 = (50, 1, 0, 0, 0) := by decide +kernel
theorem c_287_129 : pg_cd 287 129 = (5, 1, 0, 0, 0) := by decide +kernel
theorem c_287_130 : pg_cd 287 130 = (45, 12, 8, 0, 0) := by decide +kernel
theorem c_287_133 : pg_cd 287 133 = (1, 2, 0, 0, 10) := by decide +kernel
theorem c_287_135 : pg_cd 287 135 = (50, 1, 0, 0, 0) := by decide +kernel
theorem c_287_136 : pg_cd 287 136 = (11, 1, 0, 0, 0) := by decide +kernel
theorem c_287_137 : pg_cd 287 137 = (54, 1, 0, 0, 0) := by decide +kernel
theorem c_287_138 : pg_cd 287 138 = (5, 1, 0, 0, 0) := by decide +kernel
theorem c_287_139 : pg_cd 287 139 = (3, 1, 0, 1, 0) := by decide +kernel
theorem c_287_140 : pg_cd 287 140 = (5, 1, 0, 0, 0) := by decide +kernel
theorem c_287_141 : pg_cd 287 141 = (45, 12, 8, 0, 0) := by decide +kernel
theorem c_287_144 : pg_cd 287 144 = (1, 2, 0, 0, 10) := by decide +kernel
theorem c_287_146 : pg_cd 287 146 = (50, 1, 0, 0, 0) := by decide +kernel
theorem c_287_147 : pg_cd 287 147 = (80, 285, 364, 0, 0) := by decide +kernel
theorem c_287_150 : pg_cd 287 150 = (9, 3, 0, 1, 1) := by decide +kernel
theorem c_287_153 : pg_cd 287 153 = (38, 3, 0, 0, (-83)) := by decide +kernel
theorem c_287_156 : pg_cd 287 156 = (94, 0, 0, 0, 0) := by decide +kernel
theorem mi_287 : pg_mc 287 = 12 ∧ pg_na 287 = 0 ∧ pg_mx 287 = 3 := by decide +kernel
set_option maxRecDepth 20000 in
theorem u_287_0 {d : Nat} {S : zS} {σ τ : zI} {Q : zQ} (t : wi (d + 2) 287 2 [.ref 83, .int (wI 0), .retAddr 0] [] S σ τ Q) : wi (d + 2) 287 0 [.ref 83, .retAddr 0, .retAddr 0] [] S σ τ Q := by
  refine i1 c_287_0 (i6 (L' := [.ref 83, .int (wI 0), .retAddr 0]) c_287_1 rfl t)
set_option maxRecDepth 20000 in
theorem u_287_2 {d : Nat} {S : zS} {σ τ : zI} {Q : zQ} {x1 : Int} {y2 : Value} (t : (rg x1) ∧ if (σ 84 4) ≤ x1 then (wi (d + 2) 287 70 [.ref 83, .int (wI 0), y2] [] S σ τ Q) else ((0 ≤ 3652 + 12 * x1 + 8 ∧ 3652 + 12 * x1 + 8 < 112300) ∧ if (σ 84 9) ≤ (σ 84 (3652 + 12 * x1 + 8)) then ((0 ≤ x1 ∧ x1 < (60 : Int)) ∧ (rg (σ 84 (3652 + 12 * x1 + 8) + (-(σ 84 9)))) ∧ ∃ w9 : Int, wI w9 = wI ((u1 ((σ 84)) (3652 + 12 * x1 + 8) ((σ 84) (3652 + 12 * x1 + 8) + (-(σ 84 9))) 8) + (u1 ((σ 84)) (3652 + 12 * x1 + 8) ((σ 84) (3652 + 12 * x1 + 8) + (-(σ 84 9))) 9)) ∧ rg w9 ∧ wi (d + 2) 287 2 [.ref 83, .int (wI (x1 + 1)), y2] [] S (uc σ 84 (u1 (u1 ((σ 84)) (3652 + 12 * x1 + 8) ((σ 84) (3652 + 12 * x1 + 8) + (-(σ 84 9)))) 8 w9)) τ Q) else (wi (d + 2) 287 2 [.ref 83, .int (wI (x1 + 1)), y2] [] S σ τ Q))) : wi (d + 2) 287 2 [.ref 83, .int (wI x1), y2] [] S σ τ Q := by
  refine i3 c_287_2 rfl (i5 c_287_3 rfl (i45 c_287_4 (lo (c := 83) (kd := 112) (n := 0) rfl (by decide)) (lro (c := 83) (k := 0) (j := 84) (by decide)) (i1 c_287_7 (wi_ok (fun K1 => ?_)))))
  obtain ⟨r2, t⟩ := t
  refine i50 (v := σ 84 4) c_287_8 (lo (c := 84) (kd := 0) (n := 112300) rfl (by decide)) (by decide) (by decide) rfl ?_
  refine i37 c_287_9 r2 (rge_ K1 rfl) rfl (fun hc => ?_) (fun hc => ?_)
  · have t := iT t hc
    have ha3 : (σ 84 4) ≤ x1 := hc
    refine i1 c_287_68 (i6 (L' := [.ref 83, .int (wI 0), y2]) c_287_69 rfl t)
  · have t := iF t hc
    have ha3 : ¬ ((σ 84 4) ≤ x1) := hc
    obtain ⟨p4, t⟩ := t
    refine i5 c_287_12 rfl (i3 c_287_13 rfl (i1 c_287_14 ?_))
    refine i80 (As := [.int (wI x1), .int (wI 8)]) (rest := []) c_287_16 mi_199 rfl rfl (Nat.le_of_ble_eq_true rfl) (Nat.le_of_ble_eq_true rfl) (lo (c := 83) (kd := 112) (n := 0) rfl (by decide)) (q_199 p4 ?_)
    show wi (d + 2) 287 19 [.ref 83, .int (wI x1), y2] [.int (wI (σ 84 (3652 + 12 * x1 + 8)))] S σ τ Q
    refine i5 c_287_19 rfl (i45 c_287_20 (lo (c := 83) (kd := 112) (n := 0) rfl (by decide)) (lro (c := 83) (k := 0) (j := 84) (by decide)) (i1 c_287_23 (i50 (v := σ 84 9) c_287_25 (lo (c := 84) (kd := 0) (n := 112300) rfl (by decide)) (by decide) (by decide) rfl ?_)))
    refine i37 c_287_26 (rge_ K1 rfl) (rge_ K1 rfl) rfl (fun hc => ?_) (fun hc => ?_)
    · have t := iT t hc
      have ha5 : (σ 84 9) ≤ (σ 84 (3652 + 12 * x1 + 8)) := hc
      obtain ⟨p6, t⟩ := t
      obtain ⟨p7, t⟩ := t
      refine i5 c_287_32 rfl (i3 c_287_33 rfl (i5 c_287_34 rfl (i45 c_287_35 (lo (c := 83) (kd := 112) (n := 0) rfl (by decide)) (lro (c := 83) (k := 0) (j := 84) (by decide)) (i1 c_287_38 (i50 (v := σ 84 9) c_287_40 (lo (c := 84) (kd := 0) (n := 112300) rfl (by decide)) (by decide) (by decide) rfl (i21 c_287_41 ?_))))))
      refine i80 (As := [.int (wI x1), .int (wI (-(σ 84 9)))]) (rest := []) c_287_42 mi_285 rfl rfl (Nat.le_of_ble_eq_true rfl) (Nat.le_of_ble_eq_true rfl) (lo (c := 83) (kd := 112) (n := 0) rfl (by decide)) (q_285 p6 p7 ?_)
      show wi (d + 2) 287 45 [.ref 83, .int (wI x1), y2] [] S (uc σ 84 (u1 ((σ 84)) (3652 + 12 * x1 + 8) ((σ 84) (3652 + 12 * x1 + 8) + (-(σ 84 9))))) τ Q
      refine i5 c_287_45 rfl (i45 c_287_46 (lo (c := 83) (kd := 112) (n := 0) rfl (by decide)) (lro (c := 83) (k := 0) (j := 84) (by decide)) (i1 c_287_49 (i34a c_287_51 (wi_ok (fun K8 => ?_)))))
      obtain ⟨w9, e10, r11, t⟩ := t
      refine i50 (v := u1 ((σ 84)) (3652 + 12 * x1 + 8) ((σ 84) (3652 + 12 * x1 + 8) + (-(σ 84 9))) 8) c_287_52 (lo (c := 84) (kd := 0) (n := 112300) rfl (by decide)) (by decide) (by decide) (congrFun (uc_s _ _ _) _) (i5 c_287_53 rfl (i45 c_287_54 (lo (c := 83) (kd := 112) (n := 0) rfl (by decide)) (lro (c := 83) (k := 0) (j := 84) (by decide)) (i1 c_287_57 (i50 (v := u1 ((σ 84)) (3652 + 12 * x1 + 8) ((σ 84) (3652 + 12 * x1 + 8) + (-(σ 84 9))) 9) c_287_59 (lo (c := 84) (kd := 0) (n := 112300) rfl (by decide)) (by decide) (by decide) (congrFun (uc_s _ _ _) _) (i10 c_287_60 (i54 (σ1 := uc σ 84 (u1 (u1 ((σ 84)) (3652 + 12 * x1 + 8) ((σ 84) (3652 + 12 * x1 + 8) + (-(σ 84 9)))) 8 w9)) c_287_61 (lo (c := 84) (kd := 0) (n := 112300) rfl (by decide)) (by decide) (by decide) (by decide) e10 r11 (wr_ (uc_s _ _ _) (uc_uc _ _ _ _)) (i9 (L' := [.ref 83, .int (wI (x1 + 1)), y2]) c_287_62 rfl rfl (i38 c_287_65 rfl t))))))))
    · have t := iF t hc
      have ha5 : ¬ ((σ 84 9) ≤ (σ 84 (3652 + 12 * x1 + 8))) := hc
      refine i38 c_287_29 rfl (i9 (L' := [.ref 83, .int (wI (x1 + 1)), y2]) c_287_62 rfl rfl (i38 c_287_65 rfl t))
set_option maxRecDepth 20000 in
theorem u_287_70 {d : Nat} {S : zS} {σ τ : zI} {Q : zQ} {x1 : Int} {y2 : Value} (t : (rg x1) ∧ if (σ 84 4) ≤ x1 then (Q none S σ τ) else ((0 ≤ 3652 + 12 * x1 + 4 ∧ 3652 + 12 * x1 + 4 < 112300) ∧ if (σ 84 (3652 + 12 * x1 + 4)) < 0 then (wi (d + 2) 287 70 [.ref 83, .int (wI (x1 + 1)), .int (wI (σ 84 (3652 + 12 * x1 + 4)))] [] S σ τ Q) else ((0 ≤ 3300 + 16 * (σ 84 (3652 + 12 * x1 + 4)) + 6 ∧ 3300 + 16 * (σ 84 (3652 + 12 * x1 + 4)) + 6 < 112300) ∧ if (σ 84 (3300 + 16 * (σ 84 (3652 + 12 * x1 + 4)) + 6)) = 0 then (wi (d + 2) 287 70 [.ref 83, .int (wI (x1 + 1)), .int (wI (σ 84 (3652 + 12 * x1 + 4)))] [] S σ τ Q) else (if (σ 84 10) ≤ (σ 84 8) then (∃ w9 : Int, wI w9 = wI ((σ 84 8) - (σ 84 10)) ∧ rg w9 ∧ (0 ≤ x1 ∧ x1 < (60 : Int)) ∧ (rg ((uc σ 84 (u1 (σ 84) 8 w9)) 84 (3652 + 12 * x1 + 8) + (σ 84 10))) ∧ wi (d + 2) 287 70 [.ref 83, .int (wI (x1 + 1)), .int (wI (σ 84 (3652 + 12 * x1 + 4)))] [] S (uc σ 84 (u1 ((u1 (σ 84) 8 w9)) (3652 + 12 * x1 + 8) ((u1 (σ 84) 8 w9) (3652 + 12 * x1 + 8) + (σ 84 10)))) τ Q) else (wi (d + 2) 287 70 [.ref 83, .int (wI (x1 + 1)), .int (wI (σ 84 (3652 + 12 * x1 + 4)))] [] S σ τ Q))))) : wi (d + 2) 287 70 [.ref 83, .int (wI x1), y2] [] S σ τ Q := by
  refine i3 c_287_70 rfl (i5 c_287_71 rfl (i45 c_287_72 (lo (c := 83) (kd := 112) (n := 0) rfl (by decide)) (lro (c := 83) (k := 0) (j := 84) (by decide)) (i1 c_287_75 (wi_ok (fun K1 => ?_)))))
  obtain ⟨r2, t⟩ := t
  refine i50 (v := σ 84 4) c_287_76 (lo (c := 84) (kd := 0) (n := 112300) rfl (by decide)) (by decide) (by decide) rfl ?_
  refine i37 c_287_77 r2 (rge_ K1 rfl) rfl (fun hc => ?_) (fun hc => ?_)
  · have t := iT t hc
    have ha3 : (σ 84 4) ≤ x1 := hc
    exact i94 c_287_156 t
  · have t := iF t hc
    have ha3 : ¬ ((σ 84 4) ≤ x1) := hc
    obtain ⟨p4, t⟩ := t
    refine i5 c_287_80 rfl (i3 c_287_81 rfl (i1 c_287_82 ?_))
    refine i80 (As := [.int (wI x1), .int (wI 4)]) (rest := []) c_287_83 mi_199 rfl rfl (Nat.le_of_ble_eq_true rfl) (Nat.le_of_ble_eq_true rfl) (lo (c := 83) (kd := 112) (n := 0) rfl (by decide)) (q_199 p4 ?_)
    show wi (d + 2) 287 86 [.ref 83, .int (wI x1), y2] [.int (wI (σ 84 (3652 + 12 * x1 + 4)))] S σ τ Q
    refine i6 (L' := [.ref 83, .int (wI x1), .int (wI (σ 84 (3652 + 12 * x1 + 4)))]) c_287_86 rfl (i3 c_287_87 rfl ?_)
    refine i36 c_287_88 (rge_ K1 rfl) rfl (fun hc => ?_) (fun hc => ?_)
    · have t := iT t hc
      have ha5 : (σ 84 (3652 + 12 * x1 + 4)) < 0 := hc
      refine i9 (L' := [.ref 83, .int (wI (x1 + 1)), .int (wI (σ 84 (3652 + 12 * x1 + 4)))]) c_287_150 rfl rfl (i38 c_287_153 rfl t)
    · have t := iF t hc
      have ha5 : ¬ ((σ 84 (3652 + 12 * x1 + 4)) < 0) := hc
      obtain ⟨p6, t⟩ := t
      refine i5 c_287_91 rfl (i3 c_287_92 rfl (i1 c_287_93 ?_))
      refine i80 (As := [.int (wI (σ 84 (3652 + 12 * x1 + 4))), .int (wI 6)]) (rest := []) c_287_95 mi_198 rfl rfl (Nat.le_of_ble_eq_true rfl) (Nat.le_of_ble_eq_true rfl) (lo (c := 83) (kd := 112) (n := 0) rfl (by decide)) (q_198 p6 ?_)
      show wi (d + 2) 287 98 [.ref 83, .int (wI x1), .int (wI (σ 84 (3652 + 12 * x1 + 4)))] [.int (wI (σ 84 (3300 + 16 * (σ 84 (3652 + 12 * x1 + 4)) + 6)))] S σ τ Q
      refine i36 c_287_98 (rge_ K1 rfl) rfl (fun hc => ?_) (fun hc => ?_)
      · have t := iT t hc
        have ha7 : (σ 84 (3300 + 16 * (σ 84 (3652 + 12 * x1 + 4)) + 6)) = 0 := hc
        refine i9 (L' := [.ref 83, .int (wI (x1 + 1)), .int (wI (σ 84 (3652 + 12 * x1 + 4)))]) c_287_150 rfl rfl (i38 c_287_153 rfl t)
      · have t := iF t hc
        have ha7 : ¬ ((σ 84 (3300 + 16 * (σ 84 (3652 + 12 * x1 + 4)) + 6)) = 0) := hc
        refine i5 c_287_101 rfl (i45 c_287_102 (lo (c := 83) (kd := 112) (n := 0) rfl (by decide)) (lro (c := 83) (k := 0) (j := 84) (by decide)) (i1 c_287_105 (i50 (v := σ 84 8) c_287_107 (lo (c := 84) (kd := 0) (n := 112300) rfl (by decide)) (by decide) (by decide) rfl (i5 c_287_108 rfl (i45 c_287_109 (lo (c := 83) (kd := 112) (n := 0) rfl (by decide)) (lro (c := 83) (k := 0) (j := 84) (by decide)) (i1 c_287_112 (i50 (v := σ 84 10) c_287_114 (lo (c := 84) (kd := 0) (n := 112300) rfl (by decide)) (by decide) (by decide) rfl ?_)))))))
        refine i37 c_287_115 (rge_ K1 rfl) (rge_ K1 rfl) rfl (fun hc => ?_) (fun hc => ?_)
        · have t := iT t hc
          have ha8 : (σ 84 10) ≤ (σ 84 8) := hc
          obtain ⟨w9, e10, r11, t⟩ := t
          refine i5 c_287_121 rfl (i45 c_287_122 (lo (c := 83) (kd := 112) (n := 0) rfl (by decide)) (lro (c := 83) (k := 0) (j := 84) (by decide)) (i1 c_287_125 (i34a c_287_127 (i50 (v := σ 84 8) c_287_128 (lo (c := 84) (kd := 0) (n := 112300) rfl (by decide)) (by decide) (by decide) rfl (i5 c_287_129 rfl (i45 c_287_130 (lo (c := 83) (kd := 112) (n := 0) rfl (by decide)) (lro (c := 83) (k := 0) (j := 84) (by decide)) (i1 c_287_133 (i50 (v := σ 84 10) c_287_135 (lo (c := 84) (kd := 0) (n := 112300) rfl (by decide)) (by decide) (by decide) rfl (i11 c_287_136 (i54 (σ1 := uc σ 84 (u1 (σ 84) 8 w9)) c_287_137 (lo (c := 84) (kd := 0) (n := 112300) rfl (by decide)) (by decide) (by decide) (by decide) e10 r11 (wr_ rfl rfl) (i5 c_287_138 rfl (i3 c_287_139 rfl (i5 c_287_140 rfl (i45 c_287_141 (lo (c := 83) (kd := 112) (n := 0) rfl (by decide)) (lro (c := 83) (k := 0) (j := 84) (by decide)) (i1 c_287_144 (wi_ok (fun K12 => ?_)))))))))))))))))
          obtain ⟨p13, t⟩ := t
          obtain ⟨p14, t⟩ := t
          refine i50 (v := σ 84 10) c_287_146 (lo (c := 84) (kd := 0) (n := 112300) rfl (by decide)) (by decide) (by decide) ((congrFun (uc_s _ _ _) _).trans (u1_n (by decide))) ?_
          refine i80 (As := [.int (wI x1), .int (wI (σ 84 10))]) (rest := []) c_287_147 mi_285 rfl rfl (Nat.le_of_ble_eq_true rfl) (Nat.le_of_ble_eq_true rfl) (lo (c := 83) (kd := 112) (n := 0) rfl (by decide)) (q_285 p13 p14 ?_)
          show wi (d + 2) 287 150 [.ref 83, .int (wI x1), .int (wI (σ 84 (3652 + 12 * x1 + 4)))] [] S (uc (uc σ 84 (u1 (σ 84) 8 w9)) 84 (u1 ((uc σ 84 (u1 (σ 84) 8 w9)) 84) (3652 + 12 * x1 + 8) ((uc σ 84 (u1 (σ 84) 8 w9)) 84 (3652 + 12 * x1 + 8) + (σ 84 10)))) τ Q
          refine wi_s (σ1 := uc σ 84 (u1 ((u1 (σ 84) 8 w9)) (3652 + 12 * x1 + 8) ((u1 (σ 84) 8 w9) (3652 + 12 * x1 + 8) + (σ 84 10)))) (by funext j; by_cases h0 : j = 84 <;> simp [uc, h0]) (i9 (L' := [.ref 83, .int (wI (x1 + 1)), .int (wI (σ 84 (3652 + 12 * x1 + 4)))]) c_287_150 rfl rfl (i38 c_287_153 rfl t))
        · have t := iF t hc
          have ha8 : ¬ ((σ 84 10) ≤ (σ 84 8)) := hc
          refine i38 c_287_118 rfl (i9 (L' := [.ref 83, .int (wI (x1 + 1)), .int (wI (σ 84 (3652 + 12 * x1 + 4)))]) c_287_150 rfl rfl (i38 c_287_153 rfl t))
theorem q_287 {d : Nat} {S : zS} {σ τ : zI} {Q : zQ} {a : Int → Int} {a1 : Int → Int} (p0 : σ 84 = As a1 (PE3 a (a 1) 0) (MI3 a (a 1)) (OD3 a (a 1))) (p1 : eB a a1 ∧ a1 8 = a 8) (p2 : Jv a) (p3 : jv_T a) (p4 : a 0 ≤ 399) (p5 : jv_U a) (t : ∀ (σ1 : zI), (∀ c, c ≠ 84 → σ1 c = σ c) → σ1 84 = As (u1 a1 8 (wk_F2 a (a 4))) (PE4 a) (MI3 a (a 1)) (OD3 a (a 1)) → Q none S σ1 τ) : wc (d + 2) 287 [.ref 83] S σ τ Q := by
  have hC := jC p2
  unfold jv_C at hC
  have hS := jS p2
  unfold jv_S at hS
  obtain ⟨bB, a8⟩ := p1
  have u8 := p5.1
  refine wc_of mi_287 rfl (u_287_0 ?_)
  have cm : ∀ F k, (0 ≤ k ∧ k < 3300 ∧ k ≠ 8) → u1 a1 8 F k = a k := fun F k hk => by rw [u1_n (by omega)]; exact bB k (by omega)
  have rel : ∀ p, 0 ≤ p → p ≤ a 4 → ∀ σ' : zI, (∀ c, c ≠ 84 → σ' c = σ c) → σ' 84 = As (u1 a1 8 (wk_F2 a p)) (PEm a p) (MI3 a (a 1)) (OD3 a (a 1)) → ∀ y2, wi (d + 2) 287 70 [.ref 83, .int (wI p), y2] [] S σ' τ Q := by
    refine lp_up (fun p q0 q1 ih => ?_)
    intro σ' f1 f3 y2
    have fb := wk_F2_b p2 (by omega) p q0 q1
    have f1b := wk_F1_b p2 (n := a 4) (by omega)
    refine u_287_70 ?_
    have e4 : σ' 84 4 = a 4 := by rw [f3, As_k (by omega)]; exact cm _ 4 (by omega)
    rw [e4]
    refine ⟨by omega, ifI (fun e => ?_) (fun e => ?_)⟩
    · have e : p = a 4 := by omega
      subst e
      refine t _ f1 ?_
      rw [f3]
      refine As_c (fun _ _ => rfl) (fun x c _ _ _ _ => ?_) (fun _ _ _ _ _ _ => rfl) (fun _ _ _ _ _ _ => rfl)
      unfold PEm PE4
      by_cases c8 : c = 8 ∧ x < a 4
      · rw [if_pos c8, if_pos c8, if_pos c8.2]
      · rw [if_neg c8, if_neg c8]
    · have ih := ih (by omega)
      have hP := jP p2 p q0 (by omega)
      have v4 : σ' 84 (3652 + 12 * p + 4) = a (3652 + 12 * p + 4) := by rw [f3, As_p (by omega) (by omega)]; exact sP_m p 4 (by omega) (by omega) (by omega) (by omega) (by omega) (by omega)
      rw [v4]
      have Fs := wk_F2_s (a := a) q0
      have no : ¬ (wk_sk a p ∧ a 10 ≤ wk_F2 a p) → ∀ y2, wi (d + 2) 287 70 [.ref 83, .int (wI (p + 1)), y2] [] S σ' τ Q := fun hn y2 => by
        refine ih σ' f1 ?_ _
        rw [f3, Fs, if_neg hn]
        refine As_c (fun _ _ => rfl) (fun x c _ _ _ _ => ?_) (fun _ _ _ _ _ _ => rfl) (fun _ _ _ _ _ _ => rfl)
        unfold PEm
        by_cases c8 : c = 8 ∧ x < a 4
        · rw [if_pos c8, if_pos c8]
          by_cases ex : x = p
          · subst ex
            rw [if_neg (by omega), if_pos (by omega)]
            unfold wk_W2; rw [if_neg hn]
          · by_cases e1 : x < p
            · rw [if_pos e1, if_pos (by omega)]
            · rw [if_neg e1, if_neg (by omega)]
        · rw [if_neg c8, if_neg c8]
      refine ⟨by omega, ifI (fun e1 => no (fun q => by have := q.1.1; omega) _) (fun e1 => ?_)⟩
      have v6 : σ' 84 (3300 + 16 * a (3652 + 12 * p + 4) + 6) = a (3300 + 16 * a (3652 + 12 * p + 4) + 6) := by rw [f3, As_m (by omega) (by omega)]; exact sM_3 _ 6 (by omega) (by omega) (by omega)
      have v8 : σ' 84 8 = wk_F2 a p := by rw [f3, As_k (by omega), u1_s]
      have v10 : σ' 84 10 = a 10 := by rw [f3, As_k (by omega)]; exact cm _ 10 (by omega)
      rw [v6, v8, v10]
      refine ⟨by omega, ifI (fun e2 => no (fun q => q.1.2 e2) _) (fun e2 => ifI (fun e3 => ?_) (fun e3 => no (fun q => e3 q.2) _))⟩
      have yes : wk_sk a p ∧ a 10 ≤ wk_F2 a p := ⟨⟨by omega, e2⟩, e3⟩
      rw [if_pos yes] at Fs
      have uw : u1 (σ' 84) 8 (wk_F2 a p - a 10) = As (u1 a1 8 (wk_F2 a p - a 10)) (PEm a p) (MI3 a (a 1)) (OD3 a (a 1)) := by rw [f3, As_uk (by omega), u1_u1]
      have lb := wk_lv_b p2 p3 p4 p
      have wb := wk_Wf_b p2 p3 p4 p
      have w8 : As (u1 a1 8 (wk_F2 a p - a 10)) (PEm a p) (MI3 a (a 1)) (OD3 a (a 1)) (3652 + 12 * p + 8) = wk_lv a p := by rw [As_p (by omega) (by omega)]; unfold PEm; rw [if_pos (by omega), if_neg (by omega)]
      refine ⟨wk_F2 a p - a 10, rfl, by omega, by omega, ?_, ?_⟩
      · rw [uw, uc_s, w8]; omega
      · rw [uw, w8]
        refine ih _ (fun c hc => by rw [uc_n hc]; exact f1 c hc) ?_ _
        rw [uc_s, As_up (by omega) (by omega), Fs]
        refine As_c (fun _ _ => rfl) (fun x c _ _ _ _ => ?_) (fun _ _ _ _ _ _ => rfl) (fun _ _ _ _ _ _ => rfl)
        by_cases c8 : c = 8 ∧ x < a 4
        · obtain ⟨rfl, x4⟩ := c8
          by_cases ex : x = p
          · subst ex
            rw [t2_s]; unfold PEm; rw [if_pos (by omega), if_pos (by omega)]; unfold wk_W2; rw [if_pos yes]
          · rw [t2_n (by omega)]; unfold PEm; rw [if_pos (show (8 : Int) = 8 ∧ x < a 4 from ⟨rfl, x4⟩), if_pos (show (8 : Int) = 8 ∧ x < a 4 from ⟨rfl, x4⟩)]
            by_cases e1 : x < p
            · rw [if_pos e1, if_pos (by omega)]
            · rw [if_neg e1, if_neg (by omega)]
        · rw [t2_n (by omega)]; unfold PEm; rw [if_neg c8, if_neg c8]
  have lev : ∀ p, 0 ≤ p → p ≤ a 4 → ∀ σ' : zI, (∀ c, c ≠ 84 → σ' c = σ c) → σ' 84 = As (u1 a1 8 (wk_F1 a p)) (PEl a p) (MI3 a (a 1)) (OD3 a (a 1)) → ∀ y2, wi (d + 2) 287 2 [.ref 83, .int (wI p), y2] [] S σ' τ Q := by
    refine lp_up (fun p q0 q1 ih => ?_)
    intro σ' f1 f3 y2
    have f1b := wk_F1_b p2 (n := p) ⟨q0, q1⟩
    refine u_287_2 ?_
    have e4 : σ' 84 4 = a 4 := by rw [f3, As_k (by omega)]; exact cm _ 4 (by omega)
    rw [e4]
    refine ⟨by omega, ifI (fun e => ?_) (fun e => ?_)⟩
    · have e : p = a 4 := by omega
      subst e
      refine rel 0 (by omega) (by omega) σ' f1 ?_ _
      rw [f3, wk_F2_0]
      refine As_c (fun _ _ => rfl) (fun x c x0 _ _ _ => ?_) (fun _ _ _ _ _ _ => rfl) (fun _ _ _ _ _ _ => rfl)
      unfold PEl PEm
      by_cases c8 : c = 8 ∧ x < a 4
      · rw [if_pos c8, if_pos c8, if_pos c8.2, if_neg (by omega)]
      · rw [if_neg c8, if_neg c8]
    · have ih := ih (by omega)
      have wb := wk_Wf_b p2 p3 p4 p
      have v8 : σ' 84 (3652 + 12 * p + 8) = wk_Wf a p := by rw [f3, As_p (by omega) (by omega)]; unfold PEl; rw [if_pos (by omega), if_neg (by omega)]
      have v9 : σ' 84 9 = a 9 := by rw [f3, As_k (by omega)]; exact cm _ 9 (by omega)
      have Fs : wk_F1 a (p + 1) = wk_F1 a p + (if a 9 ≤ wk_Wf a p then a 9 else 0) := by unfold wk_F1; rw [sI_s q0]; omega
      rw [v8, v9]
      refine ⟨by omega, ifI (fun e1 => ?_) (fun e1 => ?_)⟩
      · rw [if_pos e1] at Fs
        have uw : u1 (σ' 84) (3652 + 12 * p + 8) (wk_Wf a p + -a 9) = As (u1 a1 8 (wk_F1 a p)) (t2 (PEl a p) p 8 (wk_Wf a p + -a 9)) (MI3 a (a 1)) (OD3 a (a 1)) := by rw [f3, As_up (by omega) (by omega)]
        rw [uw]
        have r8 : As (u1 a1 8 (wk_F1 a p)) (t2 (PEl a p) p 8 (wk_Wf a p + -a 9)) (MI3 a (a 1)) (OD3 a (a 1)) 8 = wk_F1 a p := by rw [As_k (by omega), u1_s]
        have r9 : As (u1 a1 8 (wk_F1 a p)) (t2 (PEl a p) p 8 (wk_Wf a p + -a 9)) (MI3 a (a 1)) (OD3 a (a 1)) 9 = a 9 := by rw [As_k (by omega)]; exact cm _ 9 (by omega)
        rw [r8, r9]
        refine ⟨by omega, by omega, wk_F1 a p + a 9, rfl, by omega, ih _ (fun c hc => by rw [uc_n hc]; exact f1 c hc) ?_ _⟩
        rw [uc_s, As_uk (by omega), u1_u1, Fs]
        refine As_c (fun _ _ => rfl) (fun x c _ _ _ _ => ?_) (fun _ _ _ _ _ _ => rfl) (fun _ _ _ _ _ _ => rfl)
        by_cases c8 : c = 8 ∧ x < a 4
        · obtain ⟨rfl, x4⟩ := c8
          by_cases ex : x = p
          · subst ex
            rw [t2_s]; unfold PEl; rw [if_pos (by omega), if_pos (by omega)]; unfold wk_lv; rw [if_pos e1]; omega
          · rw [t2_n (by omega)]; unfold PEl; rw [if_pos (show (8 : Int) = 8 ∧ x < a 4 from ⟨rfl, x4⟩), if_pos (show (8 : Int) = 8 ∧ x < a 4 from ⟨rfl, x4⟩)]
            by_cases e2 : x < p
            · rw [if_pos e2, if_pos (by omega)]
            · rw [if_neg e2, if_neg (by omega)]
        · rw [t2_n (by omega)]; unfold PEl; rw [if_neg c8, if_neg c8]
      · rw [if_neg e1, Int.add_zero] at Fs
        refine ih σ' f1 ?_ _
        rw [f3, Fs]
        refine As_c (fun _ _ => rfl) (fun x c _ _ _ _ => ?_) (fun _ _ _ _ _ _ => rfl) (fun _ _ _ _ _ _ => rfl)
        unfold PEl
        by_cases c8 : c = 8 ∧ x < a 4
        · rw [if_pos c8, if_pos c8]
          by_cases ex : x = p
          · subst ex
            rw [if_neg (by omega), if_pos (by omega)]; unfold wk_lv; rw [if_neg e1]
          · by_cases e2 : x < p
            · rw [if_pos e2, if_pos (by omega)]
            · rw [if_neg e2, if_neg (by omega)]
        · rw [if_neg c8, if_neg c8]
  refine lev 0 (by omega) (by omega) σ (fun _ _ => rfl) ?_ _
  rw [p0]
  refine As_c (fun k _ => ?_) (fun x c x0 _ _ _ => ?_) (fun _ _ _ _ _ _ => rfl) (fun _ _ _ _ _ _ => rfl)
  · show a1 k = u1 a1 8 (a 8 + 0) k
    unfold u1
    split
    · next h => rw [h, a8, Int.add_zero]
    · rfl
  · unfold PE3 PEl
    by_cases c8 : c = 8 ∧ x < a 4
    · rw [if_pos c8, if_pos c8, if_neg (by omega), wk_W_f p2]
    · rw [if_neg c8, if_neg c8]
