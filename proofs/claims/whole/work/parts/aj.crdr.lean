/-! ===== the class reads a TEXT (segments printed by wip/whole, contracts own work) ===== -/
-- method 81: MillTown$Text.clear()V
theorem c_81_0 : pg_cd 81 0 = (5, 1, 0, 0, 0) := by decide +kernel
theorem c_81_1 : pg_cd 81 1 = (45, 7, 14, 0, 0) := by decide +kernel
theorem c_81_4 : pg_cd 81 4 = (1, 1, 0, 0, 0) := by decide +kernel
theorem c_81_5 : pg_cd 81 5 = (46, 4, 24, 2, 0) := by decide +kernel
theorem c_81_8 : pg_cd 81 8 = (5, 1, 0, 0, 0) := by decide +kernel
theorem c_81_9 : pg_cd 81 9 = (1, 1, 0, 0, 0) := by decide +kernel
theorem c_81_10 : pg_cd 81 10 = (46, 7, 28, 2, 0) := by decide +kernel
theorem c_81_13 : pg_cd 81 13 = (5, 1, 0, 0, 0) := by decide +kernel
theorem c_81_14 : pg_cd 81 14 = (1, 1, 0, 0, 0) := by decide +kernel
theorem c_81_15 : pg_cd 81 15 = (46, 7, 31, 3, 0) := by decide +kernel
theorem c_81_18 : pg_cd 81 18 = (94, 0, 0, 0, 0) := by decide +kernel
theorem mi_81 : pg_mc 81 = 7 ∧ pg_na 81 = 0 ∧ pg_mx 81 = 1 := by decide +kernel
set_option maxRecDepth 20000 in
theorem u_81_0 {d : Nat} {S : zS} {σ τ : zI} {Q : zQ} {x0 : Nat} (hx0 : oT S x0) (t : Q none S (uc (uc σ (x0 + 1) (u1 (σ (x0 + 1)) 2 0)) x0 (u1 (u1 (σ x0) 2 0) 3 0)) τ) : wi (d + 3) 81 0 [.ref x0] [] S σ τ Q := by
  refine i5 c_81_0 rfl (i45 c_81_1 (fun _ => oT_0 hx0) (fun _ => oT_r0 hx0) (i1 c_81_4 (i46 (σ1 := uc σ (x0 + 1) (u1 (σ (x0 + 1)) 2 0)) c_81_5 (fun _ => oT_1 hx0) (isR_b (by have := oT_b hx0; omega)) rfl (by decide) (wr_ rfl rfl) (i5 c_81_8 rfl (i1 c_81_9 (i46 (σ1 := uc (uc σ (x0 + 1) (u1 (σ (x0 + 1)) 2 0)) x0 (u1 (σ x0) 2 0)) c_81_10 (fun _ => oT_0 hx0) (isR_b (by have := oT_b hx0; omega)) rfl (by decide) (wr_ (uc_ns rfl (by have := oT_b hx0; have := oT_b hx0; omega)) rfl) (i5 c_81_13 rfl (i1 c_81_14 (i46 (σ1 := uc (uc σ (x0 + 1) (u1 (σ (x0 + 1)) 2 0)) x0 (u1 (u1 (σ x0) 2 0) 3 0)) c_81_15 (fun _ => oT_0 hx0) (isR_b (by have := oT_b hx0; omega)) rfl (by decide) (wr_ (uc_s _ _ _) (uc_uc _ _ _ _)) ?_)))))))))
  exact i94 c_81_18 t
theorem q_81 {d : Nat} {S : zS} {σ τ : zI} {Q : zQ} {x : Nat} (hx : oT S x) (p0 : σ (x + 1) 0 = 8) (t : ∀ (σ1 : zI), (∀ c, c ≠ x → c ≠ x + 1 → σ1 c = σ c) → σ1 x 2 = 0 ∧ σ1 x 3 = 0 → σ1 (x + 1) 0 = 8 ∧ σ1 (x + 1) 2 = 0 → Q none S σ1 τ) : wc (d + 3) 81 [.ref x] S σ τ Q := by
  have xb := oT_b hx
  refine wc_of mi_81 rfl (u_81_0 hx (t _ (fun c h1 h2 => ?_) ⟨?_, ?_⟩ ⟨?_, ?_⟩))
  · rw [uc_n h1, uc_n h2]
  · rw [uc_s, u1_n (by omega), u1_s]
  · rw [uc_s, u1_s]
  · rw [uc_n (by omega), uc_s, u1_n (by omega)]; exact p0
  · rw [uc_n (by omega), uc_s, u1_s]
/-- a TEXT of the class, so far as it is read -/
def TI (x : Nat) (b m : Int) (L W : List (Int × Int)) (σ : zI) : Prop := σ (x + 1) 0 = 8 ∧ σ (x + 1) 2 = m ∧ σ x 2 = L.length ∧ CWL (σ (x + 3)) 0 L ∧ (∀ w, w ∈ W → b + 1 ≤ w.1 ∧ w.1 < b + 1 + 8 * m) ∧ (∀ c, 0 ≤ c → c < m → ∀ g, TC (σ (x + 2)) c (wrs g W) (b + 1 + 8 * c) ∧ JC (wrs g W) (b + 1 + 8 * c) L) ∧ ∀ s, 3 ≤ s → s ≤ 9 → (zand (zush (σ x 3) s) 1 = 0 ↔ ∀ c, 0 ≤ c → c < m → σ (x + 2) (c * 8 + 0) ≠ s)
theorem bit_0 {z k : Int} (h : 0 ≤ k ∧ k < 32) : zand (zush z k) 1 = 0 ↔ zbt z k = false := by
  rw [zus1 h]
  cases zbt z k
  · exact ⟨fun _ => rfl, fun _ => rfl⟩
  · exact ⟨fun z => absurd z (by decide), fun z => absurd z (by decide)⟩
section RDC
variable {T : Int → Int} {n : Int} {x : Nat}
theorem TI_s (hT : TB T n) {b m s : Int} {L W : List (Int × Int)} {σ σ1 : zI} (h0 : 0 ≤ s) (h1 : s ≤ n) (ti : TI x b m L W σ) (hm : 0 ≤ m) (cl : CLS x T n m (b + 1 + 8 * m) s σ σ1) (e : (clsO T n m (b + 1 + 8 * m) L.length s).1 = 0) : TI x b (m + 1) (L ++ (clsO T n m (b + 1 + 8 * m) L.length s).2.2.1) (W ++ (clsO T n m (b + 1 + 8 * m) L.length s).2.2.2) σ1 := by
  obtain ⟨t1, t2, t3, t4, t5, t6, t7⟩ := ti
  obtain ⟨⟨c1, c2, c3, c4, c5, c6, c7⟩, ok, er⟩ := cl
  rw [t3] at ok
  obtain ⟨cr, cw, tc⟩ := ok e
  have w := cls_w hT h0 h1 e
  have t9 := (srtO_b (tk T n s)).2.2.2.2.2.2.2.2 (cl_i e).2.1
  obtain ⟨R, hR⟩ : ∃ R, R = clsO T n m (b + 1 + 8 * m) L.length s := ⟨_, rfl⟩
  rw [← hR] at w cw tc ⊢
  obtain ⟨⟨wq, wg⟩, _⟩ := w
  have r0 : σ1 (x + 2) (m * 8 + 0) = tk T n s := (tc (fun _ => 0)).1.trans (wg (fun _ => 0)).1
  refine ⟨?_, ?_, ?_, ?_, fun w hw => ?_, fun c hc0 hc1 g => ?_, fun k k0 k1 => ?_⟩
  · rw [c6, u1_n (by decide)]; exact t1
  · rw [c6, u1_s]
  · rw [cw.1, t3, len_a]
  · have a1 := cw.2.2
    rw [t3] at a1
    have a2 := cw.2.1
    rw [t3] at a2
    refine CWL_a _ _ _ (CWL_f L 0 (fun k _ hk => a1 k (by omega)) t4) ?_
    rw [show (0 : Int) + (L.length : Int) = L.length by omega]
    exact a2
  · rcases List.mem_append.mp hw with hw | hw
    · have := t5 w hw; omega
    · have := wq w hw; omega
  · rw [wrs_a]
    by_cases z : c = m
    · subst z
      exact ⟨tc _, (wg _).2⟩
    · have q := t6 c hc0 (by omega) g
      have ec : ∀ k, 0 ≤ k → k < 8 → wrs (wrs g W) R.2.2.2 (b + 1 + 8 * c + k) = wrs g W (b + 1 + 8 * c + k) := fun k k0 k1 => wrs_n _ _ (fun y hy z => by have := wq y hy; omega)
      exact ⟨TC_c q.1 ec (fun k k0 k1 => c7 _ (by omega)), JC_a (JC_c q.2 ec)⟩
  · rw [bit_0 (by omega), c3, zor_bt (by omega) (by omega)]
    have tb := t7 k k0 k1
    rw [bit_0 (by omega)] at tb
    rw [Bool.or_eq_false_iff, tb, decide_eq_false_iff_not]
    constructor
    · rintro ⟨h1, h2⟩ c hc0 hc1
      by_cases z : c = m
      · subst z; rw [r0]; exact fun y => h2 y.symm
      · rw [c7 _ (by omega)]; exact h1 c hc0 (by omega)
    · intro h
      refine ⟨fun c hc0 hc1 => ?_, fun y => h m hm (by omega) (by rw [r0]; exact y.symm)⟩
      rw [← c7 _ (by omega)]; exact h c hc0 (by omega)
/-- a TEXT read by the class -/
def RDQ (x : Nat) (b len : Int) (σ σ1 : zI) : Prop := (∀ c, c ≠ x → c ≠ x + 1 → c ≠ x + 2 → c ≠ x + 3 → c ≠ 63 → c ≠ 64 → c ≠ 65 → c ≠ 66 → σ1 c = σ c) ∧ (∀ k, k < 3 ∨ 6 < k → σ1 63 k = σ 63 k) ∧ ((rdO (σ 82) len b 302 0 (sk (σ 82) len 0) [] []).1 = 0 → σ1 63 5 = 0 ∧ σ1 63 6 = -1 ∧ TI x b (rdO (σ 82) len b 302 0 (sk (σ 82) len 0) [] []).2.2.1 (rdO (σ 82) len b 302 0 (sk (σ 82) len 0) [] []).2.2.2.1 (rdO (σ 82) len b 302 0 (sk (σ 82) len 0) [] []).2.2.2.2 σ1) ∧ ((rdO (σ 82) len b 302 0 (sk (σ 82) len 0) [] []).1 ≠ 0 → σ1 63 5 = (rdO (σ 82) len b 302 0 (sk (σ 82) len 0) [] []).1 ∧ σ1 63 6 = (rdO (σ 82) len b 302 0 (sk (σ 82) len 0) [] []).2.1) ∧ σ1 (x + 1) 0 = 8
end RDC
-- method 35: MillTown$Reader.read([IILMillTown$Text;)Z
theorem c_35_0 : pg_cd 35 0 = (5, 1, 0, 0, 0) := by decide +kernel
theorem c_35_1 : pg_cd 35 1 = (1, 1, 0, 0, 0) := by decide +kernel
theorem c_35_2 : pg_cd 35 2 = (46, 3, 21, 5, 0) := by decide +kernel
theorem c_35_5 : pg_cd 35 5 = (5, 1, 0, 0, 0) := by decide +kernel
theorem c_35_6 : pg_cd 35 6 = (1, 1, 0, 0, (-1)) := by decide +kernel
theorem c_35_7 : pg_cd 35 7 = (46, 3, 25, 6, 0) := by decide +kernel
theorem c_35_10 : pg_cd 35 10 = (5, 1, 0, 3, 0) := by decide +kernel
theorem c_35_11 : pg_cd 35 11 = (80, 81, 28, 0, 0) := by decide +kernel
theorem c_35_14 : pg_cd 35 14 = (5, 1, 0, 0, 0) := by decide +kernel
theorem c_35_15 : pg_cd 35 15 = (5, 1, 0, 1, 0) := by decide +kernel
theorem c_35_16 : pg_cd 35 16 = (3, 1, 0, 2, 0) := by decide +kernel
theorem c_35_17 : pg_cd 35 17 = (5, 1, 0, 1, 0) := by decide +kernel
theorem c_35_18 : pg_cd 35 18 = (58, 0, 0, 0, 0) := by decide +kernel
theorem c_35_19 : pg_cd 35 19 = (1, 3, 0, 0, 300) := by decide +kernel
theorem c_35_22 : pg_cd 35 22 = (74, 0, 33, 0, 0) := by decide +kernel
theorem c_35_25 : pg_cd 35 25 = (74, 0, 33, 0, 0) := by decide +kernel
theorem c_35_28 : pg_cd 35 28 = (80, 36, 39, 0, 0) := by decide +kernel
theorem c_35_31 : pg_cd 35 31 = (5, 1, 0, 0, 0) := by decide +kernel
theorem c_35_32 : pg_cd 35 32 = (1, 1, 0, 0, 0) := by decide +kernel
theorem c_35_33 : pg_cd 35 33 = (46, 3, 43, 3, 0) := by decide +kernel
theorem c_35_36 : pg_cd 35 36 = (5, 1, 0, 0, 0) := by decide +kernel
theorem c_35_37 : pg_cd 35 37 = (5, 1, 0, 0, 0) := by decide +kernel
theorem c_35_38 : pg_cd 35 38 = (45, 3, 9, 0, 0) := by decide +kernel
theorem c_35_41 : pg_cd 35 41 = (1, 1, 0, 0, 0) := by decide +kernel
theorem c_35_42 : pg_cd 35 42 = (50, 1, 0, 0, 0) := by decide +kernel
theorem c_35_43 : pg_cd 35 43 = (46, 3, 46, 4, 0) := by decide +kernel
theorem c_35_46 : pg_cd 35 46 = (1, 1, 0, 0, 0) := by decide +kernel
theorem c_35_47 : pg_cd 35 47 = (6, 2, 0, 4, 0) := by decide +kernel
theorem c_35_49 : pg_cd 35 49 = (3, 2, 0, 4, 0) := by decide +kernel
theorem c_35_51 : pg_cd 35 51 = (1, 2, 0, 0, 24) := by decide +kernel
theorem c_35_53 : pg_cd 35 53 = (37, 3, 0, 4, 90) := by decide +kernel
theorem c_35_56 : pg_cd 35 56 = (5, 1, 0, 0, 0) := by decide +kernel
theorem c_35_57 : pg_cd 35 57 = (43, 3, 21, 5, 0) := by decide +kernel
theorem c_35_60 : pg_cd 35 60 = (36, 3, 0, 1, 83) := by decide +kernel
theorem c_35_63 : pg_cd 35 63 = (5, 1, 0, 0, 0) := by decide +kernel
theorem c_35_64 : pg_cd 35 64 = (43, 3, 46, 4, 0) := by decide +kernel
theorem c_35_67 : pg_cd 35 67 = (1, 1, 0, 0, 1) := by decide +kernel
theorem c_35_68 : pg_cd 35 68 = (37, 3, 0, 0, 75) := by decide +kernel
theorem c_35_71 : pg_cd 35 71 = (5, 1, 0, 0, 0) := by decide +kernel
theorem c_35_72 : pg_cd 35 72 = (43, 3, 46, 4, 0) := by decide +kernel
theorem c_35_75 : pg_cd 35 75 = (1, 1, 0, 0, 3) := by decide +kernel
theorem c_35_76 : pg_cd 35 76 = (37, 3, 0, 2, 12) := by decide +kernel
theorem c_35_79 : pg_cd 35 79 = (5, 1, 0, 0, 0) := by decide +kernel
theorem c_35_80 : pg_cd 35 80 = (43, 3, 46, 4, 0) := by decide +kernel
theorem c_35_83 : pg_cd 35 83 = (1, 2, 0, 0, 9) := by decide +kernel
theorem c_35_85 : pg_cd 35 85 = (37, 3, 0, 5, 11) := by decide +kernel
theorem c_35_88 : pg_cd 35 88 = (5, 1, 0, 0, 0) := by decide +kernel
theorem c_35_89 : pg_cd 35 89 = (1, 1, 0, 0, 1) := by decide +kernel
theorem c_35_90 : pg_cd 35 90 = (80, 43, 49, 0, 0) := by decide +kernel
theorem c_35_93 : pg_cd 35 93 = (38, 3, 0, 0, 44) := by decide +kernel
theorem c_35_96 : pg_cd 35 96 = (5, 1, 0, 3, 0) := by decide +kernel
theorem c_35_97 : pg_cd 35 97 = (45, 7, 53, 0, 0) := by decide +kernel
theorem c_35_100 : pg_cd 35 100 = (43, 4, 57, 2, 0) := by decide +kernel
theorem c_35_103 : pg_cd 35 103 = (1, 2, 0, 0, 24) := by decide +kernel
theorem c_35_105 : pg_cd 35 105 = (37, 3, 0, 2, 11) := by decide +kernel
theorem c_35_108 : pg_cd 35 108 = (5, 1, 0, 0, 0) := by decide +kernel
theorem c_35_109 : pg_cd 35 109 = (1, 1, 0, 0, 4) := by decide +kernel
theorem c_35_110 : pg_cd 35 110 = (80, 43, 49, 0, 0) := by decide +kernel
theorem c_35_113 : pg_cd 35 113 = (38, 3, 0, 0, 24) := by decide +kernel
theorem c_35_116 : pg_cd 35 116 = (5, 1, 0, 0, 0) := by decide +kernel
theorem c_35_117 : pg_cd 35 117 = (43, 3, 46, 4, 0) := by decide +kernel
theorem c_35_120 : pg_cd 35 120 = (1, 1, 0, 0, 5) := by decide +kernel
theorem c_35_121 : pg_cd 35 121 = (37, 3, 0, 4, 11) := by decide +kernel
theorem c_35_124 : pg_cd 35 124 = (5, 1, 0, 0, 0) := by decide +kernel
theorem c_35_125 : pg_cd 35 125 = (5, 1, 0, 3, 0) := by decide +kernel
theorem c_35_126 : pg_cd 35 126 = (80, 47, 62, 0, 0) := by decide +kernel
theorem c_35_129 : pg_cd 35 129 = (38, 3, 0, 0, 8) := by decide +kernel
theorem c_35_132 : pg_cd 35 132 = (5, 1, 0, 0, 0) := by decide +kernel
theorem c_35_133 : pg_cd 35 133 = (5, 1, 0, 3, 0) := by decide +kernel
theorem c_35_134 : pg_cd 35 134 = (80, 46, 66, 0, 0) := by decide +kernel
theorem c_35_137 : pg_cd 35 137 = (9, 3, 0, 4, 1) := by decide +kernel
theorem c_35_140 : pg_cd 35 140 = (38, 3, 0, 0, (-91)) := by decide +kernel
theorem c_35_143 : pg_cd 35 143 = (5, 1, 0, 0, 0) := by decide +kernel
theorem c_35_144 : pg_cd 35 144 = (43, 3, 21, 5, 0) := by decide +kernel
theorem c_35_147 : pg_cd 35 147 = (36, 3, 0, 1, 7) := by decide +kernel
theorem c_35_150 : pg_cd 35 150 = (1, 1, 0, 0, 1) := by decide +kernel
theorem c_35_151 : pg_cd 35 151 = (38, 3, 0, 0, 4) := by decide +kernel
theorem c_35_154 : pg_cd 35 154 = (1, 1, 0, 0, 0) := by decide +kernel
theorem c_35_155 : pg_cd 35 155 = (91, 0, 0, 0, 0) := by decide +kernel
theorem mi_35 : pg_mc 35 = 3 ∧ pg_na 35 = 3 ∧ pg_mx 35 = 5 := by decide +kernel
set_option maxRecDepth 20000 in
theorem u_35_0 {d : Nat} {S : zS} {σ τ : zI} {Q : zQ} {x2 : Int} {x3 : Nat} (hx3 : oT S x3) (t : ((uc σ 63 (u1 (u1 (σ 63) 5 0) 6 (-1))) (x3 + 1) 0 = 8) ∧ ∀ (σ12 : zI), (∀ c, c ≠ x3 → c ≠ x3 + 1 → σ12 c = (uc σ 63 (u1 (u1 (σ 63) 5 0) 6 (-1))) c) → σ12 x3 2 = 0 ∧ σ12 x3 3 = 0 → σ12 (x3 + 1) 0 = 8 ∧ σ12 (x3 + 1) 2 = 0 → (rg x2) ∧ (TB (σ12 82) (min x2 (min 300 300))) ∧ ∀ (σ18 : zI) (cnt9 : Int), (∀ c, c ≠ 64 → c ≠ 65 → c ≠ 66 → σ18 c = σ12 c) → CT (σ12 82) (min x2 (min 300 300)) σ18 cnt9 → wi (d + 29) 35 49 [.ref 63, .ref 82, .int (wI x2), .ref x3, .int (wI 0)] [] S (uc σ18 63 (u1 (u1 (σ18 63) 3 0) 4 (σ18 64 0))) τ Q) : wi (d + 29) 35 0 [.ref 63, .ref 82, .int (wI x2), .ref x3, .retAddr 0] [] S σ τ Q := by
  obtain ⟨p1, t⟩ := t
  refine i5 c_35_0 rfl (i1 c_35_1 (i46 (σ1 := uc σ 63 (u1 (σ 63) 5 0)) c_35_2 (lo (c := 63) (kd := 103) (n := 0) rfl (by decide)) (by decide) rfl (by decide) (wr_ rfl rfl) (i5 c_35_5 rfl (i1 c_35_6 (i46 (σ1 := uc σ 63 (u1 (u1 (σ 63) 5 0) 6 (-1))) c_35_7 (lo (c := 63) (kd := 103) (n := 0) rfl (by decide)) (by decide) rfl (by decide) (wr_ (uc_s _ _ _) (uc_uc _ _ _ _)) (i5 c_35_10 rfl ?_))))))
  refine i80 (As := []) (rest := []) c_35_11 mi_81 rfl rfl (Nat.le_of_ble_eq_true rfl) (Nat.le_of_ble_eq_true rfl) (fun _ => oT_0 hx3) (q_81 hx3 p1 (fun σ12 q3 q4 q5 => ?_))
  have t := t σ12 q3 q4 q5
  show wi (d + 29) 35 14 [.ref 63, .ref 82, .int (wI x2), .ref x3, .retAddr 0] [] S σ12 τ Q
  obtain ⟨r6, t⟩ := t
  obtain ⟨p7, t⟩ := t
  refine i5 c_35_14 rfl (i5 c_35_15 rfl (i3 c_35_16 rfl (i5 c_35_17 rfl (i58 (v := 300) c_35_18 (lo (c := 82) (kd := 0) (n := 300) rfl (by decide)) rfl (i1 c_35_19 (i74 c_35_22 (Nat.le_of_ble_eq_true rfl) (by omega) (by decide) (by decide) (i74 c_35_25 (Nat.le_of_ble_eq_true rfl) (by omega) r6 (min_i (by decide) (by decide)) ?_)))))))
  refine i80 (As := [.ref 82, .int (wI (min x2 (min 300 300)))]) (rest := []) c_35_28 mi_36 rfl rfl (Nat.le_of_ble_eq_true rfl) (Nat.le_of_ble_eq_true rfl) (lo (c := 63) (kd := 103) (n := 0) rfl (by decide)) (q_36 p7 (fun σ18 cnt9 q10 q11 => ?_))
  have t := t σ18 cnt9 q10 q11
  show wi (d + 29) 35 31 [.ref 63, .ref 82, .int (wI x2), .ref x3, .retAddr 0] [] S σ18 τ Q
  refine i5 c_35_31 rfl (i1 c_35_32 (i46 (σ1 := uc σ18 63 (u1 (σ18 63) 3 0)) c_35_33 (lo (c := 63) (kd := 103) (n := 0) rfl (by decide)) (by decide) rfl (by decide) (wr_ rfl rfl) (i5 c_35_36 rfl (i5 c_35_37 rfl (i45 c_35_38 (lo (c := 63) (kd := 103) (n := 0) rfl (by decide)) (lro (c := 63) (k := 0) (j := 64) (by decide)) (i1 c_35_41 (wi_ok (fun K12 => ?_))))))))
  refine i50 (v := σ18 64 0) c_35_42 (lo (c := 64) (kd := 0) (n := 301) rfl (by decide)) (by decide) (by decide) (congrFun (uc_ns rfl (by decide)) _) (i46 (σ1 := uc σ18 63 (u1 (u1 (σ18 63) 3 0) 4 (σ18 64 0))) c_35_43 (lo (c := 63) (kd := 103) (n := 0) rfl (by decide)) (by decide) rfl (rge_ K12 (congrFun (uc_ns rfl (by decide)) _)) (wr_ (uc_s _ _ _) (uc_uc _ _ _ _)) (i1 c_35_46 (i6 (L' := [.ref 63, .ref 82, .int (wI x2), .ref x3, .int (wI 0)]) c_35_47 rfl t)))
set_option maxRecDepth 20000 in
theorem u_35_49 {d : Nat} {S : zS} {σ τ : zI} {Q : zQ} {x2 : Int} {x3 : Nat} {x4 : Int} (hx3 : oT S x3) (t : (rg x4) ∧ if (24 : Int) < x4 then (if (σ 63 5) = 0 then (Q (some (.int (wI 1))) S σ τ) else (Q (some (.int (wI 0))) S σ τ)) else (if (σ 63 5) = 0 then (if (σ 63 4) = 1 then (Q (some (.int (wI 1))) S σ τ) else (if (σ 63 4) < 3 then (∃ T11 : Int → Int, ∃ n12 : Int, ∃ s13 : Int, (CR T11 n12 s13 σ ∨ CFS σ) ∧ (TB T11 n12) ∧ ∀ (σ116 : zI), CK σ σ116 → (CFS σ → σ116 = σ) → (CR T11 n12 s13 σ → CD 1 s13 σ116) → wi (d + 29) 35 49 [.ref 63, .ref 82, .int (wI x2), .ref x3, .int (wI (x4 + 1))] [] S σ116 τ Q) else (if (σ 63 4) ≤ 9 then (if (σ (x3 + 1) 2) < 24 then (if (5 : Int) < (σ 63 4) then (∃ T23 : Int → Int, ∃ n24 : Int, ∃ s25 : Int, ∃ m26 : Int, ∃ q27 : Int, (CR T23 n24 s25 σ) ∧ (TB T23 n24) ∧ (6 ≤ tk T23 n24 s25 ∧ tk T23 n24 s25 ≤ 9) ∧ (σ (x3 + 1) 0 = 8) ∧ (σ (x3 + 1) 2 = m26 ∧ 0 ≤ m26 ∧ m26 < 24) ∧ (0 ≤ σ x3 2 ∧ σ x3 2 ≤ 300) ∧ ∀ (σ134 : zI), CLS x3 T23 n24 m26 q27 s25 σ σ134 → wi (d + 29) 35 49 [.ref 63, .ref 82, .int (wI x2), .ref x3, .int (wI (x4 + 1))] [] S σ134 τ Q) else (∃ T36 : Int → Int, ∃ n37 : Int, ∃ s38 : Int, ∃ m39 : Int, ∃ q40 : Int, (CR T36 n37 s38 σ) ∧ (TB T36 n37) ∧ (3 ≤ tk T36 n37 s38 ∧ tk T36 n37 s38 ≤ 5) ∧ (σ (x3 + 1) 0 = 8) ∧ (σ (x3 + 1) 2 = m39 ∧ 0 ≤ m39 ∧ m39 < 24) ∧ (0 ≤ σ x3 2 ∧ σ x3 2 ≤ s38) ∧ ∀ (σ147 : zI), CLS x3 T36 n37 m39 q40 s38 σ σ147 → wi (d + 29) 35 49 [.ref 63, .ref 82, .int (wI x2), .ref x3, .int (wI (x4 + 1))] [] S σ147 τ Q)) else (∃ T49 : Int → Int, ∃ n50 : Int, ∃ s51 : Int, (CR T49 n50 s51 σ ∨ CFS σ) ∧ (TB T49 n50) ∧ ∀ (σ154 : zI), CK σ σ154 → (CFS σ → σ154 = σ) → (CR T49 n50 s51 σ → CD 4 s51 σ154) → wi (d + 29) 35 49 [.ref 63, .ref 82, .int (wI x2), .ref x3, .int (wI (x4 + 1))] [] S σ154 τ Q)) else (∃ T58 : Int → Int, ∃ n59 : Int, ∃ s60 : Int, (CR T58 n59 s60 σ ∨ CFS σ) ∧ (TB T58 n59) ∧ ∀ (σ163 : zI), CK σ σ163 → (CFS σ → σ163 = σ) → (CR T58 n59 s60 σ → CD 1 s60 σ163) → wi (d + 29) 35 49 [.ref 63, .ref 82, .int (wI x2), .ref x3, .int (wI (x4 + 1))] [] S σ163 τ Q)))) else (Q (some (.int (wI 0))) S σ τ))) : wi (d + 29) 35 49 [.ref 63, .ref 82, .int (wI x2), .ref x3, .int (wI x4)] [] S σ τ Q := by
  obtain ⟨r1, t⟩ := t
  refine i3 c_35_49 rfl (i1 c_35_51 ?_)
  refine i37 c_35_53 r1 (by decide) rfl (fun hc => ?_) (fun hc => ?_)
  · have t := iT t hc
    have ha2 : (24 : Int) < x4 := hc
    refine i5 c_35_143 rfl (wi_ok (fun K3 => ?_))
    refine i43 (v := σ 63 5) c_35_144 (lo (c := 63) (kd := 103) (n := 0) rfl (by decide)) rfl ?_
    refine i36 c_35_147 (rge_ K3 rfl) rfl (fun hc => ?_) (fun hc => ?_)
    · have t := iF t hc
      have ha4 : ¬ ((σ 63 5) = 0) := hc
      refine i1 c_35_154 ?_
      exact i91 c_35_155 (by decide) t
    · have t := iT t (Decidable.not_not.mp hc)
      have ha4 : (σ 63 5) = 0 := Decidable.not_not.mp hc
      refine i1 c_35_150 (i38 c_35_151 rfl ?_)
      exact i91 c_35_155 (by decide) t
  · have t := iF t hc
    have ha2 : ¬ ((24 : Int) < x4) := hc
    refine i5 c_35_56 rfl (wi_ok (fun K5 => ?_))
    refine i43 (v := σ 63 5) c_35_57 (lo (c := 63) (kd := 103) (n := 0) rfl (by decide)) rfl ?_
    refine i36 c_35_60 (rge_ K5 rfl) rfl (fun hc => ?_) (fun hc => ?_)
    · have t := iF t hc
      have ha6 : ¬ ((σ 63 5) = 0) := hc
      refine i5 c_35_143 rfl (i43 (v := σ 63 5) c_35_144 (lo (c := 63) (kd := 103) (n := 0) rfl (by decide)) rfl ?_)
      refine i36 c_35_147 (rge_ K5 rfl) rfl (fun _ => ?_) (fun hc => absurd (show ¬ ((σ 63 5) = 0) by omega) hc)
      refine i1 c_35_154 ?_
      exact i91 c_35_155 (by decide) t
    · have t := iT t (Decidable.not_not.mp hc)
      have ha6 : (σ 63 5) = 0 := Decidable.not_not.mp hc
      refine i5 c_35_63 rfl (i43 (v := σ 63 4) c_35_64 (lo (c := 63) (kd := 103) (n := 0) rfl (by decide)) rfl (i1 c_35_67 ?_))
      refine i37 c_35_68 (rge_ K5 rfl) (by decide) rfl (fun hc => ?_) (fun hc => ?_)
      · have t := iT t hc
        have ha8 : (σ 63 4) = 1 := hc
        refine i5 c_35_143 rfl (i43 (v := σ 63 5) c_35_144 (lo (c := 63) (kd := 103) (n := 0) rfl (by decide)) rfl ?_)
        refine i36 c_35_147 (rge_ K5 rfl) rfl (fun hc => absurd (show (σ 63 5) = 0 by omega) hc) (fun _ => ?_)
        refine i1 c_35_150 (i38 c_35_151 rfl ?_)
        exact i91 c_35_155 (by decide) t
      · have t := iF t hc
        have ha8 : ¬ ((σ 63 4) = 1) := hc
        refine i5 c_35_71 rfl (i43 (v := σ 63 4) c_35_72 (lo (c := 63) (kd := 103) (n := 0) rfl (by decide)) rfl (i1 c_35_75 ?_))
        refine i37 c_35_76 (rge_ K5 rfl) (by decide) rfl (fun hc => ?_) (fun hc => ?_)
        · have t := iT t hc
          have ha10 : (σ 63 4) < 3 := hc
          obtain ⟨T11, t⟩ := t
          obtain ⟨n12, t⟩ := t
          obtain ⟨s13, t⟩ := t
          obtain ⟨p14, t⟩ := t
          obtain ⟨p15, t⟩ := t
          refine i5 c_35_88 rfl (i1 c_35_89 ?_)
          refine i80 (As := [.int (wI 1)]) (rest := []) c_35_90 mi_43 rfl rfl (Nat.le_of_ble_eq_true rfl) (Nat.le_of_ble_eq_true rfl) (lo (c := 63) (kd := 103) (n := 0) rfl (by decide)) (q_43 (T := T11) (n := n12) (s := s13) p14 (by decide) p15 (fun σ116 q17 q18 q19 => ?_))
          have t := t σ116 q17 q18 q19
          show wi (d + 29) 35 93 [.ref 63, .ref 82, .int (wI x2), .ref x3, .int (wI x4)] [] S σ116 τ Q
          refine i38 c_35_93 rfl (i9 (L' := [.ref 63, .ref 82, .int (wI x2), .ref x3, .int (wI (x4 + 1))]) c_35_137 rfl rfl (i38 c_35_140 rfl t))
        · have t := iF t hc
          have ha10 : ¬ ((σ 63 4) < 3) := hc
          refine i5 c_35_79 rfl (i43 (v := σ 63 4) c_35_80 (lo (c := 63) (kd := 103) (n := 0) rfl (by decide)) rfl (i1 c_35_83 ?_))
          refine i37 c_35_85 (rge_ K5 rfl) (by decide) rfl (fun hc => ?_) (fun hc => ?_)
          · have t := iT t hc
            have ha20 : (σ 63 4) ≤ 9 := hc
            refine i5 c_35_96 rfl (i45 c_35_97 (fun _ => oT_0 hx3) (fun _ => oT_r0 hx3) (i43 (v := σ (x3 + 1) 2) c_35_100 (fun _ => oT_1 hx3) rfl (i1 c_35_103 ?_)))
            refine i37 c_35_105 (rge_ K5 rfl) (by decide) rfl (fun hc => ?_) (fun hc => ?_)
            · have t := iT t hc
              have ha21 : (σ (x3 + 1) 2) < 24 := hc
              refine i5 c_35_116 rfl (i43 (v := σ 63 4) c_35_117 (lo (c := 63) (kd := 103) (n := 0) rfl (by decide)) rfl (i1 c_35_120 ?_))
              refine i37 c_35_121 (rge_ K5 rfl) (by decide) rfl (fun hc => ?_) (fun hc => ?_)
              · have t := iT t hc
                have ha22 : (5 : Int) < (σ 63 4) := hc
                obtain ⟨T23, t⟩ := t
                obtain ⟨n24, t⟩ := t
                obtain ⟨s25, t⟩ := t
                obtain ⟨m26, t⟩ := t
                obtain ⟨q27, t⟩ := t
                obtain ⟨p28, t⟩ := t
                obtain ⟨p29, t⟩ := t
                obtain ⟨p30, t⟩ := t
                obtain ⟨p31, t⟩ := t
                obtain ⟨p32, t⟩ := t
                obtain ⟨p33, t⟩ := t
                refine i5 c_35_132 rfl (i5 c_35_133 rfl ?_)
                refine i80 (As := [.ref x3]) (rest := []) c_35_134 mi_46 rfl rfl (Nat.le_of_ble_eq_true rfl) (Nat.le_of_ble_eq_true rfl) (lo (c := 63) (kd := 103) (n := 0) rfl (by decide)) (q_46 (T := T23) (n := n24) (s := s25) (m := m26) (q := q27) hx3 p28 p29 p30 p31 p32 p33 (fun σ134 q35 => ?_))
                have t := t σ134 q35
                show wi (d + 29) 35 137 [.ref 63, .ref 82, .int (wI x2), .ref x3, .int (wI x4)] [] S σ134 τ Q
                refine i9 (L' := [.ref 63, .ref 82, .int (wI x2), .ref x3, .int (wI (x4 + 1))]) c_35_137 rfl rfl (i38 c_35_140 rfl t)
              · have t := iF t hc
                have ha22 : ¬ ((5 : Int) < (σ 63 4)) := hc
                obtain ⟨T36, t⟩ := t
                obtain ⟨n37, t⟩ := t
                obtain ⟨s38, t⟩ := t
                obtain ⟨m39, t⟩ := t
                obtain ⟨q40, t⟩ := t
                obtain ⟨p41, t⟩ := t
                obtain ⟨p42, t⟩ := t
                obtain ⟨p43, t⟩ := t
                obtain ⟨p44, t⟩ := t
                obtain ⟨p45, t⟩ := t
                obtain ⟨p46, t⟩ := t
                refine i5 c_35_124 rfl (i5 c_35_125 rfl ?_)
                refine i80 (As := [.ref x3]) (rest := []) c_35_126 mi_47 rfl rfl (Nat.le_of_ble_eq_true rfl) (Nat.le_of_ble_eq_true rfl) (lo (c := 63) (kd := 103) (n := 0) rfl (by decide)) (q_47 (T := T36) (n := n37) (s := s38) (m := m39) (q := q40) hx3 p41 p42 p43 p44 p45 p46 (fun σ147 q48 => ?_))
                have t := t σ147 q48
                show wi (d + 29) 35 129 [.ref 63, .ref 82, .int (wI x2), .ref x3, .int (wI x4)] [] S σ147 τ Q
                refine i38 c_35_129 rfl (i9 (L' := [.ref 63, .ref 82, .int (wI x2), .ref x3, .int (wI (x4 + 1))]) c_35_137 rfl rfl (i38 c_35_140 rfl t))
            · have t := iF t hc
              have ha21 : ¬ ((σ (x3 + 1) 2) < 24) := hc
              obtain ⟨T49, t⟩ := t
              obtain ⟨n50, t⟩ := t
              obtain ⟨s51, t⟩ := t
              obtain ⟨p52, t⟩ := t
              obtain ⟨p53, t⟩ := t
              refine i5 c_35_108 rfl (i1 c_35_109 ?_)
              refine i80 (As := [.int (wI 4)]) (rest := []) c_35_110 mi_43 rfl rfl (Nat.le_of_ble_eq_true rfl) (Nat.le_of_ble_eq_true rfl) (lo (c := 63) (kd := 103) (n := 0) rfl (by decide)) (q_43 (T := T49) (n := n50) (s := s51) p52 (by decide) p53 (fun σ154 q55 q56 q57 => ?_))
              have t := t σ154 q55 q56 q57
              show wi (d + 29) 35 113 [.ref 63, .ref 82, .int (wI x2), .ref x3, .int (wI x4)] [] S σ154 τ Q
              refine i38 c_35_113 rfl (i9 (L' := [.ref 63, .ref 82, .int (wI x2), .ref x3, .int (wI (x4 + 1))]) c_35_137 rfl rfl (i38 c_35_140 rfl t))
          · have t := iF t hc
            have ha20 : ¬ ((σ 63 4) ≤ 9) := hc
            obtain ⟨T58, t⟩ := t
            obtain ⟨n59, t⟩ := t
            obtain ⟨s60, t⟩ := t
            obtain ⟨p61, t⟩ := t
            obtain ⟨p62, t⟩ := t
            refine i5 c_35_88 rfl (i1 c_35_89 ?_)
            refine i80 (As := [.int (wI 1)]) (rest := []) c_35_90 mi_43 rfl rfl (Nat.le_of_ble_eq_true rfl) (Nat.le_of_ble_eq_true rfl) (lo (c := 63) (kd := 103) (n := 0) rfl (by decide)) (q_43 (T := T58) (n := n59) (s := s60) p61 (by decide) p62 (fun σ163 q64 q65 q66 => ?_))
            have t := t σ163 q64 q65 q66
            show wi (d + 29) 35 93 [.ref 63, .ref 82, .int (wI x2), .ref x3, .int (wI x4)] [] S σ163 τ Q
            refine i38 c_35_93 rfl (i9 (L' := [.ref 63, .ref 82, .int (wI x2), .ref x3, .int (wI (x4 + 1))]) c_35_137 rfl rfl (i38 c_35_140 rfl t))
theorem q_35 {d : Nat} {S : zS} {σ τ : zI} {Q : zQ} {len : Int} {x : Nat} {b : Int} (hx : oT S x) (p0 : TB (σ 82) len) (p1 : σ (x + 1) 0 = 8) (t : ∀ (σ1 : zI), RDQ x b len σ σ1 → Q (some (.int (wI (if (rdO (σ 82) len b 302 0 (sk (σ 82) len 0) [] []).1 = 0 then 1 else 0)))) S σ1 τ) : wc (d + 29) 35 [.ref 63, .ref 82, .int (wI len), .ref x] S σ τ Q := by
  have xb := oT_b hx
  obtain ⟨T, hT⟩ : ∃ T, T = σ 82 := ⟨_, rfl⟩
  have pT : TB T len := by rw [hT]; exact p0
  have n3 := pT.1
  obtain ⟨R, hR⟩ : ∃ R, R = rdO T len b 302 0 (sk T len 0) [] [] := ⟨_, rfl⟩
  have fin : ∀ σ1 : zI, (∀ c, c ≠ x → c ≠ x + 1 → c ≠ x + 2 → c ≠ x + 3 → c ≠ 63 → c ≠ 64 → c ≠ 65 → c ≠ 66 → σ1 c = σ c) ∧ (∀ k, k < 3 ∨ 6 < k → σ1 63 k = σ 63 k) → (R.1 = 0 → σ1 63 5 = 0 ∧ σ1 63 6 = -1 ∧ TI x b R.2.2.1 R.2.2.2.1 R.2.2.2.2 σ1) → (R.1 ≠ 0 → σ1 63 5 = R.1 ∧ σ1 63 6 = R.2.1) → σ1 (x + 1) 0 = 8 → Q (some (.int (wI (if R.1 = 0 then 1 else 0)))) S σ1 τ := by
    intro σ1 fr ok er h8
    have h := t σ1
    unfold RDQ at h
    rw [← hT, ← hR] at h
    exact h ⟨fr.1, fr.2, ok, er, h8⟩
  have bad : ∀ (σ1 : zI) (x4 r e : Int), (∀ c, c ≠ x → c ≠ x + 1 → c ≠ x + 2 → c ≠ x + 3 → c ≠ 63 → c ≠ 64 → c ≠ 65 → c ≠ 66 → σ1 c = σ c) ∧ (∀ k, k < 3 ∨ 6 < k → σ1 63 k = σ 63 k) → R.1 = r → R.2.1 = e → r ≠ 0 → CD r e σ1 → σ1 (x + 1) 0 = 8 → 0 ≤ x4 → x4 ≤ 25 → wi (d + 29) 35 49 [.ref 63, .ref 82, .int (wI len), .ref x, .int (wI x4)] [] S σ1 τ Q := by
    intro σ1 x4 r e fr h1 h2 hr cd h8 h4 h5
    have c5 : σ1 63 5 ≠ 0 := by rw [cd.1]; exact hr
    have q := fin σ1 fr (fun z => absurd (h1.symm.trans z) hr) (fun _ => ⟨by rw [h1]; exact cd.1, by rw [h2]; exact cd.2.1⟩) h8
    rw [if_neg (by rw [h1]; exact hr)] at q
    exact u_35_49 hx ⟨by omega, ifI (fun _ => ifI (fun z => absurd z c5) (fun _ => q)) (fun _ => ifI (fun z => absurd z c5) (fun _ => q))⟩
  have lp : ∀ (k : Nat) (m s : Int) (L W : List (Int × Int)) (σ' : zI), len - s < k → R = rdO T len b k m s L W → 0 ≤ m ∧ m ≤ 24 → CR T len s σ' → (∀ c, c ≠ x → c ≠ x + 1 → c ≠ x + 2 → c ≠ x + 3 → c ≠ 63 → c ≠ 64 → c ≠ 65 → c ≠ 66 → σ' c = σ c) ∧ (∀ k, k < 3 ∨ 6 < k → σ' 63 k = σ 63 k) → TI x b m L W σ' → (L.length : Int) ≤ s → wi (d + 29) 35 49 [.ref 63, .ref 82, .int (wI len), .ref x, .int (wI m)] [] S σ' τ Q := by
    intro k
    induction k with
    | zero =>
      intro m s L W σ' hk _ _ cr
      have := CR_s cr n3.1
      omega
    | succ k ih =>
      intro m s L W σ' hk hr hm cr fr ti hL
      have s01 := CR_s cr n3.1
      have cb := CR_b cr
      have c4 := cb.2.2.1
      have c5 := cb.2.2.2.1
      have t8 := ti.1
      have t2 := ti.2.1
      have t3 := ti.2.2.1
      refine u_35_49 hx ⟨by omega, ifI (fun z => by omega) (fun _ => ?_)⟩
      rw [if_pos c5]
      by_cases k1 : tk T len s = 1
      · rw [if_pos (by omega)]
        have e : R = (0, s, m, L, W) := by rw [hr]; exact if_pos k1
        have q := fin σ' fr (fun _ => ⟨c5, CR_6 cr, by rw [e]; exact ti⟩) (fun z => absurd (by rw [e]) z) t8
        rw [if_pos (by rw [e])] at q
        exact q
      rw [if_neg (by omega)]
      have hr1 : R = if (clsO T len m (b + 1 + 8 * m) L.length s).1 ≠ 0 then ((clsO T len m (b + 1 + 8 * m) L.length s).1, (clsO T len m (b + 1 + 8 * m) L.length s).2.1, m, [], []) else rdO T len b k (m + 1) (clsO T len m (b + 1 + 8 * m) L.length s).2.1 (L ++ (clsO T len m (b + 1 + 8 * m) L.length s).2.2.1) (W ++ (clsO T len m (b + 1 + 8 * m) L.length s).2.2.2) := by
        rw [hr]
        conv => lhs; unfold rdO
        exact if_neg k1
      have fail_ : ∀ (σ1 : zI) (r : Int), clsO T len m (b + 1 + 8 * m) L.length s = (r, s, [], []) → r ≠ 0 → CK σ' σ1 → CD r s σ1 → wi (d + 29) 35 49 [.ref 63, .ref 82, .int (wI len), .ref x, .int (wI (m + 1))] [] S σ1 τ Q := by
        intro σ1 r e hr0 ck cd
        rw [e, if_pos (show (r, s, ([] : List (Int × Int)), ([] : List (Int × Int))).1 ≠ 0 from hr0)] at hr1
        exact bad σ1 (m + 1) r s ⟨fun c h1 h2 h3 h4 h5 h6 h7 h8 => by rw [ck.1 c h5]; exact fr.1 c h1 h2 h3 h4 h5 h6 h7 h8, fun k hk => by rw [ck.2 k hk]; exact fr.2 k hk⟩ (by rw [hr1]) (by rw [hr1]) hr0 cd (by rw [ck.1 _ (by omega)]; exact t8) (by omega) (by omega)
      have sb := srtO_b (tk T len s)
      have f1 : tk T len s < 3 ∨ 9 < tk T len s → clsO T len m (b + 1 + 8 * m) L.length s = (1, s, [], []) := fun h => by
        unfold clsO
        exact if_pos (Classical.byContradiction fun z => by have := sb.2.2.2.2.2.2.2.2 z; omega)
      have go : ∀ σ1, CLS x T len m (b + 1 + 8 * m) s σ' σ1 → wi (d + 29) 35 49 [.ref 63, .ref 82, .int (wI len), .ref x, .int (wI (m + 1))] [] S σ1 τ Q := by
        intro σ1 cl
        have cl' := cl
        obtain ⟨⟨a1, a2, a3, a4, a5, a6, a7⟩, ok, er⟩ := cl'
        rw [t3] at ok er
        have fr1 : (∀ c, c ≠ x → c ≠ x + 1 → c ≠ x + 2 → c ≠ x + 3 → c ≠ 63 → c ≠ 64 → c ≠ 65 → c ≠ 66 → σ1 c = σ c) ∧ (∀ k, k < 3 ∨ 6 < k → σ1 63 k = σ 63 k) := ⟨fun c h1 h2 h3 h4 h5 h6 h7 h8 => by rw [a1 c h1 h2 h3 h4 h5]; exact fr.1 c h1 h2 h3 h4 h5 h6 h7 h8, fun k hk => by rw [a4 k hk]; exact fr.2 k hk⟩
        by_cases e : (clsO T len m (b + 1 + 8 * m) L.length s).1 = 0
        · have ck := clsO_k (T := T) n3.2 (m := m) (q := b + 1 + 8 * m) (c := L.length) (s := s) s01.1 e
          rw [if_neg (fun z => z e)] at hr1
          have c24 := clsO_24 e
          refine ih (m + 1) _ _ _ σ1 (by omega) hr1 (by omega) (ok e).1 fr1 (TI_s pT s01.1 s01.2 ti hm.1 cl e) ?_
          rw [len_a]
          omega
        · rw [if_pos e] at hr1
          exact bad σ1 (m + 1) _ _ fr1 (by rw [hr1]) (by rw [hr1]) e (er e) (by rw [a6, u1_n (by decide)]; exact t8) (by omega) (by omega)
      have b300 : 0 ≤ σ' x 2 ∧ σ' x 2 ≤ 300 := by omega
      refine ifI (fun l3 => ⟨T, len, s, Or.inl cr, pT, fun σ1 ck _ cd => fail_ σ1 1 (f1 (by omega)) (by decide) ck (cd cr)⟩) (fun l3 => ifI (fun l9 => ifI (fun c24 => ifI (fun l5 => ⟨T, len, s, m, b + 1 + 8 * m, cr, pT, by omega, t8, by omega, b300, go⟩) (fun l5 => ⟨T, len, s, m, b + 1 + 8 * m, cr, pT, by omega, t8, by omega, by omega, go⟩)) (fun c24 => ⟨T, len, s, Or.inl cr, pT, fun σ1 ck _ cd => fail_ σ1 4 ?_ (by decide) ck (cd cr)⟩)) (fun l9 => ⟨T, len, s, Or.inl cr, pT, fun σ1 ck _ cd => fail_ σ1 1 (f1 (by omega)) (by decide) ck (cd cr)⟩))
      have e24 : m = 24 := by omega
      unfold clsO
      rw [if_neg (srt_t (by omega)).1, if_pos e24]
  refine wc_of mi_35 rfl (u_35_0 hx ⟨by rw [uc_n (by omega)]; exact p1, fun σ1 f1 z1 z2 => ⟨by omega, ?_⟩⟩)
  have e82 : σ1 82 = T := by rw [f1 82 (by omega) (by omega), uc_n (by decide), hT]
  have em : min len (min 300 300) = len := by omega
  rw [e82, em]
  refine ⟨pT, fun σ2 cnt f2 ct => ?_⟩
  have ctb := ct.2.1 0 (by omega) ct.1.1
  have sk0 : 0 ≤ sk T len 0 := (sk_b (T := T) (n := len) (p := 0) n3.1).1
  have f63 : ∀ k, k < 3 ∨ 6 < k → uc σ2 63 (u1 (u1 (σ2 63) 3 0) 4 (σ2 64 0)) 63 k = σ 63 k := fun k hk => by rw [uc_s, u1_n (by omega), u1_n (by omega), f2 63 (by decide) (by decide) (by decide), f1 63 (by omega) (by omega), uc_s, u1_n (by omega), u1_n (by omega)]
  have f56 : uc σ2 63 (u1 (u1 (σ2 63) 3 0) 4 (σ2 64 0)) 63 5 = 0 ∧ uc σ2 63 (u1 (u1 (σ2 63) 3 0) 4 (σ2 64 0)) 63 6 = -1 := by
    constructor
    · rw [uc_s, u1_n (by omega), u1_n (by omega), f2 63 (by decide) (by decide) (by decide), f1 63 (by omega) (by omega), uc_s, u1_n (by omega), u1_s]
    · rw [uc_s, u1_n (by omega), u1_n (by omega), f2 63 (by decide) (by decide) (by decide), f1 63 (by omega) (by omega), uc_s, u1_s]
  have cr : CR T len (sk T len 0) (uc σ2 63 (u1 (u1 (σ2 63) 3 0) 4 (σ2 64 0))) := by
    refine ⟨cnt, 0, CT_f ct (uc_n (by decide)) (uc_n (by decide)) (uc_n (by decide)), ⟨by omega, ct.1.1⟩, sT_0.symm, ?_, ?_, f56⟩
    · rw [uc_s, u1_n (by omega), u1_s]
    · rw [uc_s, u1_s, ctb.1, sT_0]
  refine lp 302 0 (sk T len 0) [] [] _ (by omega) hR (by omega) cr ⟨fun c h1 h2 h3 h4 h5 h6 h7 h8 => ?_, f63⟩ ⟨?_, ?_, ?_, trivial, fun w hw => (List.not_mem_nil hw).elim, fun c c0 c1 => by omega, fun k k0 k1 => ?_⟩ ?_
  · rw [uc_n h5, f2 c h6 h7 h8, f1 c h1 h2, uc_n h5]
  · rw [uc_n (by omega), f2 _ (by omega) (by omega) (by omega)]; exact z2.1
  · rw [uc_n (by omega), f2 _ (by omega) (by omega) (by omega)]; exact z2.2
  · rw [uc_n (by omega), f2 _ (by omega) (by omega) (by omega)]; exact z1.1
  · rw [uc_n (by omega), f2 _ (by omega) (by omega) (by omega), z1.2, bit_0 (by omega), zbt_0]
    exact ⟨fun _ c c0 c1 => by omega, fun _ => rfl⟩
  · rw [List.length_nil]; exact sk0
