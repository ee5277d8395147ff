/-! ===== a WEEK of the class: HOMES and RENTS (segments printed by wip/whole, contracts own work) ===== -/
theorem oB_dj {S : zS} {y y' : Nat} (h : oB S y) (h' : oB S y') (ne : y ≠ y') : y + 8 ≤ y' ∨ y' + 8 ≤ y := by
  have key : ∀ y y' : Nat, oB S y → oB S y' → y < y' → y + 8 ≤ y' := fun y y' h h' l => by
    by_cases c : y + 8 ≤ y'
    · exact c
    · have e := (oB_0 h').2.2
      have k : y' = y + 1 ∨ y' = y + 2 ∨ y' = y + 3 ∨ y' = y + 4 ∨ y' = y + 5 ∨ y' = y + 6 ∨ y' = y + 7 := by omega
      rcases k with k | k | k | k | k | k | k
      · rw [k, (oB_1 h).2.2] at e; cases e
      · rw [k, (oB_2 h).2.2] at e; cases e
      · rw [k, (oB_3 h).2.2] at e; cases e
      · rw [k, (oB_4 h).2.2] at e; cases e
      · rw [k, (oB_5 h).2.2] at e; cases e
      · rw [k, (oB_6 h).2.2] at e; cases e
      · rw [k, (oB_7 h).2.2] at e; cases e
  by_cases l : y < y'
  · exact Or.inl (key y y' h h' l)
  · exact Or.inr (key y' y h' h (by omega))
theorem hg_cells {b : Int → Int} {L h : Int} (H : HP b L h) : r_hg b L h (22300 + 24 * b 0 + h) = hg_e b h (b 4) ∧ r_hg b L h (31900 + 24 * b 0 + h) = r_need b h - hg_N b L h ∧ r_hg b L h (51100 + 24 * b 0 + h) = hg_n b L h ∧ r_hg b L h (41500 + 24 * b 0 + h) = hg_N b L h := by
  have G := hgp_of H
  have e : ∀ f : Int, f + 24 * b 0 + h = f + (24 * b 0 + h) := fun f => by omega
  rw [e, e, e, e]
  exact ⟨hG_re G, hG_rhu G, hG_rn G, hG_rN G⟩
abbrev wkF (f : Int) : Prop := f = 22300 ∨ f = 31900 ∨ f = 41500 ∨ f = 51100
theorem hg_oth {b : Int → Int} {L h x f : Int} (H : HP b L h) (hx : 0 ≤ x ∧ x < 24 ∧ x ≠ h) (hf : wkF f) : r_hg b L h (f + 24 * b 0 + x) = b (f + 24 * b 0 + x) := by
  have h0 := H.1
  have s0 := H.2.2.1.1
  exact r_hg_k H (by omega)
theorem hgs_e {b : Int → Int} {L n : Int} (H : HI b L 0) (n0 : 0 ≤ n) (n1 : n ≤ b 3) (h : Int) : hg_e (r_hgs b L n) h (b 4) = hg_e b h (b 4) := by
  have h4 := H.1
  unfold hg_e
  refine sI_c (fun p p0 p1 => ?_)
  rw [hgs_k H n n0 n1 (3652 + 12 * p + 0) (by omega), hgs_k H n n0 n1 (3652 + 12 * p + 8) (by omega)]
/-- a book while HOMES go by -/
def KB (b B : Int → Int) (n : Int) : Prop := (∀ h f, 0 ≤ h → n ≤ h → h < 24 → wkF f → B (f + 24 * b 0 + h) = 0) ∧ (∀ h, 0 ≤ h → h < n → B (22300 + 24 * b 0 + h) = hg_e b h (b 4)) ∧ B 15 = b 15 + sI (fun h => B (41500 + 24 * b 0 + h)) 24
theorem KB_s {b : Int → Int} {L n : Int} (H : HI b L 0) (hn : 0 ≤ n ∧ n < b 3) (zg : b (3460 + 8 * n + 3) ≠ 0 → hg_e b n (b 4) = 0) (K : KB b (r_hgs b L n) n) : KB b (r_hgs b L (n + 1)) (n + 1) ∧ (∀ h f, 0 ≤ h → h < 24 → h ≠ n → wkF f → r_hgs b L (n + 1) (f + 24 * b 0 + h) = r_hgs b L n (f + 24 * b 0 + h)) ∧ sI (fun h => r_hgs b L (n + 1) (41500 + 24 * b 0 + h)) 24 = sI (fun h => r_hgs b L n (41500 + 24 * b 0 + h)) 24 + r_hgs b L (n + 1) (41500 + 24 * b 0 + n) := by
  obtain ⟨I1, i0, i1, i2, i3, i4⟩ := HI_I H n hn.1 (by omega)
  have g3 : r_hgs b L n (3460 + 8 * n + 3) = b (3460 + 8 * n + 3) := hgs_k H n hn.1 (by omega) _ (by have := H.1; omega)
  have b0 := H.1
  have ee := hgs_e H hn.1 (by omega) n
  obtain ⟨k1, k2, k3⟩ := K
  rw [r_hgs_s hn.1, g3]
  by_cases c : b (3460 + 8 * n + 3) = 0
  · rw [if_pos c]
    have hp := HI_HP I1 ⟨hn.1, by omega⟩
    have G := hgp_of hp
    have cl := hg_cells hp
    have lv : r_hg (r_hgs b L n) L n 15 = r_hgs b L n 15 + hg_N (r_hgs b L n) L n := hG_rlv G
    have ot : ∀ h f, 0 ≤ h → h < 24 → h ≠ n → wkF f → r_hg (r_hgs b L n) L n (f + 24 * b 0 + h) = r_hgs b L n (f + 24 * b 0 + h) := fun h f h0 h1 h2 hf => by
      have := hg_oth hp (x := h) (f := f) ⟨h0, h1, h2⟩ hf
      rw [i0] at this; exact this
    rw [i0, i4, ee] at cl
    have sm : sI (fun h => r_hg (r_hgs b L n) L n (41500 + 24 * b 0 + h)) 24 = sI (fun h => r_hgs b L n (41500 + 24 * b 0 + h)) 24 + r_hg (r_hgs b L n) L n (41500 + 24 * b 0 + n) := by
      rw [sI_but (f := fun h => r_hg (r_hgs b L n) L n (41500 + 24 * b 0 + h)) (b := n) (by omega), sI_but (f := fun h => r_hgs b L n (41500 + 24 * b 0 + h)) (b := n) (by omega), k1 n 41500 hn.1 (by omega) (by omega) (by omega), Int.add_zero]
      congr 1
      refine sI_c (fun p p0 p1 => ?_)
      try dsimp only
      split
      · rfl
      · next q => exact ot p 41500 p0 p1 q (by omega)
    refine ⟨⟨fun h f h0 h1 h2 hf => ?_, fun h h0 h1 => ?_, ?_⟩, ot, sm⟩
    · rw [ot h f h0 h2 (by omega) hf]; exact k1 h f h0 (by omega) h2 hf
    · by_cases q : h = n
      · subst q; exact cl.1
      · rw [ot h 22300 h0 (by omega) q (by omega)]; exact k2 h h0 (by omega)
    · rw [sm, lv, k3, cl.2.2.2]; omega
  · rw [if_neg c]
    have z := k1 n 22300 hn.1 (by omega) (by omega) (by omega)
    refine ⟨⟨fun h f h0 h1 h2 hf => k1 h f h0 (by omega) h2 hf, fun h h0 h1 => ?_, k3⟩, fun _ _ _ _ _ _ => rfl, ?_⟩
    · by_cases q : h = n
      · subst q; rw [z, zg c]
      · exact k2 h h0 (by omega)
    · rw [k1 n 41500 hn.1 (by omega) (by omega) (by omega), Int.add_zero]
theorem CH_f {σ σ' : zI} {t : Nat} {b : Int → Int} (C : CH σ t b) (f8 : σ' t 8 = σ t 8) (f : ∀ c, c = t + 7 ∨ c = t + 8 ∨ c = t + 9 → σ' c = σ c) (r : ∀ h c, 0 ≤ h → h < b 3 → c = 0 ∨ c = 1 ∨ c = 2 ∨ c = 3 ∨ c = 7 → σ' (t + 10) (h * 8 + c) = σ (t + 10) (h * 8 + c)) : CH σ' t b := by
  obtain ⟨c0, c1, c3, c4⟩ := C
  unfold CH rT_Q at *
  rw [f8, f _ (by omega), f _ (by omega), f _ (by omega)]
  refine ⟨c0, c1, c3, fun h h0 h1 => ?_⟩
  rw [r h 0 h0 h1 (by omega), r h 1 h0 h1 (by omega), r h 2 h0 h1 (by omega), r h 3 h0 h1 (by omega), r h 7 h0 h1 (by omega)]
  exact c4 h h0 h1
abbrev K5 (σ : zI) (y : Nat) (b B : Int → Int) : Prop := ∀ h, 0 ≤ h → h < 24 → σ (y + 5) h = B (31900 + 24 * b 0 + h) ∧ σ (y + 6) h = B (51100 + 24 * b 0 + h) ∧ σ (y + 7) h = B (41500 + 24 * b 0 + h) - B (51100 + 24 * b 0 + h)
/-- the class while HOMES go by -/
def KI (σ σ' : zI) (tn y : Nat) (b B : Int → Int) (L n : Int) : Prop := ((∀ c, c ≠ 53 → c ≠ tn + 8 → c ≠ tn + 10 → c ≠ y → c ≠ y + 5 → c ≠ y + 6 → c ≠ y + 7 → σ' c = σ c) ∧ (∀ k, k ≠ 6 → k ≠ 7 → σ' 53 k = σ 53 k) ∧ σ' 53 6 = zw (σ 53 6 + sI (fun h => B (22300 + 24 * b 0 + h)) n) ∧ σ' 53 7 = zw (σ 53 7 + sI (fun h => B (31900 + 24 * b 0 + h)) n)) ∧ CH σ' tn B ∧ K5 σ' y b B ∧ (σ' y 7 = sI (fun h => B (41500 + 24 * b 0 + h)) 24 ∧ σ' y 8 = L) ∧ ∀ h, 0 ≤ h → h < b 3 → σ' (tn + 10) (h * 8 + 4) = σ (tn + 10) (h * 8 + 4) ∧ (h < n → σ' (tn + 10) (h * 8 + 5) = B (22300 + 24 * b 0 + h) ∧ σ' (tn + 10) (h * 8 + 6) = B (31900 + 24 * b 0 + h))
-- method 130: MillTown$Week.keepHomes(LMillTown$Town;LMillTown$WeekBook;)V
theorem c_130_0 : pg_cd 130 0 = (5, 1, 0, 2, 0) := by decide +kernel
theorem c_130_1 : pg_cd 130 1 = (5, 1, 0, 1, 0) := by decide +kernel
theorem c_130_2 : pg_cd 130 2 = (1, 1, 0, 0, 1) := by decide +kernel
theorem c_130_3 : pg_cd 130 3 = (5, 1, 0, 1, 0) := by decide +kernel
theorem c_130_4 : pg_cd 130 4 = (43, 8, 48, 8, 0) := by decide +kernel
theorem c_130_7 : pg_cd 130 7 = (80, 90, 92, 0, 0) := by decide +kernel
theorem c_130_10 : pg_cd 130 10 = (46, 10, 241, 8, 0) := by decide +kernel
theorem c_130_13 : pg_cd 130 13 = (1, 1, 0, 0, 0) := by decide +kernel
theorem c_130_14 : pg_cd 130 14 = (6, 1, 0, 3, 0) := by decide +kernel
theorem c_130_15 : pg_cd 130 15 = (3, 1, 0, 3, 0) := by decide +kernel
theorem c_130_16 : pg_cd 130 16 = (5, 1, 0, 1, 0) := by decide +kernel
theorem c_130_17 : pg_cd 130 17 = (45, 8, 244, 4, 0) := by decide +kernel
theorem c_130_20 : pg_cd 130 20 = (43, 4, 121, 2, 0) := by decide +kernel
theorem c_130_23 : pg_cd 130 23 = (37, 3, 0, 3, 117) := by decide +kernel
theorem c_130_26 : pg_cd 130 26 = (3, 1, 0, 3, 0) := by decide +kernel
theorem c_130_27 : pg_cd 130 27 = (1, 2, 0, 0, 24) := by decide +kernel
theorem c_130_29 : pg_cd 130 29 = (37, 3, 0, 3, 111) := by decide +kernel
theorem c_130_32 : pg_cd 130 32 = (5, 1, 0, 1, 0) := by decide +kernel
theorem c_130_33 : pg_cd 130 33 = (45, 8, 244, 4, 0) := by decide +kernel
theorem c_130_36 : pg_cd 130 36 = (3, 1, 0, 3, 0) := by decide +kernel
theorem c_130_37 : pg_cd 130 37 = (1, 1, 0, 0, 2) := by decide +kernel
theorem c_130_38 : pg_cd 130 38 = (80, 55, 118, 0, 0) := by decide +kernel
theorem c_130_41 : pg_cd 130 41 = (36, 3, 0, 1, 10) := by decide +kernel
theorem c_130_44 : pg_cd 130 44 = (5, 1, 0, 0, 0) := by decide +kernel
theorem c_130_45 : pg_cd 130 45 = (5, 1, 0, 1, 0) := by decide +kernel
theorem c_130_46 : pg_cd 130 46 = (5, 1, 0, 2, 0) := by decide +kernel
theorem c_130_47 : pg_cd 130 47 = (3, 1, 0, 3, 0) := by decide +kernel
theorem c_130_48 : pg_cd 130 48 = (80, 131, 247, 0, 0) := by decide +kernel
theorem c_130_51 : pg_cd 130 51 = (5, 1, 0, 1, 0) := by decide +kernel
theorem c_130_52 : pg_cd 130 52 = (45, 8, 244, 4, 0) := by decide +kernel
theorem c_130_55 : pg_cd 130 55 = (3, 1, 0, 3, 0) := by decide +kernel
theorem c_130_56 : pg_cd 130 56 = (1, 1, 0, 0, 5) := by decide +kernel
theorem c_130_57 : pg_cd 130 57 = (5, 1, 0, 2, 0) := by decide +kernel
theorem c_130_58 : pg_cd 130 58 = (45, 10, 239, 3, 0) := by decide +kernel
theorem c_130_61 : pg_cd 130 61 = (3, 1, 0, 3, 0) := by decide +kernel
theorem c_130_62 : pg_cd 130 62 = (50, 1, 0, 0, 0) := by decide +kernel
theorem c_130_63 : pg_cd 130 63 = (80, 56, 171, 0, 0) := by decide +kernel
theorem c_130_66 : pg_cd 130 66 = (5, 1, 0, 1, 0) := by decide +kernel
theorem c_130_67 : pg_cd 130 67 = (45, 8, 244, 4, 0) := by decide +kernel
theorem c_130_70 : pg_cd 130 70 = (3, 1, 0, 3, 0) := by decide +kernel
theorem c_130_71 : pg_cd 130 71 = (1, 2, 0, 0, 6) := by decide +kernel
theorem c_130_73 : pg_cd 130 73 = (5, 1, 0, 2, 0) := by decide +kernel
theorem c_130_74 : pg_cd 130 74 = (45, 10, 251, 4, 0) := by decide +kernel
theorem c_130_77 : pg_cd 130 77 = (3, 1, 0, 3, 0) := by decide +kernel
theorem c_130_78 : pg_cd 130 78 = (50, 1, 0, 0, 0) := by decide +kernel
theorem c_130_79 : pg_cd 130 79 = (80, 56, 171, 0, 0) := by decide +kernel
theorem c_130_82 : pg_cd 130 82 = (5, 1, 0, 2, 0) := by decide +kernel
theorem c_130_83 : pg_cd 130 83 = (33, 1, 0, 0, 0) := by decide +kernel
theorem c_130_84 : pg_cd 130 84 = (43, 10, 253, 7, 0) := by decide +kernel
theorem c_130_87 : pg_cd 130 87 = (5, 1, 0, 2, 0) := by decide +kernel
theorem c_130_88 : pg_cd 130 88 = (45, 10, 256, 5, 0) := by decide +kernel
theorem c_130_91 : pg_cd 130 91 = (3, 1, 0, 3, 0) := by decide +kernel
theorem c_130_92 : pg_cd 130 92 = (50, 1, 0, 0, 0) := by decide +kernel
theorem c_130_93 : pg_cd 130 93 = (5, 1, 0, 2, 0) := by decide +kernel
theorem c_130_94 : pg_cd 130 94 = (45, 10, 259, 6, 0) := by decide +kernel
theorem c_130_97 : pg_cd 130 97 = (3, 1, 0, 3, 0) := by decide +kernel
theorem c_130_98 : pg_cd 130 98 = (50, 1, 0, 0, 0) := by decide +kernel
theorem c_130_99 : pg_cd 130 99 = (10, 1, 0, 0, 0) := by decide +kernel
theorem c_130_100 : pg_cd 130 100 = (10, 1, 0, 0, 0) := by decide +kernel
theorem c_130_101 : pg_cd 130 101 = (46, 10, 253, 7, 0) := by decide +kernel
theorem c_130_104 : pg_cd 130 104 = (5, 1, 0, 0, 0) := by decide +kernel
theorem c_130_105 : pg_cd 130 105 = (33, 1, 0, 0, 0) := by decide +kernel
theorem c_130_106 : pg_cd 130 106 = (43, 9, 35, 6, 0) := by decide +kernel
theorem c_130_109 : pg_cd 130 109 = (5, 1, 0, 2, 0) := by decide +kernel
theorem c_130_110 : pg_cd 130 110 = (45, 10, 239, 3, 0) := by decide +kernel
theorem c_130_113 : pg_cd 130 113 = (3, 1, 0, 3, 0) := by decide +kernel
theorem c_130_114 : pg_cd 130 114 = (50, 1, 0, 0, 0) := by decide +kernel
theorem c_130_115 : pg_cd 130 115 = (10, 1, 0, 0, 0) := by decide +kernel
theorem c_130_116 : pg_cd 130 116 = (46, 9, 35, 6, 0) := by decide +kernel
theorem c_130_119 : pg_cd 130 119 = (5, 1, 0, 0, 0) := by decide +kernel
theorem c_130_120 : pg_cd 130 120 = (33, 1, 0, 0, 0) := by decide +kernel
theorem c_130_121 : pg_cd 130 121 = (43, 9, 39, 7, 0) := by decide +kernel
theorem c_130_124 : pg_cd 130 124 = (5, 1, 0, 2, 0) := by decide +kernel
theorem c_130_125 : pg_cd 130 125 = (45, 10, 251, 4, 0) := by decide +kernel
theorem c_130_128 : pg_cd 130 128 = (3, 1, 0, 3, 0) := by decide +kernel
theorem c_130_129 : pg_cd 130 129 = (50, 1, 0, 0, 0) := by decide +kernel
theorem c_130_130 : pg_cd 130 130 = (10, 1, 0, 0, 0) := by decide +kernel
theorem c_130_131 : pg_cd 130 131 = (46, 9, 39, 7, 0) := by decide +kernel
theorem c_130_134 : pg_cd 130 134 = (9, 3, 0, 3, 1) := by decide +kernel
theorem c_130_137 : pg_cd 130 137 = (38, 3, 0, 0, (-122)) := by decide +kernel
theorem c_130_140 : pg_cd 130 140 = (5, 1, 0, 1, 0) := by decide +kernel
theorem c_130_141 : pg_cd 130 141 = (33, 1, 0, 0, 0) := by decide +kernel
theorem c_130_142 : pg_cd 130 142 = (43, 8, 262, 10, 0) := by decide +kernel
theorem c_130_145 : pg_cd 130 145 = (5, 1, 0, 2, 0) := by decide +kernel
theorem c_130_146 : pg_cd 130 146 = (43, 10, 253, 7, 0) := by decide +kernel
theorem c_130_149 : pg_cd 130 149 = (10, 1, 0, 0, 0) := by decide +kernel
theorem c_130_150 : pg_cd 130 150 = (46, 8, 262, 10, 0) := by decide +kernel
theorem c_130_153 : pg_cd 130 153 = (94, 0, 0, 0, 0) := by decide +kernel
theorem mi_130 : pg_mc 130 = 9 ∧ pg_na 130 = 2 ∧ pg_mx 130 = 4 := by decide +kernel
set_option maxRecDepth 20000 in
theorem u_130_0 {d : Nat} {S : zS} {σ τ : zI} {Q : zQ} {x1 : Nat} {x2 : Nat} (hx1 : tw x1) (hx2 : oB S x2) (t : ∃ a2 : Int → Int, (rT_W σ x1 a2) ∧ (((0 : Int) ≤ 1 ∧ 1 ≤ (7 : Int)) ∧ -1 ≤ (σ x1 8) ∧ (σ x1 8) ≤ 399) ∧ ∃ w5 : Int, wI w5 = wI (r_pr a2 1 (σ x1 8)) ∧ rg w5 ∧ wi (d + 10) 130 15 [.ref 53, .ref x1, .ref x2, .int (wI 0)] [] S (uc σ x2 (u1 (σ x2) 8 w5)) τ Q) : wi (d + 10) 130 0 [.ref 53, .ref x1, .ref x2, .retAddr 0] [] S σ τ Q := by
  refine i5 c_130_0 rfl (i5 c_130_1 rfl (i1 c_130_2 (i5 c_130_3 rfl (wi_ok (fun K1 => ?_)))))
  obtain ⟨a2, t⟩ := t
  obtain ⟨p3, t⟩ := t
  obtain ⟨p4, t⟩ := t
  refine i43 (v := σ x1 8) c_130_4 (lo (lyt_0 hx1) (by have := tw_b hx1; omega)) rfl ?_
  refine i80 (As := [.int (wI 1), .int (wI (σ x1 8))]) (rest := [.ref x2]) c_130_7 mi_90 rfl rfl (Nat.le_of_ble_eq_true rfl) (Nat.le_of_ble_eq_true rfl) (lo (lyt_0 hx1) (by have := tw_b hx1; omega)) (q_90c (a := a2) hx1 p3 p4 ?_)
  show wi (d + 10) 130 10 [.ref 53, .ref x1, .ref x2, .retAddr 0] [.int (wI (r_pr a2 1 (σ x1 8))), .ref x2] S σ τ Q
  obtain ⟨w5, e6, r7, t⟩ := t
  refine i46 (σ1 := uc σ x2 (u1 (σ x2) 8 w5)) c_130_10 (fun _ => oB_0 hx2) (isR_b (by have := oB_b hx2; omega)) e6 r7 (wr_ rfl rfl) (i1 c_130_13 (i6 (L' := [.ref 53, .ref x1, .ref x2, .int (wI 0)]) c_130_14 rfl t))
set_option maxRecDepth 20000 in
theorem u_130_15 {d : Nat} {S : zS} {σ τ : zI} {Q : zQ} {x1 : Nat} {x2 : Nat} {x3 : Int} (hx1 : tw x1) (hx2 : oB S x2) (t : (rg x3) ∧ if (σ (x1 + 9) 2) ≤ x3 then (∃ w4 : Int, wI w4 = wI ((σ x1 10) + (σ x2 7)) ∧ rg w4 ∧ Q none S (uc σ x1 (u1 (σ x1) 10 w4)) τ) else (if (24 : Int) ≤ x3 then (∃ w8 : Int, wI w8 = wI ((σ x1 10) + (σ x2 7)) ∧ rg w8 ∧ Q none S (uc σ x1 (u1 (σ x1) 10 w8)) τ) else (if (rt_ (σ (x1 + 9) 2) (σ (x1 + 10)) 8 2 x3) = 0 then (∃ b27 : Int → Int, ∃ L28 : Int, (CH σ x1 b27) ∧ (HP b27 L28 x3) ∧ (0 ≤ x3 ∧ x3 < b27 3 ∧ b27 3 ≤ 24) ∧ (hg_s b27 x3 < b27 2 ∧ b27 2 ≤ 4) ∧ (σ x2 8 = L28) ∧ (σ (x2 + 4) x3 = hg_e b27 x3 (b27 4)) ∧ (zB S) ∧ ((∀ w, w < b27 0 → eI S σ 4 w x3 = el1 b27 x3 w) ∧ eI S σ 4 (b27 0) x3 = hg_e b27 x3 (b27 4)) ∧ (-100000 ≤ r_debts b27 (hg_s b27 x3) ∧ r_debts b27 (hg_s b27 x3) ≤ 200000) ∧ ∀ (σ138 : zI), (∀ c, c ≠ x1 + 8 → c ≠ x1 + 10 → c ≠ x2 + 5 → c ≠ x2 + 6 → c ≠ x2 + 7 → σ138 c = σ c) → CH σ138 x1 (r_hg b27 L28 x3) → (∀ k, k ≠ x3 * 8 + 0 → k ≠ x3 * 8 + 1 → σ138 (x1 + 10) k = σ (x1 + 10) k) → σ138 (x2 + 5) = u1 (σ (x2 + 5)) x3 (r_need b27 x3 - hg_N b27 L28 x3) ∧ σ138 (x2 + 6) = u1 (σ (x2 + 6)) x3 (hg_n b27 L28 x3) ∧ σ138 (x2 + 7) = u1 (σ (x2 + 7)) x3 (hg_k b27 L28 x3) → (0 ≤ x3 ∧ x3 < 24) ∧ (0 ≤ x3 ∧ x3 < (σ138 (x1 + 9) 2)) ∧ ∃ w48 : Int, wI w48 = wI ((σ138 x2 7) + ((σ138 (x2 + 6) x3) + (σ138 (x2 + 7) x3))) ∧ rg w48 ∧ ∃ w52 : Int, wI w52 = wI ((σ138 53 6) + (σ138 (x2 + 4) x3)) ∧ rg w52 ∧ ∃ w56 : Int, wI w56 = wI ((σ138 53 7) + (σ138 (x2 + 5) x3)) ∧ rg w56 ∧ wi (d + 10) 130 15 [.ref 53, .ref x1, .ref x2, .int (wI (x3 + 1))] [] S (uc (uc (uc σ138 (x1 + 10) (u1 (u1 (σ138 (x1 + 10)) (x3 * 8 + 5) (σ138 (x2 + 4) x3)) (x3 * 8 + 6) (σ138 (x2 + 5) x3))) x2 (u1 (σ138 x2) 7 w48)) 53 (u1 (u1 (σ138 53) 6 w52) 7 w56)) τ Q) else ((0 ≤ x3 ∧ x3 < 24) ∧ (0 ≤ x3 ∧ x3 < (σ (x1 + 9) 2)) ∧ ∃ w16 : Int, wI w16 = wI ((σ x2 7) + ((σ (x2 + 6) x3) + (σ (x2 + 7) x3))) ∧ rg w16 ∧ ∃ w20 : Int, wI w20 = wI ((σ 53 6) + (σ (x2 + 4) x3)) ∧ rg w20 ∧ ∃ w24 : Int, wI w24 = wI ((σ 53 7) + (σ (x2 + 5) x3)) ∧ rg w24 ∧ wi (d + 10) 130 15 [.ref 53, .ref x1, .ref x2, .int (wI (x3 + 1))] [] S (uc (uc (uc σ (x1 + 10) (u1 (u1 (σ (x1 + 10)) (x3 * 8 + 5) (σ (x2 + 4) x3)) (x3 * 8 + 6) (σ (x2 + 5) x3))) x2 (u1 (σ x2) 7 w16)) 53 (u1 (u1 (σ 53) 6 w20) 7 w24)) τ Q)))) : wi (d + 10) 130 15 [.ref 53, .ref x1, .ref x2, .int (wI x3)] [] S σ τ Q := by
  refine i3 c_130_15 rfl (i5 c_130_16 rfl (i45 c_130_17 (lo (lyt_0 hx1) (by have := tw_b hx1; omega)) (lro (lrt_4 hx1)) (wi_ok (fun K1 => ?_))))
  obtain ⟨r2, t⟩ := t
  refine i43 (v := σ (x1 + 9) 2) c_130_20 (lo (lyt_9 hx1) (by have := tw_b hx1; omega)) rfl ?_
  refine i37 c_130_23 r2 (rge_ K1 rfl) rfl (fun hc => ?_) (fun hc => ?_)
  · have t := iT t hc
    have ha3 : (σ (x1 + 9) 2) ≤ x3 := hc
    obtain ⟨w4, e5, r6, t⟩ := t
    refine i5 c_130_140 rfl (i33a c_130_141 (i43 (v := σ x1 10) c_130_142 (lo (lyt_0 hx1) (by have := tw_b hx1; omega)) rfl (i5 c_130_145 rfl (i43 (v := σ x2 7) c_130_146 (fun _ => oB_0 hx2) rfl (i10 c_130_149 (i46 (σ1 := uc σ x1 (u1 (σ x1) 10 w4)) c_130_150 (lo (lyt_0 hx1) (by have := tw_b hx1; omega)) (ln_0 hx1) e5 r6 (wr_ rfl rfl) ?_))))))
    exact i94 c_130_153 t
  · have t := iF t hc
    have ha3 : ¬ ((σ (x1 + 9) 2) ≤ x3) := hc
    refine i3 c_130_26 rfl (i1 c_130_27 ?_)
    refine i37 c_130_29 r2 (by decide) rfl (fun hc => ?_) (fun hc => ?_)
    · have t := iT t hc
      have ha7 : (24 : Int) ≤ x3 := hc
      obtain ⟨w8, e9, r10, t⟩ := t
      refine i5 c_130_140 rfl (i33a c_130_141 (i43 (v := σ x1 10) c_130_142 (lo (lyt_0 hx1) (by have := tw_b hx1; omega)) rfl (i5 c_130_145 rfl (i43 (v := σ x2 7) c_130_146 (fun _ => oB_0 hx2) rfl (i10 c_130_149 (i46 (σ1 := uc σ x1 (u1 (σ x1) 10 w8)) c_130_150 (lo (lyt_0 hx1) (by have := tw_b hx1; omega)) (ln_0 hx1) e9 r10 (wr_ rfl rfl) ?_))))))
      exact i94 c_130_153 t
    · have t := iF t hc
      have ha7 : ¬ ((24 : Int) ≤ x3) := hc
      refine i5 c_130_32 rfl (i45 c_130_33 (lo (lyt_0 hx1) (by have := tw_b hx1; omega)) (lro (lrt_4 hx1)) (i3 c_130_36 rfl (i1 c_130_37 ?_)))
      refine i80 (As := [.int (wI x3), .int (wI 2)]) (rest := []) c_130_38 mi_55 rfl rfl (Nat.le_of_ble_eq_true rfl) (Nat.le_of_ble_eq_true rfl) (lo (lyt_9 hx1) (by have := tw_b hx1; omega)) (q_at (ow_homes hx1) r2 (by decide) ?_)
      show wi (d + 10) 130 41 [.ref 53, .ref x1, .ref x2, .int (wI x3)] [.int (wI (rt_ (σ (x1 + 9) 2) (σ (x1 + 10)) 8 2 x3))] S σ τ Q
      refine i36 c_130_41 (rg_rt_ (fun k => kO_r K1 _ k) _ _ _ _) rfl (fun hc => ?_) (fun hc => ?_)
      · have t := iF t hc
        have ha11 : ¬ ((rt_ (σ (x1 + 9) 2) (σ (x1 + 10)) 8 2 x3) = 0) := hc
        obtain ⟨r12, t⟩ := t
        obtain ⟨b13, t⟩ := t
        refine i5 c_130_51 rfl (i45 c_130_52 (lo (lyt_0 hx1) (by have := tw_b hx1; omega)) (lro (lrt_4 hx1)) (i3 c_130_55 rfl (i1 c_130_56 (i5 c_130_57 rfl (i45 c_130_58 (fun _ => oB_0 hx2) (fun _ => oB_r3 hx2) (i3 c_130_61 rfl (i50 (v := σ (x2 + 4) x3) c_130_62 (fun _ => oB_4 hx2) (by decide) r12 rfl ?_)))))))
        refine i80 (As := [.int (wI x3), .int (wI 5), .int (wI (σ (x2 + 4) x3))]) (rest := []) c_130_63 mi_56 rfl rfl (Nat.le_of_ble_eq_true rfl) (Nat.le_of_ble_eq_true rfl) (lo (lyt_9 hx1) (by have := tw_b hx1; omega)) (q_put (v2 := σ (x2 + 4) x3) (ow_homes hx1) r2 b13 (by decide) rfl (rge_ K1 rfl) ?_)
        show wi (d + 10) 130 66 [.ref 53, .ref x1, .ref x2, .int (wI x3)] [] S (uc σ (x1 + 10) (u1 (σ (x1 + 10)) (x3 * 8 + 5) (σ (x2 + 4) x3))) τ Q
        refine i5 c_130_66 rfl (i45 c_130_67 (lo (lyt_0 hx1) (by have := tw_b hx1; omega)) (lro (lrt_4 hx1)) (i3 c_130_70 rfl (i1 c_130_71 (i5 c_130_73 rfl (i45 c_130_74 (fun _ => oB_0 hx2) (fun _ => oB_r4 hx2) (i3 c_130_77 rfl (wi_ok (fun K14 => ?_))))))))
        refine i50 (v := σ (x2 + 5) x3) c_130_78 (fun _ => oB_5 hx2) (by decide) r12 (congrFun (uc_ns rfl (by have := oB_b hx2; have := tw_b hx1; omega)) _) ?_
        refine i80 (As := [.int (wI x3), .int (wI 6), .int (wI (σ (x2 + 5) x3))]) (rest := []) c_130_79 mi_56 rfl rfl (Nat.le_of_ble_eq_true rfl) (Nat.le_of_ble_eq_true rfl) (lo (lyt_9 hx1) (by have := tw_b hx1; omega)) (q_put (v2 := σ (x2 + 5) x3) (ow_homes hx1) r2 (show 0 ≤ x3 ∧ x3 < (uc σ (x1 + 10) (u1 (σ (x1 + 10)) (x3 * 8 + 5) (σ (x2 + 4) x3))) (x1 + 9) 2 by rw [(congrFun (uc_ns rfl (by have := tw_b hx1; have := tw_b hx1; omega)) _)]; exact b13) (by decide) rfl (rge_ K14 (congrFun (uc_ns rfl (by have := oB_b hx2; have := tw_b hx1; omega)) _)) ?_)
        show wi (d + 10) 130 82 [.ref 53, .ref x1, .ref x2, .int (wI x3)] [] S (uc (uc σ (x1 + 10) (u1 (σ (x1 + 10)) (x3 * 8 + 5) (σ (x2 + 4) x3))) (x1 + 10) (u1 ((uc σ (x1 + 10) (u1 (σ (x1 + 10)) (x3 * 8 + 5) (σ (x2 + 4) x3))) (x1 + 10)) (x3 * 8 + 6) (σ (x2 + 5) x3))) τ Q
        refine wi_s (σ1 := uc σ (x1 + 10) (u1 (u1 (σ (x1 + 10)) (x3 * 8 + 5) (σ (x2 + 4) x3)) (x3 * 8 + 6) (σ (x2 + 5) x3))) (wr_ (uc_s _ _ _) (uc_uc _ _ _ _)) (i5 c_130_82 rfl (i33a c_130_83 (wi_ok (fun K15 => ?_))))
        obtain ⟨w16, e17, r18, t⟩ := t
        refine i43 (v := σ x2 7) c_130_84 (fun _ => oB_0 hx2) (congrFun (uc_ns rfl (by have := oB_b hx2; have := tw_b hx1; omega)) _) (i5 c_130_87 rfl (i45 c_130_88 (fun _ => oB_0 hx2) (fun _ => oB_r5 hx2) (i3 c_130_91 rfl (i50 (v := σ (x2 + 6) x3) c_130_92 (fun _ => oB_6 hx2) (by decide) r12 (congrFun (uc_ns rfl (by have := oB_b hx2; have := tw_b hx1; omega)) _) (i5 c_130_93 rfl (i45 c_130_94 (fun _ => oB_0 hx2) (fun _ => oB_r6 hx2) (i3 c_130_97 rfl (i50 (v := σ (x2 + 7) x3) c_130_98 (fun _ => oB_7 hx2) (by decide) r12 (congrFun (uc_ns rfl (by have := oB_b hx2; have := tw_b hx1; omega)) _) (i10 c_130_99 (i10 c_130_100 (i46 (σ1 := uc (uc σ (x1 + 10) (u1 (u1 (σ (x1 + 10)) (x3 * 8 + 5) (σ (x2 + 4) x3)) (x3 * 8 + 6) (σ (x2 + 5) x3))) x2 (u1 (σ x2) 7 w16)) c_130_101 (fun _ => oB_0 hx2) (isR_b (by have := oB_b hx2; omega)) e17 r18 (wr_ (uc_ns rfl (by have := oB_b hx2; have := tw_b hx1; omega)) rfl) (i5 c_130_104 rfl (i33a c_130_105 (wi_ok (fun K19 => ?_)))))))))))))))
        obtain ⟨w20, e21, r22, t⟩ := t
        refine i43 (v := σ 53 6) c_130_106 (lo (c := 53) (kd := 109) (n := 0) rfl (by decide)) (congrFun (uc_ns (uc_ns rfl (by have := tw_b hx1; omega)) (by have := oB_b hx2; omega)) _) (i5 c_130_109 rfl (i45 c_130_110 (fun _ => oB_0 hx2) (fun _ => oB_r3 hx2) (i3 c_130_113 rfl (i50 (v := σ (x2 + 4) x3) c_130_114 (fun _ => oB_4 hx2) (by decide) r12 (congrFun (uc_ns (uc_ns rfl (by have := oB_b hx2; have := tw_b hx1; omega)) (by have := oB_b hx2; have := oB_b hx2; omega)) _) (i10 c_130_115 (i46 (σ1 := uc (uc (uc σ (x1 + 10) (u1 (u1 (σ (x1 + 10)) (x3 * 8 + 5) (σ (x2 + 4) x3)) (x3 * 8 + 6) (σ (x2 + 5) x3))) x2 (u1 (σ x2) 7 w16)) 53 (u1 (σ 53) 6 w20)) c_130_116 (lo (c := 53) (kd := 109) (n := 0) rfl (by decide)) (by decide) e21 r22 (wr_ (uc_ns (uc_ns rfl (by have := tw_b hx1; omega)) (by have := oB_b hx2; omega)) rfl) (i5 c_130_119 rfl (i33a c_130_120 (wi_ok (fun K23 => ?_))))))))))
        obtain ⟨w24, e25, r26, t⟩ := t
        refine i43 (v := σ 53 7) c_130_121 (lo (c := 53) (kd := 109) (n := 0) rfl (by decide)) ((congrFun (uc_s _ _ _) _).trans (u1_n (by decide))) (i5 c_130_124 rfl (i45 c_130_125 (fun _ => oB_0 hx2) (fun _ => oB_r4 hx2) (i3 c_130_128 rfl (i50 (v := σ (x2 + 5) x3) c_130_129 (fun _ => oB_5 hx2) (by decide) r12 (congrFun (uc_ns (uc_ns (uc_ns rfl (by have := oB_b hx2; have := tw_b hx1; omega)) (by have := oB_b hx2; have := oB_b hx2; omega)) (by have := oB_b hx2; omega)) _) (i10 c_130_130 (i46 (σ1 := uc (uc (uc σ (x1 + 10) (u1 (u1 (σ (x1 + 10)) (x3 * 8 + 5) (σ (x2 + 4) x3)) (x3 * 8 + 6) (σ (x2 + 5) x3))) x2 (u1 (σ x2) 7 w16)) 53 (u1 (u1 (σ 53) 6 w20) 7 w24)) c_130_131 (lo (c := 53) (kd := 109) (n := 0) rfl (by decide)) (by decide) e25 r26 (wr_ (uc_s _ _ _) (uc_uc _ _ _ _)) (i9 (L' := [.ref 53, .ref x1, .ref x2, .int (wI (x3 + 1))]) c_130_134 rfl rfl (i38 c_130_137 rfl t))))))))
      · have t := iT t (Decidable.not_not.mp hc)
        have ha11 : (rt_ (σ (x1 + 9) 2) (σ (x1 + 10)) 8 2 x3) = 0 := Decidable.not_not.mp hc
        obtain ⟨b27, t⟩ := t
        obtain ⟨L28, t⟩ := t
        obtain ⟨p29, t⟩ := t
        obtain ⟨p30, t⟩ := t
        obtain ⟨p31, t⟩ := t
        obtain ⟨p32, t⟩ := t
        obtain ⟨p33, t⟩ := t
        obtain ⟨p34, t⟩ := t
        obtain ⟨p35, t⟩ := t
        obtain ⟨p36, t⟩ := t
        obtain ⟨p37, t⟩ := t
        refine i5 c_130_44 rfl (i5 c_130_45 rfl (i5 c_130_46 rfl (i3 c_130_47 rfl ?_)))
        refine i80 (As := [.ref x1, .ref x2, .int (wI x3)]) (rest := []) c_130_48 mi_131 rfl rfl (Nat.le_of_ble_eq_true rfl) (Nat.le_of_ble_eq_true rfl) (lo (c := 53) (kd := 109) (n := 0) rfl (by decide)) (q_131 (b := b27) (L := L28) hx1 hx2 p29 p30 p31 p32 p33 p34 p35 p36 p37 (fun σ138 q39 q40 q41 q42 => ?_))
        have t := t σ138 q39 q40 q41 q42
        show wi (d + 10) 130 51 [.ref 53, .ref x1, .ref x2, .int (wI x3)] [] S σ138 τ Q
        obtain ⟨r43, t⟩ := t
        refine i5 c_130_51 rfl (i45 c_130_52 (lo (lyt_0 hx1) (by have := tw_b hx1; omega)) (lro (lrt_4 hx1)) (i3 c_130_55 rfl (i1 c_130_56 (i5 c_130_57 rfl (i45 c_130_58 (fun _ => oB_0 hx2) (fun _ => oB_r3 hx2) (i3 c_130_61 rfl (wi_ok (fun K44 => ?_))))))))
        obtain ⟨b45, t⟩ := t
        refine i50 (v := σ138 (x2 + 4) x3) c_130_62 (fun _ => oB_4 hx2) (by decide) r43 rfl ?_
        refine i80 (As := [.int (wI x3), .int (wI 5), .int (wI (σ138 (x2 + 4) x3))]) (rest := []) c_130_63 mi_56 rfl rfl (Nat.le_of_ble_eq_true rfl) (Nat.le_of_ble_eq_true rfl) (lo (lyt_9 hx1) (by have := tw_b hx1; omega)) (q_put (v2 := σ138 (x2 + 4) x3) (ow_homes hx1) r2 b45 (by decide) rfl (rge_ K44 rfl) ?_)
        show wi (d + 10) 130 66 [.ref 53, .ref x1, .ref x2, .int (wI x3)] [] S (uc σ138 (x1 + 10) (u1 (σ138 (x1 + 10)) (x3 * 8 + 5) (σ138 (x2 + 4) x3))) τ Q
        refine i5 c_130_66 rfl (i45 c_130_67 (lo (lyt_0 hx1) (by have := tw_b hx1; omega)) (lro (lrt_4 hx1)) (i3 c_130_70 rfl (i1 c_130_71 (i5 c_130_73 rfl (i45 c_130_74 (fun _ => oB_0 hx2) (fun _ => oB_r4 hx2) (i3 c_130_77 rfl (wi_ok (fun K46 => ?_))))))))
        refine i50 (v := σ138 (x2 + 5) x3) c_130_78 (fun _ => oB_5 hx2) (by decide) r43 (congrFun (uc_ns rfl (by have := oB_b hx2; have := tw_b hx1; omega)) _) ?_
        refine i80 (As := [.int (wI x3), .int (wI 6), .int (wI (σ138 (x2 + 5) x3))]) (rest := []) c_130_79 mi_56 rfl rfl (Nat.le_of_ble_eq_true rfl) (Nat.le_of_ble_eq_true rfl) (lo (lyt_9 hx1) (by have := tw_b hx1; omega)) (q_put (v2 := σ138 (x2 + 5) x3) (ow_homes hx1) r2 (show 0 ≤ x3 ∧ x3 < (uc σ138 (x1 + 10) (u1 (σ138 (x1 + 10)) (x3 * 8 + 5) (σ138 (x2 + 4) x3))) (x1 + 9) 2 by rw [(congrFun (uc_ns rfl (by have := tw_b hx1; have := tw_b hx1; omega)) _)]; exact b45) (by decide) rfl (rge_ K46 (congrFun (uc_ns rfl (by have := oB_b hx2; have := tw_b hx1; omega)) _)) ?_)
        show wi (d + 10) 130 82 [.ref 53, .ref x1, .ref x2, .int (wI x3)] [] S (uc (uc σ138 (x1 + 10) (u1 (σ138 (x1 + 10)) (x3 * 8 + 5) (σ138 (x2 + 4) x3))) (x1 + 10) (u1 ((uc σ138 (x1 + 10) (u1 (σ138 (x1 + 10)) (x3 * 8 + 5) (σ138 (x2 + 4) x3))) (x1 + 10)) (x3 * 8 + 6) (σ138 (x2 + 5) x3))) τ Q
        refine wi_s (σ1 := uc σ138 (x1 + 10) (u1 (u1 (σ138 (x1 + 10)) (x3 * 8 + 5) (σ138 (x2 + 4) x3)) (x3 * 8 + 6) (σ138 (x2 + 5) x3))) (wr_ (uc_s _ _ _) (uc_uc _ _ _ _)) (i5 c_130_82 rfl (i33a c_130_83 (wi_ok (fun K47 => ?_))))
        obtain ⟨w48, e49, r50, t⟩ := t
        refine i43 (v := σ138 x2 7) c_130_84 (fun _ => oB_0 hx2) (congrFun (uc_ns rfl (by have := oB_b hx2; have := tw_b hx1; omega)) _) (i5 c_130_87 rfl (i45 c_130_88 (fun _ => oB_0 hx2) (fun _ => oB_r5 hx2) (i3 c_130_91 rfl (i50 (v := σ138 (x2 + 6) x3) c_130_92 (fun _ => oB_6 hx2) (by decide) r43 (congrFun (uc_ns rfl (by have := oB_b hx2; have := tw_b hx1; omega)) _) (i5 c_130_93 rfl (i45 c_130_94 (fun _ => oB_0 hx2) (fun _ => oB_r6 hx2) (i3 c_130_97 rfl (i50 (v := σ138 (x2 + 7) x3) c_130_98 (fun _ => oB_7 hx2) (by decide) r43 (congrFun (uc_ns rfl (by have := oB_b hx2; have := tw_b hx1; omega)) _) (i10 c_130_99 (i10 c_130_100 (i46 (σ1 := uc (uc σ138 (x1 + 10) (u1 (u1 (σ138 (x1 + 10)) (x3 * 8 + 5) (σ138 (x2 + 4) x3)) (x3 * 8 + 6) (σ138 (x2 + 5) x3))) x2 (u1 (σ138 x2) 7 w48)) c_130_101 (fun _ => oB_0 hx2) (isR_b (by have := oB_b hx2; omega)) e49 r50 (wr_ (uc_ns rfl (by have := oB_b hx2; have := tw_b hx1; omega)) rfl) (i5 c_130_104 rfl (i33a c_130_105 (wi_ok (fun K51 => ?_)))))))))))))))
        obtain ⟨w52, e53, r54, t⟩ := t
        refine i43 (v := σ138 53 6) c_130_106 (lo (c := 53) (kd := 109) (n := 0) rfl (by decide)) (congrFun (uc_ns (uc_ns rfl (by have := tw_b hx1; omega)) (by have := oB_b hx2; omega)) _) (i5 c_130_109 rfl (i45 c_130_110 (fun _ => oB_0 hx2) (fun _ => oB_r3 hx2) (i3 c_130_113 rfl (i50 (v := σ138 (x2 + 4) x3) c_130_114 (fun _ => oB_4 hx2) (by decide) r43 (congrFun (uc_ns (uc_ns rfl (by have := oB_b hx2; have := tw_b hx1; omega)) (by have := oB_b hx2; have := oB_b hx2; omega)) _) (i10 c_130_115 (i46 (σ1 := uc (uc (uc σ138 (x1 + 10) (u1 (u1 (σ138 (x1 + 10)) (x3 * 8 + 5) (σ138 (x2 + 4) x3)) (x3 * 8 + 6) (σ138 (x2 + 5) x3))) x2 (u1 (σ138 x2) 7 w48)) 53 (u1 (σ138 53) 6 w52)) c_130_116 (lo (c := 53) (kd := 109) (n := 0) rfl (by decide)) (by decide) e53 r54 (wr_ (uc_ns (uc_ns rfl (by have := tw_b hx1; omega)) (by have := oB_b hx2; omega)) rfl) (i5 c_130_119 rfl (i33a c_130_120 (wi_ok (fun K55 => ?_))))))))))
        obtain ⟨w56, e57, r58, t⟩ := t
        refine i43 (v := σ138 53 7) c_130_121 (lo (c := 53) (kd := 109) (n := 0) rfl (by decide)) ((congrFun (uc_s _ _ _) _).trans (u1_n (by decide))) (i5 c_130_124 rfl (i45 c_130_125 (fun _ => oB_0 hx2) (fun _ => oB_r4 hx2) (i3 c_130_128 rfl (i50 (v := σ138 (x2 + 5) x3) c_130_129 (fun _ => oB_5 hx2) (by decide) r43 (congrFun (uc_ns (uc_ns (uc_ns rfl (by have := oB_b hx2; have := tw_b hx1; omega)) (by have := oB_b hx2; have := oB_b hx2; omega)) (by have := oB_b hx2; omega)) _) (i10 c_130_130 (i46 (σ1 := uc (uc (uc σ138 (x1 + 10) (u1 (u1 (σ138 (x1 + 10)) (x3 * 8 + 5) (σ138 (x2 + 4) x3)) (x3 * 8 + 6) (σ138 (x2 + 5) x3))) x2 (u1 (σ138 x2) 7 w48)) 53 (u1 (u1 (σ138 53) 6 w52) 7 w56)) c_130_131 (lo (c := 53) (kd := 109) (n := 0) rfl (by decide)) (by decide) e57 r58 (wr_ (uc_s _ _ _) (uc_uc _ _ _ _)) (i9 (L' := [.ref 53, .ref x1, .ref x2, .int (wI (x3 + 1))]) c_130_134 rfl rfl (i38 c_130_137 rfl t))))))))
theorem q_130 {d : Nat} {S : zS} {σ τ : zI} {Q : zQ} {tn : Nat} {y : Nat} {b : Int → Int} {L : Int} {a : Int → Int} (htn : tw tn) (hy : oB S y) (p0 : CH σ tn b) (p1 : HI b L 0) (p2 : rT_W σ tn a ∧ r_pr a 1 (b 0) = L) (p3 : (∀ h, 0 ≤ h → h < 24 → σ (y + 4) h = hg_e b h (b 4) ∧ σ (y + 5) h = 0 ∧ σ (y + 6) h = 0 ∧ σ (y + 7) h = 0) ∧ σ y 7 = 0) (p4 : (∀ h, 0 ≤ h → h < 24 → b 3 ≤ h ∨ b (3460 + 8 * h + 3) ≠ 0 → hg_e b h (b 4) = 0)) (p5 : zB S ∧ S.2.2.2 59 (b 0).toNat = some y) (p6 : (∀ w, 0 ≤ w → w < b 0 → ∃ y, S.2.2.2 59 w.toNat = some y ∧ ∀ h, 0 ≤ h → h < 24 → σ (y + 4) h = b (22300 + 24 * w + h))) (p7 : σ tn 10 = b 15) (p8 : (∀ h f, 0 ≤ h → h < 24 → wkF f → b (f + 24 * b 0 + h) = 0)) (t : ∀ (σ1 : zI) (σ2 : zI), KI σ σ2 tn y b (r_hgs b L (b 3)) L (b 3) → KB b (r_hgs b L (b 3)) (b 3) → σ1 = uc σ2 tn (u1 (σ2 tn) 10 (r_hgs b L (b 3) 15)) → Q none S σ1 τ) : wc (d + 10) 130 [.ref 53, .ref tn, .ref y] S σ τ Q := by
  have tb := tw_b htn
  have yb := oB_b hy
  have b0 := p1.1
  refine wc_ok fun KK => ?_
  have k6 := kO_r KK 53 6
  have k7 := kO_r KK 53 7
  have loop : ∀ n, 0 ≤ n → n ≤ b 3 → ∀ σ' : zI, KI σ σ' tn y b (r_hgs b L n) L n → KB b (r_hgs b L n) n → wi (d + 10) 130 15 [.ref 53, .ref tn, .ref y, .int (wI n)] [] S σ' τ Q := by
    refine lp_up (fun n n0 n1 ih => ?_)
    intro σ' I K
    obtain ⟨I1, i0, i1, i2, i3, i4⟩ := HI_I p1 n n0 n1
    obtain ⟨⟨f, fk, s6, s7⟩, ch, k5, ⟨y7, y8⟩, cl⟩ := id I
    have I15 := I1.1.2.2.2.2.2
    have K3 := K.2.2
    have e10 : σ' tn 10 = b 15 := by rw [f tn (by omega) (by omega) (by omega) (by omega) (by omega) (by omega) (by omega)]; exact p7
    have c9 : σ' (tn + 9) 2 = b 3 := by rw [ch.2.2.1, i3]
    have fin : n = b 3 → ∃ w4 : Int, wI w4 = wI ((σ' tn 10) + (σ' y 7)) ∧ rg w4 ∧ Q none S (uc σ' tn (u1 (σ' tn) 10 w4)) τ := fun e => by
      rw [e10, y7, ← K3]
      refine ⟨r_hgs b L n 15, rfl, by omega, ?_⟩
      subst e
      refine t _ σ' I K rfl
    refine u_130_15 htn hy ?_
    rw [c9]
    refine ⟨by omega, ifI (fun e => fin (by omega)) (fun e => ifI (fun e => by omega) (fun e => ?_))⟩
    have ih := ih (by omega)
    obtain ⟨K', ot, sm⟩ := KB_s p1 ⟨n0, by omega⟩ (fun c => p4 n n0 (by omega) (Or.inr c)) K
    have K'3 := K'.2.2
    obtain ⟨J1, j0, j1, j2, j3, j4⟩ := HI_I p1 (n + 1) (by omega) (by omega)
    have J15 := J1.1.2.2.2.2.2
    have nx : ∀ σ1 : zI, (∀ c, c ≠ tn + 8 → c ≠ tn + 10 → c ≠ y + 5 → c ≠ y + 6 → c ≠ y + 7 → σ1 c = σ' c) → CH σ1 tn (r_hgs b L (n + 1)) → (∀ k, k ≠ n * 8 + 0 → k ≠ n * 8 + 1 → σ1 (tn + 10) k = σ' (tn + 10) k) → K5 σ1 y b (r_hgs b L (n + 1)) → (0 ≤ n ∧ n < 24) ∧ (0 ≤ n ∧ n < (σ1 (tn + 9) 2)) ∧ ∃ w48 : Int, wI w48 = wI ((σ1 y 7) + ((σ1 (y + 6) n) + (σ1 (y + 7) n))) ∧ rg w48 ∧ ∃ w52 : Int, wI w52 = wI ((σ1 53 6) + (σ1 (y + 4) n)) ∧ rg w52 ∧ ∃ w56 : Int, wI w56 = wI ((σ1 53 7) + (σ1 (y + 5) n)) ∧ rg w56 ∧ wi (d + 10) 130 15 [.ref 53, .ref tn, .ref y, .int (wI (n + 1))] [] S (uc (uc (uc σ1 (tn + 10) (u1 (u1 (σ1 (tn + 10)) (n * 8 + 5) (σ1 (y + 4) n)) (n * 8 + 6) (σ1 (y + 5) n))) y (u1 (σ1 y) 7 w48)) 53 (u1 (u1 (σ1 53) 6 w52) 7 w56)) τ Q := fun σ1 f1 ch1 r1 h5 => by
      have q5 := h5 n n0 (by omega)
      have e4 : σ1 (y + 4) n = r_hgs b L (n + 1) (22300 + 24 * b 0 + n) := by
        rw [f1 _ (by omega) (by omega) (by omega) (by omega) (by omega), f _ (by omega) (by omega) (by omega) (by omega) (by omega) (by omega) (by omega), (p3.1 n n0 (by omega)).1, K'.2.1 n n0 (by omega)]
      have ey : σ1 y = σ' y := f1 _ (by omega) (by omega) (by omega) (by omega) (by omega)
      have e53 : σ1 53 = σ' 53 := f1 _ (by omega) (by omega) (by omega) (by omega) (by omega)
      rw [ch1.2.2.1, j3, e4, q5.1, q5.2.1, q5.2.2, ey, e53, y7, s6, s7]
      refine ⟨by omega, by omega, sI (fun h => r_hgs b L (n + 1) (41500 + 24 * b 0 + h)) 24, by rw [sm]; congr 1; omega, by omega, zw (σ 53 6 + sI (fun h => r_hgs b L (n + 1) (22300 + 24 * b 0 + h)) (n + 1)), ?_, rg_zw _, zw (σ 53 7 + sI (fun h => r_hgs b L (n + 1) (31900 + 24 * b 0 + h)) (n + 1)), ?_, rg_zw _, ih _ ⟨⟨fun c h1 h2 h3 h4 h5 h6 h7 => ?_, fun k k1 k2 => ?_, ?_, ?_⟩, ?_, fun h h0 h1 => ?_, ⟨?_, ?_⟩, fun h h0 h1 => ⟨?_, fun h2 => ⟨?_, ?_⟩⟩⟩ K'⟩
      · rw [sI_s n0, wI_zw, ← wI_zw (zw _ + _), zw_add, wI_zw, sI_c (g := fun h => r_hgs b L n (22300 + 24 * b 0 + h)) (fun p p0 p1 => ot p 22300 p0 (by omega) (by omega) (by omega))]; congr 1; omega
      · rw [sI_s n0, wI_zw, ← wI_zw (zw _ + _), zw_add, wI_zw, sI_c (g := fun h => r_hgs b L n (31900 + 24 * b 0 + h)) (fun p p0 p1 => ot p 31900 p0 (by omega) (by omega) (by omega))]; congr 1; omega
      · rw [uc_n h1, uc_n h4, uc_n h3, f1 c h2 h3 h5 h6 h7]; exact f c h1 h2 h3 h4 h5 h6 h7
      · rw [uc_s, u1_n k2, u1_n k1]; exact fk k k1 k2
      · rw [uc_s, u1_n (by omega), u1_s]
      · rw [uc_s, u1_s]
      · refine CH_f ch1 ?_ (fun c hc => ?_) (fun h c h0 h1 hc => ?_)
        · rw [uc_n (by omega), uc_n (by omega), uc_n (by omega)]
        · rw [uc_n (by omega), uc_n (by omega), uc_n (by omega)]
        · rw [uc_n (by omega), uc_n (by omega), uc_s, u1_n (by omega), u1_n (by omega)]
      · rw [uc_n (by omega), uc_n (by omega), uc_n (by omega), uc_n (by omega), uc_n (by omega), uc_n (by omega), uc_n (by omega), uc_n (by omega), uc_n (by omega)]
        exact h5 h h0 h1
      · rw [uc_n (by omega), uc_s, u1_s]
      · rw [uc_n (by omega), uc_s, u1_n (by omega)]; exact y8
      · rw [uc_n (by omega), uc_n (by omega), uc_s, u1_n (by omega), u1_n (by omega), r1 _ (by omega) (by omega)]
        exact (cl h h0 h1).1
      · rw [uc_n (by omega), uc_n (by omega), uc_s, u1_n (by omega)]
        by_cases x : h = n
        · subst x; rw [u1_s]
        · rw [u1_n (by omega), r1 _ (by omega) (by omega), ot h 22300 h0 (by omega) x (by omega)]
          exact ((cl h h0 h1).2 (by omega)).1
      · rw [uc_n (by omega), uc_n (by omega), uc_s]
        by_cases x : h = n
        · subst x; rw [u1_s]
        · rw [u1_n (by omega), u1_n (by omega), r1 _ (by omega) (by omega), ot h 31900 h0 (by omega) x (by omega)]
          exact ((cl h h0 h1).2 (by omega)).2
    have g3 : r_hgs b L n (3460 + 8 * n + 3) = b (3460 + 8 * n + 3) := hgs_k p1 n n0 n1 _ (by omega)
    have v2 : rt_ (b 3) (σ' (tn + 10)) 8 2 n = b (3460 + 8 * n + 3) := by
      rw [rt_p ⟨n0, by omega⟩]
      have := (ch.2.2.2 n n0 (by omega)).2.2.1
      rw [g3] at this; exact this
    have rs := r_hgs_s (b := b) (L := L) n0
    rw [g3] at rs
    rw [v2]
    refine ifI (fun c => ?_) (fun c => ?_)
    · rw [if_pos c] at rs
      have hp := HI_HP I1 ⟨n0, by omega⟩
      have hh := I1.2.2.1 n n0 (by omega)
      have hs := I1.2.2.2.1 (hg_s (r_hgs b L n) n) hh.1.1 hh.1.2
      have ee := hgs_e p1 n0 n1 n
      have cc := hg_cells hp
      have dN : hg_N (r_hgs b L n) L n = hg_n (r_hgs b L n) L n + hg_k (r_hgs b L n) L n := rfl
      have ds : 0 ≤ r_debts (r_hgs b L n) (hg_s (r_hgs b L n) n) := sI_p0 (by omega) (fun x x0 x1 => by
        have := (I1.2.2.1 x x0 x1).2.2.2
        try dsimp only
        split <;> omega)
      refine ⟨r_hgs b L n, L, ch, hp, by omega, ⟨hh.1.2, by omega⟩, y8, ?_, p5.1, ⟨fun w hw => ?_, ?_⟩, by omega, fun σ1 f1 ch1 r1 bk => ?_⟩
      · rw [i4, ee, f _ (by omega) (by omega) (by omega) (by omega) (by omega) (by omega) (by omega)]; exact (p3.1 n n0 (by omega)).1
      · rw [i0] at hw
        unfold eI el1
        by_cases w0 : 0 ≤ w
        · obtain ⟨y', q1, q2⟩ := p6 w w0 hw
          have yo := p5.1.1 w.toNat y' (by omega) q1
          have yn : y ≠ y' := fun q => by
            have := p5.1.2 (b 0).toNat w.toNat y (by omega) (by omega) p5.2 (by rw [q]; exact q1)
            omega
          have dj := oB_dj hy yo yn
          have yb' := oB_b yo
          rw [if_pos (by omega), if_pos w0, q1, hgs_k p1 n n0 n1 (22300 + 24 * w + n) (by omega)]
          show σ' (y' + 4) n = _
          rw [f _ (by omega) (by omega) (by omega) (by omega) (by omega) (by omega) (by omega)]
          exact q2 n n0 (by omega)
        · rw [if_neg (by omega), if_neg w0]
      · unfold eI
        rw [i0, if_pos (by omega), p5.2, i4, ee]
        show σ' (y + 4) n = _
        rw [f _ (by omega) (by omega) (by omega) (by omega) (by omega) (by omega) (by omega)]; exact (p3.1 n n0 (by omega)).1
      · rw [← rs] at ch1 cc
        rw [i0] at cc
        refine nx σ1 f1 ch1 r1 (fun h h0 h1 => ?_)
        rw [bk.1, bk.2.1, bk.2.2]
        by_cases x : h = n
        · subst x
          rw [u1_s, u1_s, u1_s, cc.2.1, cc.2.2.1, cc.2.2.2]
          exact ⟨rfl, rfl, by omega⟩
        · rw [u1_n x, u1_n x, u1_n x, ot h 31900 h0 h1 x (by omega), ot h 51100 h0 h1 x (by omega), ot h 41500 h0 h1 x (by omega)]
          exact k5 h h0 h1
    · rw [if_neg c] at rs
      have := nx σ' (fun _ _ _ _ _ _ => rfl) (by rw [rs]; exact ch) (fun _ _ _ => rfl) (by rw [rs]; exact k5)
      rw [c9] at this
      exact this
  have c0 : σ tn 8 = b 0 := p0.1
  refine wc_of mi_130 rfl (u_130_0 htn hy ⟨a, p2.1, by omega, L, by rw [c0, p2.2], by omega, loop 0 (by omega) (by omega) _ ?_ ?_⟩)
  · rw [r_hgs_0]
    refine ⟨⟨fun c h1 h2 h3 h4 h5 h6 h7 => uc_n h4, fun k k1 k2 => by rw [uc_n (by omega)], ?_, ?_⟩, ?_, fun h h0 h1 => ?_, ⟨?_, ?_⟩, fun h h0 h1 => ⟨?_, fun h2 => by omega⟩⟩
    · rw [uc_n (by omega)]
      show σ 53 6 = zw (σ 53 6 + 0)
      rw [Int.add_zero, zw_of k6]
    · rw [uc_n (by omega)]
      show σ 53 7 = zw (σ 53 7 + 0)
      rw [Int.add_zero, zw_of k7]
    · exact CH_f p0 (by rw [uc_n (by omega)]) (fun c hc => uc_n (by omega)) (fun h c _ _ _ => by rw [uc_n (by omega)])
    · rw [uc_n (by omega), uc_n (by omega), uc_n (by omega), p8 h 31900 h0 h1 (by omega), p8 h 51100 h0 h1 (by omega), p8 h 41500 h0 h1 (by omega)]
      have := p3.1 h h0 h1
      exact ⟨this.2.1, this.2.2.1, this.2.2.2⟩
    · rw [uc_s, u1_n (by omega), p3.2, sI_c (g := fun _ => 0) (fun p q0 q1 => p8 p 41500 q0 q1 (by omega)), sI_z]
    · rw [uc_s, u1_s]
    · rw [uc_n (by omega)]
  · rw [r_hgs_0]
    refine ⟨fun h f h0 _ h1 hf => p8 h f h0 h1 hf, fun h h0 h1 => by omega, ?_⟩
    rw [sI_c (g := fun _ => 0) (fun p q0 q1 => p8 p 41500 q0 q1 (by omega)), sI_z, Int.add_zero]
