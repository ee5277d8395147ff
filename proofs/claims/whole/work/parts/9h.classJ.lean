/-! ===== a WEEK of the class: a HOME buys its loaves (segments printed by wip/whole, contracts own work) ===== -/
/-- SHOPS and HOMES of a town while HOMES go by -/
def CH (σ : zI) (t : Nat) (b : Int → Int) : Prop := σ t 8 = b 0 ∧ rT_Q σ t b ∧ σ (t + 9) 2 = b 3 ∧ ∀ h, 0 ≤ h → h < b 3 → σ (t + 10) (h * 8 + 0) = b (3460 + 8 * h + 1) ∧ σ (t + 10) (h * 8 + 1) = b (3460 + 8 * h + 2) ∧ σ (t + 10) (h * 8 + 2) = b (3460 + 8 * h + 3) ∧ σ (t + 10) (h * 8 + 3) = r_need b h ∧ σ (t + 10) (h * 8 + 7) = b (3460 + 8 * h + 0)
theorem eI_c {S : zS} {σ σ' : zI} {k : Nat} {w h : Int} (zb : zB S) (f : ∀ c, 100 ≤ c → σ' c = σ c) : eI S σ' k w h = eI S σ k w h := by
  unfold eI
  by_cases c : (0 ≤ w ∧ w ≤ 399) ∧ 0 ≤ h ∧ h < 24
  · rw [if_pos c, if_pos c]
    cases e : S.2.2.2 59 w.toNat with
    | none => rfl
    | some y =>
      have := oB_b (zb.1 w.toNat y (by omega) e)
      show σ' (y + k) h = σ (y + k) h
      rw [f (y + k) (by omega)]
  · rw [if_neg c, if_neg c]
theorem r_need_hg {b : Int → Int} {L h x : Int} (H : HP b L h) : r_need (r_hg b L h) x = r_need b x := by
  have h0 := H.1
  have hs := H.2.2.1.1
  unfold r_need
  rw [r_hg_k H (k := 4) (by omega)]
  refine sI_c (fun p p0 p1 => ?_)
  rw [r_hg_k H (k := 3652 + 12 * p + 0) (by omega), r_hg_k H (k := 3652 + 12 * p + 1) (by omega)]
theorem CH_hg {σ σ' : zI} {t : Nat} {b : Int → Int} {L h : Int} (H : HP b L h) (C : CH σ t b) (hh : 0 ≤ h ∧ h < b 3 ∧ b 3 ≤ 24) (hs : hg_s b h < b 2 ∧ b 2 ≤ 4) (f8 : σ' t = σ t) (f7 : σ' (t + 7) = σ (t + 7)) (f9 : σ' (t + 9) = σ (t + 9)) (q : ∀ k, k ≠ hg_s b h * 5 + 0 → k ≠ hg_s b h * 5 + 1 → σ' (t + 8) k = σ (t + 8) k) (q0 : σ' (t + 8) (hg_s b h * 5 + 0) = hg_C2 b L h + hg_bk b L h) (q1 : σ' (t + 8) (hg_s b h * 5 + 1) = r_debts b (hg_s b h) + (hg_D2 b L h - hg_bk b L h - b (3460 + 8 * h + 2))) (r : ∀ k, k ≠ h * 8 + 0 → k ≠ h * 8 + 1 → σ' (t + 10) k = σ (t + 10) k) (r0 : σ' (t + 10) (h * 8 + 0) = hg_P2 b L h - hg_bk b L h) (r1 : σ' (t + 10) (h * 8 + 1) = hg_D2 b L h - hg_bk b L h) : CH σ' t (r_hg b L h) := by
  obtain ⟨c0, ⟨c1, c2⟩, c3, c4⟩ := C
  have G := hgp_of H
  have h0 := H.1
  have s0 := H.2.2.1.1
  have c : ∀ k, k = 0 ∨ k = 2 ∨ k = 3 ∨ k = 4 → r_hg b L h k = b k := fun k hk => r_hg_k H (by omega)
  refine ⟨by rw [f8, c 0 (by omega)]; exact c0, ⟨by rw [f7, c 2 (by omega)]; exact c1, fun s s1 s2 => ?_⟩, by rw [f9, c 3 (by omega)]; exact c3, fun x x0 x1 => ?_⟩
  · rw [c 2 (by omega)] at s2
    have y := c2 s s1 s2
    rw [r_hg_D H ⟨hh.1, hh.2.1⟩ hh.2.2, r_hg_k H (k := 3428 + 8 * s + 3) (by omega), r_hg_k H (k := 3428 + 8 * s + 1) (by omega), r_hg_k H (k := 3428 + 8 * s + 2) (by omega), q (s * 5 + 2) (by omega) (by omega), q (s * 5 + 3) (by omega) (by omega), q (s * 5 + 4) (by omega) (by omega)]
    by_cases e : hg_s b h = s
    · have rC : r_hg b L h (3428 + 8 * s) = hg_C2 b L h + hg_bk b L h := by rw [← e]; exact hG_rC G
      rw [if_pos e, rC]
      rw [e] at q0 q1
      exact ⟨q0, q1, y.2.2⟩
    · rw [if_neg e, r_hg_k H (k := 3428 + 8 * s) (by omega), q (s * 5 + 0) (by omega) (by omega), q (s * 5 + 1) (by omega) (by omega), Int.add_zero (r_debts b s)]
      exact y
  · rw [c 3 (by omega)] at x1
    have y := c4 x x0 x1
    rw [r_need_hg H, r_hg_k H (k := 3460 + 8 * x + 0) (by omega), r_hg_k H (k := 3460 + 8 * x + 3) (by omega), r (x * 8 + 2) (by omega) (by omega), r (x * 8 + 3) (by omega) (by omega), r (x * 8 + 7) (by omega) (by omega)]
    by_cases e : x = h
    · subst e
      have rP : r_hg b L x (3460 + 8 * x + 1) = hg_P2 b L x - hg_bk b L x := hG_rP G
      have rD : r_hg b L x (3460 + 8 * x + 2) = hg_D2 b L x - hg_bk b L x := hG_rD G
      rw [rP, rD]
      exact ⟨r0, r1, y.2.2⟩
    · rw [r_hg_k H (k := 3460 + 8 * x + 1) (by omega), r_hg_k H (k := 3460 + 8 * x + 2) (by omega), r (x * 8 + 0) (by omega) (by omega), r (x * 8 + 1) (by omega) (by omega)]
      exact y
-- method 131: MillTown$Week.buyLoaves(LMillTown$Town;LMillTown$WeekBook;I)V
theorem c_131_0 : pg_cd 131 0 = (3, 1, 0, 3, 0) := by decide +kernel
theorem c_131_1 : pg_cd 131 1 = (36, 3, 0, 2, 16) := by decide +kernel
theorem c_131_4 : pg_cd 131 4 = (3, 1, 0, 3, 0) := by decide +kernel
theorem c_131_5 : pg_cd 131 5 = (1, 2, 0, 0, 24) := by decide +kernel
theorem c_131_7 : pg_cd 131 7 = (37, 3, 0, 3, 10) := by decide +kernel
theorem c_131_10 : pg_cd 131 10 = (5, 1, 0, 2, 0) := by decide +kernel
theorem c_131_11 : pg_cd 131 11 = (43, 10, 241, 8, 0) := by decide +kernel
theorem c_131_14 : pg_cd 131 14 = (36, 3, 0, 4, 4) := by decide +kernel
theorem c_131_17 : pg_cd 131 17 = (94, 0, 0, 0, 0) := by decide +kernel
theorem c_131_18 : pg_cd 131 18 = (5, 1, 0, 1, 0) := by decide +kernel
theorem c_131_19 : pg_cd 131 19 = (45, 8, 244, 4, 0) := by decide +kernel
theorem c_131_22 : pg_cd 131 22 = (3, 1, 0, 3, 0) := by decide +kernel
theorem c_131_23 : pg_cd 131 23 = (1, 1, 0, 0, 3) := by decide +kernel
theorem c_131_24 : pg_cd 131 24 = (80, 55, 118, 0, 0) := by decide +kernel
theorem c_131_27 : pg_cd 131 27 = (6, 2, 0, 4, 0) := by decide +kernel
theorem c_131_29 : pg_cd 131 29 = (5, 1, 0, 1, 0) := by decide +kernel
theorem c_131_30 : pg_cd 131 30 = (45, 8, 244, 4, 0) := by decide +kernel
theorem c_131_33 : pg_cd 131 33 = (3, 1, 0, 3, 0) := by decide +kernel
theorem c_131_34 : pg_cd 131 34 = (1, 1, 0, 0, 0) := by decide +kernel
theorem c_131_35 : pg_cd 131 35 = (80, 55, 118, 0, 0) := by decide +kernel
theorem c_131_38 : pg_cd 131 38 = (5, 1, 0, 2, 0) := by decide +kernel
theorem c_131_39 : pg_cd 131 39 = (45, 10, 239, 3, 0) := by decide +kernel
theorem c_131_42 : pg_cd 131 42 = (3, 1, 0, 3, 0) := by decide +kernel
theorem c_131_43 : pg_cd 131 43 = (50, 1, 0, 0, 0) := by decide +kernel
theorem c_131_44 : pg_cd 131 44 = (10, 1, 0, 0, 0) := by decide +kernel
theorem c_131_45 : pg_cd 131 45 = (6, 2, 0, 5, 0) := by decide +kernel
theorem c_131_47 : pg_cd 131 47 = (3, 2, 0, 4, 0) := by decide +kernel
theorem c_131_49 : pg_cd 131 49 = (3, 2, 0, 5, 0) := by decide +kernel
theorem c_131_51 : pg_cd 131 51 = (5, 1, 0, 2, 0) := by decide +kernel
theorem c_131_52 : pg_cd 131 52 = (43, 10, 241, 8, 0) := by decide +kernel
theorem c_131_55 : pg_cd 131 55 = (16, 1, 0, 0, 0) := by decide +kernel
theorem c_131_56 : pg_cd 131 56 = (74, 0, 182, 0, 0) := by decide +kernel
theorem c_131_59 : pg_cd 131 59 = (6, 2, 0, 6, 0) := by decide +kernel
theorem c_131_61 : pg_cd 131 61 = (5, 1, 0, 1, 0) := by decide +kernel
theorem c_131_62 : pg_cd 131 62 = (45, 8, 244, 4, 0) := by decide +kernel
theorem c_131_65 : pg_cd 131 65 = (3, 1, 0, 3, 0) := by decide +kernel
theorem c_131_66 : pg_cd 131 66 = (1, 1, 0, 0, 0) := by decide +kernel
theorem c_131_67 : pg_cd 131 67 = (3, 2, 0, 5, 0) := by decide +kernel
theorem c_131_69 : pg_cd 131 69 = (3, 2, 0, 6, 0) := by decide +kernel
theorem c_131_71 : pg_cd 131 71 = (5, 1, 0, 2, 0) := by decide +kernel
theorem c_131_72 : pg_cd 131 72 = (43, 10, 241, 8, 0) := by decide +kernel
theorem c_131_75 : pg_cd 131 75 = (12, 1, 0, 0, 0) := by decide +kernel
theorem c_131_76 : pg_cd 131 76 = (11, 1, 0, 0, 0) := by decide +kernel
theorem c_131_77 : pg_cd 131 77 = (80, 56, 171, 0, 0) := by decide +kernel
theorem c_131_80 : pg_cd 131 80 = (5, 1, 0, 0, 0) := by decide +kernel
theorem c_131_81 : pg_cd 131 81 = (5, 1, 0, 1, 0) := by decide +kernel
theorem c_131_82 : pg_cd 131 82 = (3, 1, 0, 3, 0) := by decide +kernel
theorem c_131_83 : pg_cd 131 83 = (3, 2, 0, 4, 0) := by decide +kernel
theorem c_131_85 : pg_cd 131 85 = (3, 2, 0, 6, 0) := by decide +kernel
theorem c_131_87 : pg_cd 131 87 = (11, 1, 0, 0, 0) := by decide +kernel
theorem c_131_88 : pg_cd 131 88 = (5, 1, 0, 2, 0) := by decide +kernel
theorem c_131_89 : pg_cd 131 89 = (43, 10, 241, 8, 0) := by decide +kernel
theorem c_131_92 : pg_cd 131 92 = (80, 132, 263, 0, 0) := by decide +kernel
theorem c_131_95 : pg_cd 131 95 = (6, 2, 0, 7, 0) := by decide +kernel
theorem c_131_97 : pg_cd 131 97 = (5, 1, 0, 2, 0) := by decide +kernel
theorem c_131_98 : pg_cd 131 98 = (45, 10, 256, 5, 0) := by decide +kernel
theorem c_131_101 : pg_cd 131 101 = (3, 1, 0, 3, 0) := by decide +kernel
theorem c_131_102 : pg_cd 131 102 = (3, 2, 0, 6, 0) := by decide +kernel
theorem c_131_104 : pg_cd 131 104 = (54, 1, 0, 0, 0) := by decide +kernel
theorem c_131_105 : pg_cd 131 105 = (5, 1, 0, 2, 0) := by decide +kernel
theorem c_131_106 : pg_cd 131 106 = (45, 10, 259, 6, 0) := by decide +kernel
theorem c_131_109 : pg_cd 131 109 = (3, 1, 0, 3, 0) := by decide +kernel
theorem c_131_110 : pg_cd 131 110 = (3, 2, 0, 7, 0) := by decide +kernel
theorem c_131_112 : pg_cd 131 112 = (54, 1, 0, 0, 0) := by decide +kernel
theorem c_131_113 : pg_cd 131 113 = (5, 1, 0, 2, 0) := by decide +kernel
theorem c_131_114 : pg_cd 131 114 = (45, 10, 251, 4, 0) := by decide +kernel
theorem c_131_117 : pg_cd 131 117 = (3, 1, 0, 3, 0) := by decide +kernel
theorem c_131_118 : pg_cd 131 118 = (3, 2, 0, 4, 0) := by decide +kernel
theorem c_131_120 : pg_cd 131 120 = (3, 2, 0, 6, 0) := by decide +kernel
theorem c_131_122 : pg_cd 131 122 = (11, 1, 0, 0, 0) := by decide +kernel
theorem c_131_123 : pg_cd 131 123 = (3, 2, 0, 7, 0) := by decide +kernel
theorem c_131_125 : pg_cd 131 125 = (11, 1, 0, 0, 0) := by decide +kernel
theorem c_131_126 : pg_cd 131 126 = (54, 1, 0, 0, 0) := by decide +kernel
theorem c_131_127 : pg_cd 131 127 = (5, 1, 0, 2, 0) := by decide +kernel
theorem c_131_128 : pg_cd 131 128 = (45, 10, 251, 4, 0) := by decide +kernel
theorem c_131_131 : pg_cd 131 131 = (3, 1, 0, 3, 0) := by decide +kernel
theorem c_131_132 : pg_cd 131 132 = (50, 1, 0, 0, 0) := by decide +kernel
theorem c_131_133 : pg_cd 131 133 = (36, 3, 0, 1, 8) := by decide +kernel
theorem c_131_136 : pg_cd 131 136 = (5, 1, 0, 1, 0) := by decide +kernel
theorem c_131_137 : pg_cd 131 137 = (3, 1, 0, 3, 0) := by decide +kernel
theorem c_131_138 : pg_cd 131 138 = (81, 133, 266, 0, 0) := by decide +kernel
theorem c_131_141 : pg_cd 131 141 = (94, 0, 0, 0, 0) := by decide +kernel
theorem mi_131 : pg_mc 131 = 9 ∧ pg_na 131 = 3 ∧ pg_mx 131 = 8 := by decide +kernel
set_option maxRecDepth 20000 in
theorem u_131_0 {d : Nat} {S : zS} {σ τ : zI} {Q : zQ} {x1 : Nat} {x2 : Nat} {x3 : Int} (hx1 : tw x1) (hx2 : oB S x2) (t : (rg x3) ∧ if x3 < 0 then (wi (d + 9) 131 17 [.ref 53, .ref x1, .ref x2, .int (wI x3), .retAddr 0, .retAddr 0, .retAddr 0, .retAddr 0] [] S σ τ Q) else (if (24 : Int) ≤ x3 then (wi (d + 9) 131 17 [.ref 53, .ref x1, .ref x2, .int (wI x3), .retAddr 0, .retAddr 0, .retAddr 0, .retAddr 0] [] S σ τ Q) else (if (0 : Int) < (σ x2 8) then ((0 ≤ x3 ∧ x3 < 24) ∧ (rg ((rt_ (σ (x1 + 9) 2) (σ (x1 + 10)) 8 0 x3) + (σ (x2 + 4) x3))) ∧ ((σ x2 8) ≠ 0) ∧ (rg (Int.tdiv ((rt_ (σ (x1 + 9) 2) (σ (x1 + 10)) 8 0 x3) + (σ (x2 + 4) x3)) (σ x2 8))) ∧ (0 ≤ x3 ∧ x3 < (σ (x1 + 9) 2)) ∧ ∃ w11 : Int, wI w11 = wI (((rt_ (σ (x1 + 9) 2) (σ (x1 + 10)) 8 0 x3) + (σ (x2 + 4) x3)) - ((min (rt_ (σ (x1 + 9) 2) (σ (x1 + 10)) 8 3 x3) (Int.tdiv ((rt_ (σ (x1 + 9) 2) (σ (x1 + 10)) 8 0 x3) + (σ (x2 + 4) x3)) (σ x2 8))) * (σ x2 8))) ∧ rg w11 ∧ ∃ D015 : Int, ∃ s16 : Int, ∃ C017 : Int, ∃ E018 : Int, ∃ F019 : Int, ∃ T020 : Int, ∃ m021 : Int, (0 ≤ x3 ∧ x3 < (uc σ (x1 + 10) (u1 (σ (x1 + 10)) (x3 * 8 + 0) w11)) (x1 + 9) 2 ∧ (uc σ (x1 + 10) (u1 (σ (x1 + 10)) (x3 * 8 + 0) w11)) (x1 + 9) 2 ≤ 24) ∧ ((uc σ (x1 + 10) (u1 (σ (x1 + 10)) (x3 * 8 + 0) w11)) (x1 + 10) (x3 * 8 + 1) = D015 ∧ (uc σ (x1 + 10) (u1 (σ (x1 + 10)) (x3 * 8 + 0) w11)) (x1 + 10) (x3 * 8 + 7) = s16) ∧ (0 ≤ s16 ∧ s16 < (uc σ (x1 + 10) (u1 (σ (x1 + 10)) (x3 * 8 + 0) w11)) (x1 + 7) 2 ∧ (uc σ (x1 + 10) (u1 (σ (x1 + 10)) (x3 * 8 + 0) w11)) (x1 + 7) 2 ≤ 4) ∧ (((uc σ (x1 + 10) (u1 (σ (x1 + 10)) (x3 * 8 + 0) w11)) (x1 + 8) (s16 * 5 + 0) = C017 ∧ (uc σ (x1 + 10) (u1 (σ (x1 + 10)) (x3 * 8 + 0) w11)) (x1 + 8) (s16 * 5 + 1) = E018) ∧ (uc σ (x1 + 10) (u1 (σ (x1 + 10)) (x3 * 8 + 0) w11)) (x1 + 8) (s16 * 5 + 2) = F019 ∧ (uc σ (x1 + 10) (u1 (σ (x1 + 10)) (x3 * 8 + 0) w11)) (x1 + 8) (s16 * 5 + 3) = T020) ∧ ((0 ≤ D015 ∧ D015 ≤ 500000) ∧ (-1000 ≤ C017 ∧ C017 ≤ 500000) ∧ (-5000000 ≤ E018 ∧ E018 ≤ 5000000) ∧ (0 ≤ T020 ∧ T020 ≤ 400) ∧ (0 ≤ ((rt_ (σ (x1 + 9) 2) (σ (x1 + 10)) 8 3 x3) - (min (rt_ (σ (x1 + 9) 2) (σ (x1 + 10)) 8 3 x3) (Int.tdiv ((rt_ (σ (x1 + 9) 2) (σ (x1 + 10)) 8 0 x3) + (σ (x2 + 4) x3)) (σ x2 8)))) ∧ ((rt_ (σ (x1 + 9) 2) (σ (x1 + 10)) 8 3 x3) - (min (rt_ (σ (x1 + 9) 2) (σ (x1 + 10)) 8 3 x3) (Int.tdiv ((rt_ (σ (x1 + 9) 2) (σ (x1 + 10)) 8 0 x3) + (σ (x2 + 4) x3)) (σ x2 8)))) ≤ 240) ∧ (1 ≤ (σ x2 8) ∧ (σ x2 8) ≤ 100000) ∧ 0 ≤ (uc σ (x1 + 10) (u1 (σ (x1 + 10)) (x3 * 8 + 0) w11)) x1 8 ∧ (uc σ (x1 + 10) (u1 (σ (x1 + 10)) (x3 * 8 + 0) w11)) x1 8 ≤ 399) ∧ (zB S) ∧ (∀ w, w ≤ (uc σ (x1 + 10) (u1 (σ (x1 + 10)) (x3 * 8 + 0) w11)) x1 8 → 0 ≤ eI S (uc σ (x1 + 10) (u1 (σ (x1 + 10)) (x3 * 8 + 0) w11)) 4 w x3 ∧ eI S (uc σ (x1 + 10) (u1 (σ (x1 + 10)) (x3 * 8 + 0) w11)) 4 w x3 ≤ 500000000) ∧ (m021 = Int.tdiv (T020 * (eI S (uc σ (x1 + 10) (u1 (σ (x1 + 10)) (x3 * 8 + 0) w11)) 4 ((uc σ (x1 + 10) (u1 (σ (x1 + 10)) (x3 * 8 + 0) w11)) x1 8 - 3) x3 + eI S (uc σ (x1 + 10) (u1 (σ (x1 + 10)) (x3 * 8 + 0) w11)) 4 ((uc σ (x1 + 10) (u1 (σ (x1 + 10)) (x3 * 8 + 0) w11)) x1 8 - 2) x3 + eI S (uc σ (x1 + 10) (u1 (σ (x1 + 10)) (x3 * 8 + 0) w11)) 4 ((uc σ (x1 + 10) (u1 (σ (x1 + 10)) (x3 * 8 + 0) w11)) x1 8 - 1) x3 + eI S (uc σ (x1 + 10) (u1 (σ (x1 + 10)) (x3 * 8 + 0) w11)) 4 ((uc σ (x1 + 10) (u1 (σ (x1 + 10)) (x3 * 8 + 0) w11)) x1 8) x3)) 400) ∧ ∀ (σ130 : zI), TR_ (uc σ (x1 + 10) (u1 (σ (x1 + 10)) (x3 * 8 + 0) w11)) σ130 x1 x3 s16 C017 E018 D015 (wk_tr ((rt_ (σ (x1 + 9) 2) (σ (x1 + 10)) 8 3 x3) - (min (rt_ (σ (x1 + 9) 2) (σ (x1 + 10)) 8 3 x3) (Int.tdiv ((rt_ (σ (x1 + 9) 2) (σ (x1 + 10)) 8 0 x3) + (σ (x2 + 4) x3)) (σ x2 8)))) C017 D015 m021 (σ x2 8) F019 * (σ x2 8)) → ∃ w32 : Int, wI w32 = wI (wk_tr ((rt_ (σ (x1 + 9) 2) (σ (x1 + 10)) 8 3 x3) - (min (rt_ (σ (x1 + 9) 2) (σ (x1 + 10)) 8 3 x3) (Int.tdiv ((rt_ (σ (x1 + 9) 2) (σ (x1 + 10)) 8 0 x3) + (σ (x2 + 4) x3)) (σ x2 8)))) C017 D015 m021 (σ x2 8) F019) ∧ rg w32 ∧ ∃ w35 : Int, wI w35 = wI (((rt_ (σ (x1 + 9) 2) (σ (x1 + 10)) 8 3 x3) - (min (rt_ (σ (x1 + 9) 2) (σ (x1 + 10)) 8 3 x3) (Int.tdiv ((rt_ (σ (x1 + 9) 2) (σ (x1 + 10)) 8 0 x3) + (σ (x2 + 4) x3)) (σ x2 8)))) - (wk_tr ((rt_ (σ (x1 + 9) 2) (σ (x1 + 10)) 8 3 x3) - (min (rt_ (σ (x1 + 9) 2) (σ (x1 + 10)) 8 3 x3) (Int.tdiv ((rt_ (σ (x1 + 9) 2) (σ (x1 + 10)) 8 0 x3) + (σ (x2 + 4) x3)) (σ x2 8)))) C017 D015 m021 (σ x2 8) F019)) ∧ rg w35 ∧ if w35 = 0 then (∃ P040 : Int, ∃ D041 : Int, ∃ s42 : Int, ∃ C043 : Int, ∃ E044 : Int, (0 ≤ x3 ∧ x3 < (uc (uc (uc σ130 (x2 + 6) (u1 (σ130 (x2 + 6)) x3 (min (rt_ (σ (x1 + 9) 2) (σ (x1 + 10)) 8 3 x3) (Int.tdiv ((rt_ (σ (x1 + 9) 2) (σ (x1 + 10)) 8 0 x3) + (σ (x2 + 4) x3)) (σ x2 8))))) (x2 + 7) (u1 (σ130 (x2 + 7)) x3 w32)) (x2 + 5) (u1 (σ130 (x2 + 5)) x3 w35)) (x1 + 9) 2 ∧ (uc (uc (uc σ130 (x2 + 6) (u1 (σ130 (x2 + 6)) x3 (min (rt_ (σ (x1 + 9) 2) (σ (x1 + 10)) 8 3 x3) (Int.tdiv ((rt_ (σ (x1 + 9) 2) (σ (x1 + 10)) 8 0 x3) + (σ (x2 + 4) x3)) (σ x2 8))))) (x2 + 7) (u1 (σ130 (x2 + 7)) x3 w32)) (x2 + 5) (u1 (σ130 (x2 + 5)) x3 w35)) (x1 + 9) 2 ≤ 24) ∧ ((uc (uc (uc σ130 (x2 + 6) (u1 (σ130 (x2 + 6)) x3 (min (rt_ (σ (x1 + 9) 2) (σ (x1 + 10)) 8 3 x3) (Int.tdiv ((rt_ (σ (x1 + 9) 2) (σ (x1 + 10)) 8 0 x3) + (σ (x2 + 4) x3)) (σ x2 8))))) (x2 + 7) (u1 (σ130 (x2 + 7)) x3 w32)) (x2 + 5) (u1 (σ130 (x2 + 5)) x3 w35)) (x1 + 10) (x3 * 8 + 0) = P040 ∧ (uc (uc (uc σ130 (x2 + 6) (u1 (σ130 (x2 + 6)) x3 (min (rt_ (σ (x1 + 9) 2) (σ (x1 + 10)) 8 3 x3) (Int.tdiv ((rt_ (σ (x1 + 9) 2) (σ (x1 + 10)) 8 0 x3) + (σ (x2 + 4) x3)) (σ x2 8))))) (x2 + 7) (u1 (σ130 (x2 + 7)) x3 w32)) (x2 + 5) (u1 (σ130 (x2 + 5)) x3 w35)) (x1 + 10) (x3 * 8 + 1) = D041 ∧ (uc (uc (uc σ130 (x2 + 6) (u1 (σ130 (x2 + 6)) x3 (min (rt_ (σ (x1 + 9) 2) (σ (x1 + 10)) 8 3 x3) (Int.tdiv ((rt_ (σ (x1 + 9) 2) (σ (x1 + 10)) 8 0 x3) + (σ (x2 + 4) x3)) (σ x2 8))))) (x2 + 7) (u1 (σ130 (x2 + 7)) x3 w32)) (x2 + 5) (u1 (σ130 (x2 + 5)) x3 w35)) (x1 + 10) (x3 * 8 + 7) = s42) ∧ (0 ≤ s42 ∧ s42 < (uc (uc (uc σ130 (x2 + 6) (u1 (σ130 (x2 + 6)) x3 (min (rt_ (σ (x1 + 9) 2) (σ (x1 + 10)) 8 3 x3) (Int.tdiv ((rt_ (σ (x1 + 9) 2) (σ (x1 + 10)) 8 0 x3) + (σ (x2 + 4) x3)) (σ x2 8))))) (x2 + 7) (u1 (σ130 (x2 + 7)) x3 w32)) (x2 + 5) (u1 (σ130 (x2 + 5)) x3 w35)) (x1 + 7) 2 ∧ (uc (uc (uc σ130 (x2 + 6) (u1 (σ130 (x2 + 6)) x3 (min (rt_ (σ (x1 + 9) 2) (σ (x1 + 10)) 8 3 x3) (Int.tdiv ((rt_ (σ (x1 + 9) 2) (σ (x1 + 10)) 8 0 x3) + (σ (x2 + 4) x3)) (σ x2 8))))) (x2 + 7) (u1 (σ130 (x2 + 7)) x3 w32)) (x2 + 5) (u1 (σ130 (x2 + 5)) x3 w35)) (x1 + 7) 2 ≤ 4) ∧ ((uc (uc (uc σ130 (x2 + 6) (u1 (σ130 (x2 + 6)) x3 (min (rt_ (σ (x1 + 9) 2) (σ (x1 + 10)) 8 3 x3) (Int.tdiv ((rt_ (σ (x1 + 9) 2) (σ (x1 + 10)) 8 0 x3) + (σ (x2 + 4) x3)) (σ x2 8))))) (x2 + 7) (u1 (σ130 (x2 + 7)) x3 w32)) (x2 + 5) (u1 (σ130 (x2 + 5)) x3 w35)) (x1 + 8) (s42 * 5 + 0) = C043 ∧ (uc (uc (uc σ130 (x2 + 6) (u1 (σ130 (x2 + 6)) x3 (min (rt_ (σ (x1 + 9) 2) (σ (x1 + 10)) 8 3 x3) (Int.tdiv ((rt_ (σ (x1 + 9) 2) (σ (x1 + 10)) 8 0 x3) + (σ (x2 + 4) x3)) (σ x2 8))))) (x2 + 7) (u1 (σ130 (x2 + 7)) x3 w32)) (x2 + 5) (u1 (σ130 (x2 + 5)) x3 w35)) (x1 + 8) (s42 * 5 + 1) = E044) ∧ ((0 ≤ P040 ∧ P040 ≤ 2000000000) ∧ (0 ≤ D041 ∧ D041 ≤ 500000) ∧ (-1000 ≤ C043 ∧ C043 ≤ 500000) ∧ -5000000 ≤ E044 ∧ E044 ≤ 5000000) ∧ Q none S (uc (uc (uc (uc (uc σ130 (x2 + 6) (u1 (σ130 (x2 + 6)) x3 (min (rt_ (σ (x1 + 9) 2) (σ (x1 + 10)) 8 3 x3) (Int.tdiv ((rt_ (σ (x1 + 9) 2) (σ (x1 + 10)) 8 0 x3) + (σ (x2 + 4) x3)) (σ x2 8))))) (x2 + 7) (u1 (σ130 (x2 + 7)) x3 w32)) (x2 + 5) (u1 (σ130 (x2 + 5)) x3 w35)) (x1 + 10) (u1 (u1 ((uc (uc (uc σ130 (x2 + 6) (u1 (σ130 (x2 + 6)) x3 (min (rt_ (σ (x1 + 9) 2) (σ (x1 + 10)) 8 3 x3) (Int.tdiv ((rt_ (σ (x1 + 9) 2) (σ (x1 + 10)) 8 0 x3) + (σ (x2 + 4) x3)) (σ x2 8))))) (x2 + 7) (u1 (σ130 (x2 + 7)) x3 w32)) (x2 + 5) (u1 (σ130 (x2 + 5)) x3 w35)) (x1 + 10)) (x3 * 8 + 0) (P040 - min P040 D041)) (x3 * 8 + 1) (D041 - min P040 D041))) (x1 + 8) (u1 (u1 ((uc (uc (uc σ130 (x2 + 6) (u1 (σ130 (x2 + 6)) x3 (min (rt_ (σ (x1 + 9) 2) (σ (x1 + 10)) 8 3 x3) (Int.tdiv ((rt_ (σ (x1 + 9) 2) (σ (x1 + 10)) 8 0 x3) + (σ (x2 + 4) x3)) (σ x2 8))))) (x2 + 7) (u1 (σ130 (x2 + 7)) x3 w32)) (x2 + 5) (u1 (σ130 (x2 + 5)) x3 w35)) (x1 + 8)) (s42 * 5 + 1) (E044 - min P040 D041)) (s42 * 5 + 0) (C043 + min P040 D041))) τ) else (Q none S (uc (uc (uc σ130 (x2 + 6) (u1 (σ130 (x2 + 6)) x3 (min (rt_ (σ (x1 + 9) 2) (σ (x1 + 10)) 8 3 x3) (Int.tdiv ((rt_ (σ (x1 + 9) 2) (σ (x1 + 10)) 8 0 x3) + (σ (x2 + 4) x3)) (σ x2 8))))) (x2 + 7) (u1 (σ130 (x2 + 7)) x3 w32)) (x2 + 5) (u1 (σ130 (x2 + 5)) x3 w35)) τ)) else (wi (d + 9) 131 17 [.ref 53, .ref x1, .ref x2, .int (wI x3), .retAddr 0, .retAddr 0, .retAddr 0, .retAddr 0] [] S σ τ Q)))) : wi (d + 9) 131 0 [.ref 53, .ref x1, .ref x2, .int (wI x3), .retAddr 0, .retAddr 0, .retAddr 0, .retAddr 0] [] S σ τ Q := by
  obtain ⟨r1, t⟩ := t
  refine i3 c_131_0 rfl ?_
  refine i36 c_131_1 r1 rfl (fun hc => ?_) (fun hc => ?_)
  · have t := iT t hc
    have ha2 : x3 < 0 := hc
    exact t
  · have t := iF t hc
    have ha2 : ¬ (x3 < 0) := hc
    refine i3 c_131_4 rfl (i1 c_131_5 ?_)
    refine i37 c_131_7 r1 (by decide) rfl (fun hc => ?_) (fun hc => ?_)
    · have t := iT t hc
      have ha3 : (24 : Int) ≤ x3 := hc
      exact t
    · have t := iF t hc
      have ha3 : ¬ ((24 : Int) ≤ x3) := hc
      refine i5 c_131_10 rfl (wi_ok (fun K4 => ?_))
      refine i43 (v := σ x2 8) c_131_11 (fun _ => oB_0 hx2) rfl ?_
      refine i36 c_131_14 (rge_ K4 rfl) rfl (fun hc => ?_) (fun hc => ?_)
      · have t := iT t hc
        have ha5 : (0 : Int) < (σ x2 8) := hc
        refine i5 c_131_18 rfl (i45 c_131_19 (lo (lyt_0 hx1) (by have := tw_b hx1; omega)) (lro (lrt_4 hx1)) (i3 c_131_22 rfl (i1 c_131_23 ?_)))
        refine i80 (As := [.int (wI x3), .int (wI 3)]) (rest := []) c_131_24 mi_55 rfl rfl (Nat.le_of_ble_eq_true rfl) (Nat.le_of_ble_eq_true rfl) (lo (lyt_9 hx1) (by have := tw_b hx1; omega)) (q_at (ow_homes hx1) r1 (by decide) ?_)
        show wi (d + 9) 131 27 [.ref 53, .ref x1, .ref x2, .int (wI x3), .retAddr 0, .retAddr 0, .retAddr 0, .retAddr 0] [.int (wI (rt_ (σ (x1 + 9) 2) (σ (x1 + 10)) 8 3 x3))] S σ τ Q
        refine i6 (L' := [.ref 53, .ref x1, .ref x2, .int (wI x3), .int (wI (rt_ (σ (x1 + 9) 2) (σ (x1 + 10)) 8 3 x3)), .retAddr 0, .retAddr 0, .retAddr 0]) c_131_27 rfl (i5 c_131_29 rfl (i45 c_131_30 (lo (lyt_0 hx1) (by have := tw_b hx1; omega)) (lro (lrt_4 hx1)) (i3 c_131_33 rfl (i1 c_131_34 ?_))))
        refine i80 (As := [.int (wI x3), .int (wI 0)]) (rest := []) c_131_35 mi_55 rfl rfl (Nat.le_of_ble_eq_true rfl) (Nat.le_of_ble_eq_true rfl) (lo (lyt_9 hx1) (by have := tw_b hx1; omega)) (q_at (ow_homes hx1) r1 (by decide) ?_)
        show wi (d + 9) 131 38 [.ref 53, .ref x1, .ref x2, .int (wI x3), .int (wI (rt_ (σ (x1 + 9) 2) (σ (x1 + 10)) 8 3 x3)), .retAddr 0, .retAddr 0, .retAddr 0] [.int (wI (rt_ (σ (x1 + 9) 2) (σ (x1 + 10)) 8 0 x3))] S σ τ Q
        obtain ⟨r6, t⟩ := t
        obtain ⟨r7, t⟩ := t
        obtain ⟨y8, t⟩ := t
        obtain ⟨r9, t⟩ := t
        obtain ⟨b10, t⟩ := t
        obtain ⟨w11, e12, r13, t⟩ := t
        refine i5 c_131_38 rfl (i45 c_131_39 (fun _ => oB_0 hx2) (fun _ => oB_r3 hx2) (i3 c_131_42 rfl (i50 (v := σ (x2 + 4) x3) c_131_43 (fun _ => oB_4 hx2) (by decide) r6 rfl (i10 c_131_44 (i6 (L' := [.ref 53, .ref x1, .ref x2, .int (wI x3), .int (wI (rt_ (σ (x1 + 9) 2) (σ (x1 + 10)) 8 3 x3)), .int (wI ((rt_ (σ (x1 + 9) 2) (σ (x1 + 10)) 8 0 x3) + (σ (x2 + 4) x3))), .retAddr 0, .retAddr 0]) c_131_45 rfl (i3 c_131_47 rfl (i3 c_131_49 rfl (i5 c_131_51 rfl (i43 (v := σ x2 8) c_131_52 (fun _ => oB_0 hx2) rfl (i16 c_131_55 r7 (rge_ K4 rfl) y8 (i74 c_131_56 (Nat.le_of_ble_eq_true rfl) (by omega) (rg_rt_ (fun k => kO_r K4 _ k) _ _ _ _) r9 (i6 (L' := [.ref 53, .ref x1, .ref x2, .int (wI x3), .int (wI (rt_ (σ (x1 + 9) 2) (σ (x1 + 10)) 8 3 x3)), .int (wI ((rt_ (σ (x1 + 9) 2) (σ (x1 + 10)) 8 0 x3) + (σ (x2 + 4) x3))), .int (wI (min (rt_ (σ (x1 + 9) 2) (σ (x1 + 10)) 8 3 x3) (Int.tdiv ((rt_ (σ (x1 + 9) 2) (σ (x1 + 10)) 8 0 x3) + (σ (x2 + 4) x3)) (σ x2 8)))), .retAddr 0]) c_131_59 rfl (i5 c_131_61 rfl (i45 c_131_62 (lo (lyt_0 hx1) (by have := tw_b hx1; omega)) (lro (lrt_4 hx1)) (i3 c_131_65 rfl (i1 c_131_66 (i3 c_131_67 rfl (i3 c_131_69 rfl (i5 c_131_71 rfl (i43 (v := σ x2 8) c_131_72 (fun _ => oB_0 hx2) rfl (i12 c_131_75 (i11 c_131_76 ?_))))))))))))))))))))))
        refine i80 (As := [.int (wI x3), .int (wI 0), .int (wI (((rt_ (σ (x1 + 9) 2) (σ (x1 + 10)) 8 0 x3) + (σ (x2 + 4) x3)) - ((min (rt_ (σ (x1 + 9) 2) (σ (x1 + 10)) 8 3 x3) (Int.tdiv ((rt_ (σ (x1 + 9) 2) (σ (x1 + 10)) 8 0 x3) + (σ (x2 + 4) x3)) (σ x2 8))) * (σ x2 8))))]) (rest := []) c_131_77 mi_56 rfl rfl (Nat.le_of_ble_eq_true rfl) (Nat.le_of_ble_eq_true rfl) (lo (lyt_9 hx1) (by have := tw_b hx1; omega)) (q_put (v2 := w11) (ow_homes hx1) r1 b10 (by decide) e12 r13 ?_)
        show wi (d + 9) 131 80 [.ref 53, .ref x1, .ref x2, .int (wI x3), .int (wI (rt_ (σ (x1 + 9) 2) (σ (x1 + 10)) 8 3 x3)), .int (wI ((rt_ (σ (x1 + 9) 2) (σ (x1 + 10)) 8 0 x3) + (σ (x2 + 4) x3))), .int (wI (min (rt_ (σ (x1 + 9) 2) (σ (x1 + 10)) 8 3 x3) (Int.tdiv ((rt_ (σ (x1 + 9) 2) (σ (x1 + 10)) 8 0 x3) + (σ (x2 + 4) x3)) (σ x2 8)))), .retAddr 0] [] S (uc σ (x1 + 10) (u1 (σ (x1 + 10)) (x3 * 8 + 0) w11)) τ Q
        refine i5 c_131_80 rfl (i5 c_131_81 rfl (i3 c_131_82 rfl (i3 c_131_83 rfl (i3 c_131_85 rfl (i11 c_131_87 (i5 c_131_88 rfl (wi_ok (fun K14 => ?_))))))))
        obtain ⟨D015, t⟩ := t
        obtain ⟨s16, t⟩ := t
        obtain ⟨C017, t⟩ := t
        obtain ⟨E018, t⟩ := t
        obtain ⟨F019, t⟩ := t
        obtain ⟨T020, t⟩ := t
        obtain ⟨m021, t⟩ := t
        obtain ⟨p22, t⟩ := t
        obtain ⟨p23, t⟩ := t
        obtain ⟨p24, t⟩ := t
        obtain ⟨p25, t⟩ := t
        obtain ⟨p26, t⟩ := t
        obtain ⟨p27, t⟩ := t
        obtain ⟨p28, t⟩ := t
        obtain ⟨p29, t⟩ := t
        refine i43 (v := σ x2 8) c_131_89 (fun _ => oB_0 hx2) (congrFun (uc_ns rfl (by have := oB_b hx2; have := tw_b hx1; omega)) _) ?_
        refine i80 (As := [.ref x1, .int (wI x3), .int (wI ((rt_ (σ (x1 + 9) 2) (σ (x1 + 10)) 8 3 x3) - (min (rt_ (σ (x1 + 9) 2) (σ (x1 + 10)) 8 3 x3) (Int.tdiv ((rt_ (σ (x1 + 9) 2) (σ (x1 + 10)) 8 0 x3) + (σ (x2 + 4) x3)) (σ x2 8))))), .int (wI (σ x2 8))]) (rest := []) c_131_92 mi_132 rfl rfl (Nat.le_of_ble_eq_true rfl) (Nat.le_of_ble_eq_true rfl) (lo (c := 53) (kd := 109) (n := 0) rfl (by decide)) (q_132 (D0 := D015) (s := s16) (C0 := C017) (E0 := E018) (F0 := F019) (T0 := T020) (m0 := m021) hx1 p22 p23 p24 p25 p26 p27 p28 p29 (fun σ130 q31 => ?_))
        have t := t σ130 q31
        show wi (d + 9) 131 95 [.ref 53, .ref x1, .ref x2, .int (wI x3), .int (wI (rt_ (σ (x1 + 9) 2) (σ (x1 + 10)) 8 3 x3)), .int (wI ((rt_ (σ (x1 + 9) 2) (σ (x1 + 10)) 8 0 x3) + (σ (x2 + 4) x3))), .int (wI (min (rt_ (σ (x1 + 9) 2) (σ (x1 + 10)) 8 3 x3) (Int.tdiv ((rt_ (σ (x1 + 9) 2) (σ (x1 + 10)) 8 0 x3) + (σ (x2 + 4) x3)) (σ x2 8)))), .retAddr 0] [.int (wI (wk_tr ((rt_ (σ (x1 + 9) 2) (σ (x1 + 10)) 8 3 x3) - (min (rt_ (σ (x1 + 9) 2) (σ (x1 + 10)) 8 3 x3) (Int.tdiv ((rt_ (σ (x1 + 9) 2) (σ (x1 + 10)) 8 0 x3) + (σ (x2 + 4) x3)) (σ x2 8)))) C017 D015 m021 (σ x2 8) F019))] S σ130 τ Q
        obtain ⟨w32, e33, r34, t⟩ := t
        obtain ⟨w35, e36, r37, t⟩ := t
        refine i6 (L' := [.ref 53, .ref x1, .ref x2, .int (wI x3), .int (wI (rt_ (σ (x1 + 9) 2) (σ (x1 + 10)) 8 3 x3)), .int (wI ((rt_ (σ (x1 + 9) 2) (σ (x1 + 10)) 8 0 x3) + (σ (x2 + 4) x3))), .int (wI (min (rt_ (σ (x1 + 9) 2) (σ (x1 + 10)) 8 3 x3) (Int.tdiv ((rt_ (σ (x1 + 9) 2) (σ (x1 + 10)) 8 0 x3) + (σ (x2 + 4) x3)) (σ x2 8)))), .int (wI (wk_tr ((rt_ (σ (x1 + 9) 2) (σ (x1 + 10)) 8 3 x3) - (min (rt_ (σ (x1 + 9) 2) (σ (x1 + 10)) 8 3 x3) (Int.tdiv ((rt_ (σ (x1 + 9) 2) (σ (x1 + 10)) 8 0 x3) + (σ (x2 + 4) x3)) (σ x2 8)))) C017 D015 m021 (σ x2 8) F019))]) c_131_95 rfl (i5 c_131_97 rfl (i45 c_131_98 (fun _ => oB_0 hx2) (fun _ => oB_r5 hx2) (i3 c_131_101 rfl (i3 c_131_102 rfl (i54 (σ1 := uc σ130 (x2 + 6) (u1 (σ130 (x2 + 6)) x3 (min (rt_ (σ (x1 + 9) 2) (σ (x1 + 10)) 8 3 x3) (Int.tdiv ((rt_ (σ (x1 + 9) 2) (σ (x1 + 10)) 8 0 x3) + (σ (x2 + 4) x3)) (σ x2 8))))) c_131_104 (fun _ => oB_6 hx2) (by decide) r6 (isR_b (by have := oB_b hx2; omega)) rfl (min_i (rg_rt_ (fun k => kO_r K4 _ k) _ _ _ _) r9) (wr_ rfl rfl) (i5 c_131_105 rfl (i45 c_131_106 (fun _ => oB_0 hx2) (fun _ => oB_r6 hx2) (i3 c_131_109 rfl (i3 c_131_110 rfl (i54 (σ1 := uc (uc σ130 (x2 + 6) (u1 (σ130 (x2 + 6)) x3 (min (rt_ (σ (x1 + 9) 2) (σ (x1 + 10)) 8 3 x3) (Int.tdiv ((rt_ (σ (x1 + 9) 2) (σ (x1 + 10)) 8 0 x3) + (σ (x2 + 4) x3)) (σ x2 8))))) (x2 + 7) (u1 (σ130 (x2 + 7)) x3 w32)) c_131_112 (fun _ => oB_7 hx2) (by decide) r6 (isR_b (by have := oB_b hx2; omega)) e33 r34 (wr_ (uc_ns rfl (by have := oB_b hx2; have := oB_b hx2; omega)) rfl) (i5 c_131_113 rfl (i45 c_131_114 (fun _ => oB_0 hx2) (fun _ => oB_r4 hx2) (i3 c_131_117 rfl (i3 c_131_118 rfl (i3 c_131_120 rfl (i11 c_131_122 (i3 c_131_123 rfl (i11 c_131_125 (i54 (σ1 := uc (uc (uc σ130 (x2 + 6) (u1 (σ130 (x2 + 6)) x3 (min (rt_ (σ (x1 + 9) 2) (σ (x1 + 10)) 8 3 x3) (Int.tdiv ((rt_ (σ (x1 + 9) 2) (σ (x1 + 10)) 8 0 x3) + (σ (x2 + 4) x3)) (σ x2 8))))) (x2 + 7) (u1 (σ130 (x2 + 7)) x3 w32)) (x2 + 5) (u1 (σ130 (x2 + 5)) x3 w35)) c_131_126 (fun _ => oB_5 hx2) (by decide) r6 (isR_b (by have := oB_b hx2; omega)) e36 r37 (wr_ (uc_ns (uc_ns rfl (by have := oB_b hx2; have := oB_b hx2; omega)) (by have := oB_b hx2; have := oB_b hx2; omega)) rfl) (i5 c_131_127 rfl (i45 c_131_128 (fun _ => oB_0 hx2) (fun _ => oB_r4 hx2) (i3 c_131_131 rfl (wi_ok (fun K38 => ?_))))))))))))))))))))))))
        refine i50 (v := w35) c_131_132 (fun _ => oB_5 hx2) (by decide) r6 ((congrFun (uc_s _ _ _) _).trans (u1_s _ _ _)) ?_
        refine i36 c_131_133 r37 rfl (fun hc => ?_) (fun hc => ?_)
        · have t := iF t hc
          have ha39 : ¬ (w35 = 0) := hc
          exact i94 c_131_141 t
        · have t := iT t (Decidable.not_not.mp hc)
          have ha39 : w35 = 0 := Decidable.not_not.mp hc
          obtain ⟨P040, t⟩ := t
          obtain ⟨D041, t⟩ := t
          obtain ⟨s42, t⟩ := t
          obtain ⟨C043, t⟩ := t
          obtain ⟨E044, t⟩ := t
          obtain ⟨p45, t⟩ := t
          obtain ⟨p46, t⟩ := t
          obtain ⟨p47, t⟩ := t
          obtain ⟨p48, t⟩ := t
          obtain ⟨p49, t⟩ := t
          refine i5 c_131_136 rfl (i3 c_131_137 rfl ?_)
          refine i81 (As := [.ref x1, .int (wI x3)]) (rest := []) c_131_138 mi_133 rfl rfl (Nat.le_of_ble_eq_true rfl) (Nat.le_of_ble_eq_true rfl) (q_133 (P0 := P040) (D0 := D041) (s := s42) (C0 := C043) (E0 := E044) hx1 p45 p46 p47 p48 p49 ?_)
          show wi (d + 9) 131 141 [.ref 53, .ref x1, .ref x2, .int (wI x3), .int (wI (rt_ (σ (x1 + 9) 2) (σ (x1 + 10)) 8 3 x3)), .int (wI ((rt_ (σ (x1 + 9) 2) (σ (x1 + 10)) 8 0 x3) + (σ (x2 + 4) x3))), .int (wI (min (rt_ (σ (x1 + 9) 2) (σ (x1 + 10)) 8 3 x3) (Int.tdiv ((rt_ (σ (x1 + 9) 2) (σ (x1 + 10)) 8 0 x3) + (σ (x2 + 4) x3)) (σ x2 8)))), .int (wI (wk_tr ((rt_ (σ (x1 + 9) 2) (σ (x1 + 10)) 8 3 x3) - (min (rt_ (σ (x1 + 9) 2) (σ (x1 + 10)) 8 3 x3) (Int.tdiv ((rt_ (σ (x1 + 9) 2) (σ (x1 + 10)) 8 0 x3) + (σ (x2 + 4) x3)) (σ x2 8)))) C017 D015 m021 (σ x2 8) F019))] [] S (uc (uc (uc (uc (uc σ130 (x2 + 6) (u1 (σ130 (x2 + 6)) x3 (min (rt_ (σ (x1 + 9) 2) (σ (x1 + 10)) 8 3 x3) (Int.tdiv ((rt_ (σ (x1 + 9) 2) (σ (x1 + 10)) 8 0 x3) + (σ (x2 + 4) x3)) (σ x2 8))))) (x2 + 7) (u1 (σ130 (x2 + 7)) x3 w32)) (x2 + 5) (u1 (σ130 (x2 + 5)) x3 w35)) (x1 + 10) (u1 (u1 ((uc (uc (uc σ130 (x2 + 6) (u1 (σ130 (x2 + 6)) x3 (min (rt_ (σ (x1 + 9) 2) (σ (x1 + 10)) 8 3 x3) (Int.tdiv ((rt_ (σ (x1 + 9) 2) (σ (x1 + 10)) 8 0 x3) + (σ (x2 + 4) x3)) (σ x2 8))))) (x2 + 7) (u1 (σ130 (x2 + 7)) x3 w32)) (x2 + 5) (u1 (σ130 (x2 + 5)) x3 w35)) (x1 + 10)) (x3 * 8 + 0) (P040 - min P040 D041)) (x3 * 8 + 1) (D041 - min P040 D041))) (x1 + 8) (u1 (u1 ((uc (uc (uc σ130 (x2 + 6) (u1 (σ130 (x2 + 6)) x3 (min (rt_ (σ (x1 + 9) 2) (σ (x1 + 10)) 8 3 x3) (Int.tdiv ((rt_ (σ (x1 + 9) 2) (σ (x1 + 10)) 8 0 x3) + (σ (x2 + 4) x3)) (σ x2 8))))) (x2 + 7) (u1 (σ130 (x2 + 7)) x3 w32)) (x2 + 5) (u1 (σ130 (x2 + 5)) x3 w35)) (x1 + 8)) (s42 * 5 + 1) (E044 - min P040 D041)) (s42 * 5 + 0) (C043 + min P040 D041))) τ Q
          exact i94 c_131_141 t
      · have t := iF t hc
        have ha5 : ¬ ((0 : Int) < (σ x2 8)) := hc
        exact t
set_option maxRecDepth 20000 in
theorem u_131_17 {d : Nat} {S : zS} {σ τ : zI} {Q : zQ} {x1 : Nat} {x2 : Nat} {x3 : Int} {y4 : Value} {y5 : Value} {y6 : Value} {y7 : Value} (hx1 : tw x1) (hx2 : oB S x2) (t : Q none S σ τ) : wi (d + 9) 131 17 [.ref 53, .ref x1, .ref x2, .int (wI x3), y4, y5, y6, y7] [] S σ τ Q := by
  exact i94 c_131_17 t
theorem q_131 {d : Nat} {S : zS} {σ τ : zI} {Q : zQ} {tn : Nat} {y : Nat} {h : Int} {b : Int → Int} {L : Int} (htn : tw tn) (hy : oB S y) (p0 : CH σ tn b) (p1 : HP b L h) (p2 : 0 ≤ h ∧ h < b 3 ∧ b 3 ≤ 24) (p3 : hg_s b h < b 2 ∧ b 2 ≤ 4) (p4 : σ y 8 = L) (p5 : σ (y + 4) h = hg_e b h (b 4)) (p6 : zB S) (p7 : (∀ w, w < b 0 → eI S σ 4 w h = el1 b h w) ∧ eI S σ 4 (b 0) h = hg_e b h (b 4)) (p8 : -100000 ≤ r_debts b (hg_s b h) ∧ r_debts b (hg_s b h) ≤ 200000) (t : ∀ (σ1 : zI), (∀ c, c ≠ tn + 8 → c ≠ tn + 10 → c ≠ y + 5 → c ≠ y + 6 → c ≠ y + 7 → σ1 c = σ c) → CH σ1 tn (r_hg b L h) → (∀ k, k ≠ h * 8 + 0 → k ≠ h * 8 + 1 → σ1 (tn + 10) k = σ (tn + 10) k) → σ1 (y + 5) = u1 (σ (y + 5)) h (r_need b h - hg_N b L h) ∧ σ1 (y + 6) = u1 (σ (y + 6)) h (hg_n b L h) ∧ σ1 (y + 7) = u1 (σ (y + 7)) h (hg_k b L h) → Q none S σ1 τ) : wc (d + 9) 131 [.ref 53, .ref tn, .ref y, .int (wI h)] S σ τ Q := by
  have tb := tw_b htn
  have yb := oB_b hy
  have B := HP_b p1
  have cs := p0
  obtain ⟨c0, ⟨c1, c2⟩, c3, c4⟩ := p0
  have H := p1
  obtain ⟨h0, he, ⟨hs, hp, hd⟩, hc, hk⟩ := p1
  have qs := c2 (hg_s b h) hs.1 p3.1
  have qh := c4 h p2.1 p2.2.1
  have e0 : rt_ (σ (tn + 9) 2) (σ (tn + 10)) 8 0 h = b (3460 + 8 * h + 1) := by rw [c3, rt_p ⟨p2.1, p2.2.1⟩]; exact qh.1
  have e3 : rt_ (σ (tn + 9) 2) (σ (tn + 10)) 8 3 h = r_need b h := by rw [c3, rt_p ⟨p2.1, p2.2.1⟩]; exact qh.2.2.2.1
  have eP : b (3460 + 8 * h + 1) + hg_e b h (b 4) = hg_P1 b h := rfl
  have en : min (r_need b h) ((hg_P1 b h).tdiv L) = hg_n b L h := by unfold hg_n; split <;> omega
  have dP : hg_P2 b L h = hg_P1 b h - hg_n b L h * L := rfl
  have dD : hg_D2 b L h = b (3460 + 8 * h + 2) + hg_k b L h * L := rfl
  have dC : hg_C2 b L h = b (3428 + 8 * hg_s b h) - hg_k b L h * L := rfl
  have dN : hg_N b L h = hg_n b L h + hg_k b L h := rfl
  have e7 : σ (tn + 10) (h * 8 + 7) = hg_s b h := qh.2.2.2.2
  refine wc_of mi_131 rfl (u_131_0 htn hy ?_)
  rw [e0, e3, p4, p5, eP, en]
  have E : ∀ σ' : zI, (∀ c, 100 ≤ c → σ' c = σ c) → ∀ w, eI S σ' 4 w h = eI S σ 4 w h := fun σ' f w => eI_c p6 f
  have el0 : ∀ w, w ≤ b 0 → 0 ≤ eI S σ 4 w h ∧ eI S σ 4 w h ≤ 500000000 := fun w hw => by
    by_cases x : w = b 0
    · rw [x, p7.2]; have := he (b 4) (by omega) (by omega); omega
    · rw [p7.1 w (by omega)]
      unfold el1
      split
      · next c => exact hk w c (by omega)
      · omega
  have fc : ∀ c, 100 ≤ c → uc σ (tn + 10) (u1 (σ (tn + 10)) (h * 8 + 0) (hg_P2 b L h)) c = σ c := fun c hc => uc_n (by omega)
  have m4 : hg_mo b h = Int.tdiv (b (3428 + 8 * hg_s b h + 1) * (eI S σ 4 (b 0 - 3) h + eI S σ 4 (b 0 - 2) h + eI S σ 4 (b 0 - 1) h + eI S σ 4 (b 0) h)) 400 := by
    rw [p7.2, p7.1 (b 0 - 3) (by omega), p7.1 (b 0 - 2) (by omega), p7.1 (b 0 - 1) (by omega)]; rfl
  refine ⟨by omega, ifI (fun e => by omega) (fun e => ifI (fun e => by omega) (fun e => ifI (fun e => ⟨by omega, by omega, by omega, by omega, by omega, hg_P2 b L h, rfl, by omega, b (3460 + 8 * h + 2), hg_s b h, b (3428 + 8 * hg_s b h), r_debts b (hg_s b h), b (3428 + 8 * hg_s b h + 3), b (3428 + 8 * hg_s b h + 1), hg_mo b h, ?_, ?_, ?_, ?_, ?_, p6, ?_, ?_, fun σ1 TR => ?_⟩) (fun e => by omega)))⟩
  · rw [uc_n (by omega), c3]; omega
  · rw [uc_s, u1_n (by omega), u1_n (by omega)]; exact ⟨qh.2.1, e7⟩
  · rw [uc_n (by omega), c1]; omega
  · rw [uc_n (by omega)]; exact ⟨⟨qs.1, qs.2.1⟩, qs.2.2.1, qs.2.2.2.1⟩
  · rw [uc_n (by omega), c0]; omega
  · intro w hw
    rw [uc_n (by omega), c0] at hw
    rw [E _ fc]; exact el0 w hw
  · rw [uc_n (by omega), c0, E _ fc, E _ fc, E _ fc, E _ fc]; exact m4
  obtain ⟨f, r1, ⟨r2, r3⟩, r4, r5⟩ := TR
  have ek : wk_tr (r_need b h - hg_n b L h) (b (3428 + 8 * hg_s b h)) (b (3460 + 8 * h + 2)) (hg_mo b h) L (b (3428 + 8 * hg_s b h + 3)) = hg_k b L h := rfl
  rw [ek] at r2 r3 r5
  rw [ek]
  have f' : ∀ c, c ≠ tn + 8 → c ≠ tn + 10 → σ1 c = σ c := fun c h1 h2 => by rw [f c h1 h2, uc_n h2]
  rw [uc_n (by omega)] at r1
  rw [uc_s] at r4
  have g0 : σ1 (tn + 10) (h * 8 + 0) = hg_P2 b L h := by rw [r4 _ (by omega), u1_s]
  have g7 : σ1 (tn + 10) (h * 8 + 7) = hg_s b h := by rw [r4 _ (by omega), u1_n (by omega)]; exact e7
  have gk : ∀ k, k ≠ h * 8 + 0 → k ≠ h * 8 + 1 → σ1 (tn + 10) k = σ (tn + 10) k := fun k k1 k2 => by rw [r4 k k2, u1_n k1]
  refine ⟨hg_k b L h, rfl, by omega, r_need b h - hg_n b L h - hg_k b L h, rfl, by omega, ifI (fun e5 => ?_) (fun e5 => ?_)⟩
  · have bk : min (hg_P2 b L h) (hg_D2 b L h) = hg_bk b L h := by
      unfold hg_bk
      rw [if_pos (by omega)]
      split <;> omega
    refine ⟨hg_P2 b L h, hg_D2 b L h, hg_s b h, hg_C2 b L h, r_debts b (hg_s b h) + hg_k b L h * L, ?_, ?_, ?_, ?_, by omega, ?_⟩
    · rw [uc_n (by omega), uc_n (by omega), uc_n (by omega), f' _ (by omega) (by omega), c3]; omega
    · rw [uc_n (by omega), uc_n (by omega), uc_n (by omega)]; exact ⟨g0, by rw [r5]; rfl, g7⟩
    · rw [uc_n (by omega), uc_n (by omega), uc_n (by omega), f' _ (by omega) (by omega), c1]; omega
    · rw [uc_n (by omega), uc_n (by omega), uc_n (by omega)]; exact ⟨by rw [r2]; rfl, r3⟩
    rw [bk]
    refine t _ (fun c h1 h2 h3 h4 h5 => ?_) (CH_hg H cs p2 p3 ?_ ?_ ?_ (fun k k1 k2 => ?_) ?_ ?_ (fun k k1 k2 => ?_) ?_ ?_) (fun k k1 k2 => ?_) ⟨?_, ?_, ?_⟩
    · rw [uc_n h1, uc_n h2, uc_n h3, uc_n h5, uc_n h4]; exact f' c h1 h2
    · rw [uc_n (by omega), uc_n (by omega), uc_n (by omega), uc_n (by omega), uc_n (by omega)]; exact f' _ (by omega) (by omega)
    · rw [uc_n (by omega), uc_n (by omega), uc_n (by omega), uc_n (by omega), uc_n (by omega)]; exact f' _ (by omega) (by omega)
    · rw [uc_n (by omega), uc_n (by omega), uc_n (by omega), uc_n (by omega), uc_n (by omega)]; exact f' _ (by omega) (by omega)
    · rw [uc_s, u1_n k1, u1_n k2, uc_n (by omega), uc_n (by omega), uc_n (by omega)]; exact r1 k k1 k2
    · rw [uc_s, u1_s]
    · rw [uc_s, u1_n (by omega), u1_s]; omega
    · rw [uc_n (by omega), uc_s, u1_n k2, u1_n k1, uc_n (by omega), uc_n (by omega), uc_n (by omega)]; exact gk k k1 k2
    · rw [uc_n (by omega), uc_s, u1_n (by omega), u1_s]
    · rw [uc_n (by omega), uc_s, u1_s]
    · rw [uc_n (by omega), uc_s, u1_n k2, u1_n k1, uc_n (by omega), uc_n (by omega), uc_n (by omega)]; exact gk k k1 k2
    · rw [uc_n (by omega), uc_n (by omega), uc_s, f' _ (by omega) (by omega), show r_need b h - hg_n b L h - hg_k b L h = r_need b h - hg_N b L h by omega]
    · rw [uc_n (by omega), uc_n (by omega), uc_n (by omega), uc_n (by omega), uc_s, f' _ (by omega) (by omega)]
    · rw [uc_n (by omega), uc_n (by omega), uc_n (by omega), uc_s, f' _ (by omega) (by omega)]
  · have bk : hg_bk b L h = 0 := by
      unfold hg_bk
      rw [if_neg (by omega)]
    refine t _ (fun c h1 h2 h3 h4 h5 => ?_) (CH_hg H cs p2 p3 ?_ ?_ ?_ (fun k k1 k2 => ?_) ?_ ?_ (fun k k1 k2 => ?_) ?_ ?_) (fun k k1 k2 => ?_) ⟨?_, ?_, ?_⟩
    · rw [uc_n h3, uc_n h5, uc_n h4]; exact f' c h1 h2
    · rw [uc_n (by omega), uc_n (by omega), uc_n (by omega)]; exact f' _ (by omega) (by omega)
    · rw [uc_n (by omega), uc_n (by omega), uc_n (by omega)]; exact f' _ (by omega) (by omega)
    · rw [uc_n (by omega), uc_n (by omega), uc_n (by omega)]; exact f' _ (by omega) (by omega)
    · rw [uc_n (by omega), uc_n (by omega), uc_n (by omega)]; exact r1 k k1 k2
    · rw [uc_n (by omega), uc_n (by omega), uc_n (by omega), bk, r2]; omega
    · rw [uc_n (by omega), uc_n (by omega), uc_n (by omega), bk, r3]; omega
    · rw [uc_n (by omega), uc_n (by omega), uc_n (by omega)]; exact gk k k1 k2
    · rw [uc_n (by omega), uc_n (by omega), uc_n (by omega), bk, g0]; omega
    · rw [uc_n (by omega), uc_n (by omega), uc_n (by omega), bk, r5]; omega
    · rw [uc_n (by omega), uc_n (by omega), uc_n (by omega)]; exact gk k k1 k2
    · rw [uc_s, f' _ (by omega) (by omega), show r_need b h - hg_n b L h - hg_k b L h = r_need b h - hg_N b L h by omega]
    · rw [uc_n (by omega), uc_n (by omega), uc_s, f' _ (by omega) (by omega)]
    · rw [uc_n (by omega), uc_s, f' _ (by omega) (by omega)]
