/-! ===== the class: persons come (segments printed by wip/whole, contracts own work) ===== -/
def r_pn (a : Int → Int) (home age skill : Int) : Int → Int := u1 (u1 (u1 (u1 (u1 (u1 a (3652 + 12 * a 4 + 0) home) (3652 + 12 * a 4 + 1) age) (3652 + 12 * a 4 + 2) skill) (3652 + 12 * a 4 + 4) (-1)) (3652 + 12 * a 4 + 6) (-1)) 4 (a 4 + 1)
theorem r_pn_n {a : Int → Int} {home age skill k : Int} (h : k ≠ 4 ∧ (k < 3652 + 12 * a 4 ∨ 3652 + 12 * a 4 + 7 ≤ k)) : r_pn a home age skill k = a k := by
  unfold r_pn
  rw [u1_n (by omega), u1_n (by omega), u1_n (by omega), u1_n (by omega), u1_n (by omega), u1_n (by omega)]
theorem r_pn_4 (a : Int → Int) (home age skill : Int) : r_pn a home age skill 4 = a 4 + 1 := by unfold r_pn; exact u1_s _ _ _
theorem r_pn_need {a : Int → Int} {home age skill x : Int} (h4 : 0 ≤ a 4) : r_need (r_pn a home age skill) x = r_need a x + (if home = x then (if 13 ≤ age then 4 else 2) else 0) ∧ r_pers (r_pn a home age skill) x = r_pers a x + (if home = x then 1 else 0) := by
  have e0 : r_pn a home age skill (3652 + 12 * a 4 + 0) = home := by unfold r_pn; simp (disch := omega) only [u1_n, u1_s]
  have e1 : r_pn a home age skill (3652 + 12 * a 4 + 1) = age := by unfold r_pn; simp (disch := omega) only [u1_n, u1_s]
  constructor
  · unfold r_need
    rw [r_pn_4, sI_s h4, e0, e1]
    congr 1
    refine sI_c (fun p p0 p1 => ?_)
    rw [r_pn_n (by omega), r_pn_n (by omega)]
  · unfold r_pers
    rw [r_pn_4, sI_s h4, e0]
    congr 1
    refine sI_c (fun p p0 p1 => ?_)
    rw [r_pn_n (by omega)]
theorem RT_pn {σ σ' : zI} {t : Nat} {a : Int → Int} {home age skill : Int} (h : RT σ t a) (q : jv_C a) (z : jv_Z a) (h4 : a 4 < 60) (hh : 0 ≤ home ∧ home < a 3) (e : ∀ c, c ≠ t + 10 → c ≠ t + 11 → c ≠ t + 12 → σ' c = σ c) (e1 : σ' (t + 11) 2 = a 4 + 1) (e2 : ∀ x, 0 ≤ x → x < 9 * a 4 → σ' (t + 12) x = σ (t + 12) x) (e3 : σ' (t + 12) (a 4 * 9 + 0) = home ∧ σ' (t + 12) (a 4 * 9 + 1) = age ∧ σ' (t + 12) (a 4 * 9 + 2) = skill ∧ σ' (t + 12) (a 4 * 9 + 3) = 0 ∧ σ' (t + 12) (a 4 * 9 + 4) = -1 ∧ σ' (t + 12) (a 4 * 9 + 5) = 0 ∧ σ' (t + 12) (a 4 * 9 + 6) = -1 ∧ σ' (t + 12) (a 4 * 9 + 7) = 0 ∧ σ' (t + 12) (a 4 * 9 + 8) = 0) (e4 : σ' (t + 10) = u1 (u1 (σ (t + 10)) (home * 8 + 4) (σ (t + 10) (home * 8 + 4) + 1)) (home * 8 + 3) (σ (t + 10) (home * 8 + 3) + (if 13 ≤ age then 4 else 2))) : RT σ' t (r_pn a home age skill) := by
  unfold jv_C at q
  have n := fun k => @r_pn_n a home age skill k
  refine ⟨gS2 (e _ (by omega) (by omega) (by omega)) (fun k _ => n k (by omega)) (tS h), gK (e _ (by omega) (by omega) (by omega)) (e _ (by omega) (by omega) (by omega)) (fun k _ _ => n k (by omega)) (tK h), gW (e _ (by omega) (by omega) (by omega)) (e _ (by omega) (by omega) (by omega)) (fun k _ _ => n k (by omega)) (fun k _ _ => n k (by omega)) (tW h), gM (e _ (by omega) (by omega) (by omega)) (e _ (by omega) (by omega) (by omega)) (n 1 (by omega)) (fun k _ _ => n k (by omega)) (tM h), gQ (e _ (by omega) (by omega) (by omega)) (e _ (by omega) (by omega) (by omega)) (n 2 (by omega)) (n 3 (by omega)) (fun k _ _ => n k (by omega)) (fun k _ _ => n k (by omega)) (tQ h), ⟨by rw [e _ (by omega) (by omega) (by omega), n 3 (by omega)]; exact (tH h).1, ?_⟩, ⟨by rw [e1, r_pn_4], ?_⟩, gO (e _ (by omega) (by omega) (by omega)) (e _ (by omega) (by omega) (by omega)) (n 7 (by omega)) (fun k _ _ => n k (by omega)) (tO h), gF (e _ (by omega) (by omega) (by omega)) (e _ (by omega) (by omega) (by omega)) (n 6 (by omega)) (fun k _ _ => n k (by omega)) (tF h)⟩
  · intro x x0 x1
    rw [n 3 (by omega)] at x1
    have hq := (tH h).2 x x0 x1
    have l : ∀ f, f = 22300 ∨ f = 31900 → r_late (r_pn a home age skill) f x = r_late a f x := by
      intro f hf
      unfold r_late
      rw [n 0 (by omega)]
      split
      · rfl
      · exact n _ (by omega)
    rw [e4, (r_pn_need (by omega)).1, (r_pn_need (by omega)).2, l _ (Or.inl rfl), l _ (Or.inr rfl)]
    simp (disch := omega) only [n]
    by_cases c : x = home
    · subst c
      simp (disch := omega) only [u1_n, u1_s]
      simp only [if_true, hq]
      simp
    · rw [if_neg (show ¬ home = x by omega), if_neg (show ¬ home = x by omega)]
      simp (disch := omega) only [u1_n]
      simp only [hq]
      simp
  · intro x x0 x1 k k0 k1
    rw [r_pn_4] at x1
    by_cases c : x = a 4
    · subst c
      have zz := z.2.2.2.1 (a 4) (by omega) h4
      have ek : k = 0 ∨ k = 1 ∨ k = 2 ∨ k = 3 ∨ k = 4 ∨ k = 5 ∨ k = 6 ∨ k = 7 ∨ k = 8 := by omega
      unfold r_pn
      rcases ek with rfl | rfl | rfl | rfl | rfl | rfl | rfl | rfl | rfl
      all_goals simp (disch := omega) only [u1_n, u1_s, zz.1, zz.2.1, zz.2.2.1, zz.2.2.2]
      · exact e3.1
      · exact e3.2.1
      · exact e3.2.2.1
      · exact e3.2.2.2.1
      · exact e3.2.2.2.2.1
      · exact e3.2.2.2.2.2.1
      · exact e3.2.2.2.2.2.2.1
      · exact e3.2.2.2.2.2.2.2.1
      · exact e3.2.2.2.2.2.2.2.2
    · rw [e2 _ (by omega) (by omega), n _ (by omega)]
      exact (tP h).2 x x0 (by omega) k k0 k1
-- method 94: MillTown$Town.addPerson(III)I
theorem c_94_0 : pg_cd 94 0 = (5, 1, 0, 0, 0) := by decide +kernel
theorem c_94_1 : pg_cd 94 1 = (45, 8, 32, 5, 0) := by decide +kernel
theorem c_94_4 : pg_cd 94 4 = (80, 54, 52, 0, 0) := by decide +kernel
theorem c_94_7 : pg_cd 94 7 = (6, 2, 0, 4, 0) := by decide +kernel
theorem c_94_9 : pg_cd 94 9 = (3, 2, 0, 4, 0) := by decide +kernel
theorem c_94_11 : pg_cd 94 11 = (1, 1, 0, 0, (-1)) := by decide +kernel
theorem c_94_12 : pg_cd 94 12 = (37, 3, 0, 1, 5) := by decide +kernel
theorem c_94_15 : pg_cd 94 15 = (1, 1, 0, 0, (-1)) := by decide +kernel
theorem c_94_16 : pg_cd 94 16 = (90, 0, 0, 0, 0) := by decide +kernel
theorem c_94_17 : pg_cd 94 17 = (5, 1, 0, 0, 0) := by decide +kernel
theorem c_94_18 : pg_cd 94 18 = (45, 8, 32, 5, 0) := by decide +kernel
theorem c_94_21 : pg_cd 94 21 = (3, 2, 0, 4, 0) := by decide +kernel
theorem c_94_23 : pg_cd 94 23 = (1, 1, 0, 0, 0) := by decide +kernel
theorem c_94_24 : pg_cd 94 24 = (3, 1, 0, 1, 0) := by decide +kernel
theorem c_94_25 : pg_cd 94 25 = (80, 56, 60, 0, 0) := by decide +kernel
theorem c_94_28 : pg_cd 94 28 = (5, 1, 0, 0, 0) := by decide +kernel
theorem c_94_29 : pg_cd 94 29 = (45, 8, 32, 5, 0) := by decide +kernel
theorem c_94_32 : pg_cd 94 32 = (3, 2, 0, 4, 0) := by decide +kernel
theorem c_94_34 : pg_cd 94 34 = (1, 1, 0, 0, 1) := by decide +kernel
theorem c_94_35 : pg_cd 94 35 = (3, 1, 0, 2, 0) := by decide +kernel
theorem c_94_36 : pg_cd 94 36 = (80, 56, 60, 0, 0) := by decide +kernel
theorem c_94_39 : pg_cd 94 39 = (5, 1, 0, 0, 0) := by decide +kernel
theorem c_94_40 : pg_cd 94 40 = (45, 8, 32, 5, 0) := by decide +kernel
theorem c_94_43 : pg_cd 94 43 = (3, 2, 0, 4, 0) := by decide +kernel
theorem c_94_45 : pg_cd 94 45 = (1, 1, 0, 0, 2) := by decide +kernel
theorem c_94_46 : pg_cd 94 46 = (3, 1, 0, 3, 0) := by decide +kernel
theorem c_94_47 : pg_cd 94 47 = (80, 56, 60, 0, 0) := by decide +kernel
theorem c_94_50 : pg_cd 94 50 = (5, 1, 0, 0, 0) := by decide +kernel
theorem c_94_51 : pg_cd 94 51 = (3, 2, 0, 4, 0) := by decide +kernel
theorem c_94_53 : pg_cd 94 53 = (80, 102, 96, 0, 0) := by decide +kernel
theorem c_94_56 : pg_cd 94 56 = (5, 1, 0, 0, 0) := by decide +kernel
theorem c_94_57 : pg_cd 94 57 = (45, 8, 29, 4, 0) := by decide +kernel
theorem c_94_60 : pg_cd 94 60 = (3, 1, 0, 1, 0) := by decide +kernel
theorem c_94_61 : pg_cd 94 61 = (1, 1, 0, 0, 4) := by decide +kernel
theorem c_94_62 : pg_cd 94 62 = (1, 1, 0, 0, 1) := by decide +kernel
theorem c_94_63 : pg_cd 94 63 = (80, 57, 100, 0, 0) := by decide +kernel
theorem c_94_66 : pg_cd 94 66 = (5, 1, 0, 0, 0) := by decide +kernel
theorem c_94_67 : pg_cd 94 67 = (45, 8, 29, 4, 0) := by decide +kernel
theorem c_94_70 : pg_cd 94 70 = (3, 1, 0, 1, 0) := by decide +kernel
theorem c_94_71 : pg_cd 94 71 = (1, 1, 0, 0, 3) := by decide +kernel
theorem c_94_72 : pg_cd 94 72 = (3, 1, 0, 2, 0) := by decide +kernel
theorem c_94_73 : pg_cd 94 73 = (1, 2, 0, 0, 13) := by decide +kernel
theorem c_94_75 : pg_cd 94 75 = (37, 3, 0, 2, 7) := by decide +kernel
theorem c_94_78 : pg_cd 94 78 = (1, 1, 0, 0, 4) := by decide +kernel
theorem c_94_79 : pg_cd 94 79 = (38, 3, 0, 0, 4) := by decide +kernel
theorem c_94_82 : pg_cd 94 82 = (1, 1, 0, 0, 2) := by decide +kernel
theorem c_94_83 : pg_cd 94 83 = (80, 57, 100, 0, 0) := by decide +kernel
theorem c_94_86 : pg_cd 94 86 = (3, 2, 0, 4, 0) := by decide +kernel
theorem c_94_88 : pg_cd 94 88 = (90, 0, 0, 0, 0) := by decide +kernel
theorem mi_94 : pg_mc 94 = 8 ∧ pg_na 94 = 3 ∧ pg_mx 94 = 5 := by decide +kernel
set_option maxRecDepth 20000 in
theorem u_94_0 {d : Nat} {S : zS} {σ τ : zI} {Q : zQ} {x0 : Nat} {x1 : Int} {x2 : Int} {x3 : Int} (hx0 : tw x0) (t : if σ (x0 + 11) 2 < 60 then (if (σ (x0 + 11) 2) = (-1) then (Q (some (.int (wI (-1)))) S (uc (uc σ (x0 + 12) (fl_ (σ (x0 + 12)) ((σ (x0 + 11) 2) * 9) ((σ (x0 + 11) 2) * 9 + 9) 0)) (x0 + 11) (u1 (σ (x0 + 11)) 2 ((σ (x0 + 11) 2) + 1))) τ) else ((0 ≤ σ (x0 + 11) 2 ∧ σ (x0 + 11) 2 < (u1 (σ (x0 + 11)) 2 ((σ (x0 + 11) 2) + 1) 2)) ∧ ∃ w5 : Int, wI w5 = wI x1 ∧ rg w5 ∧ ∃ w8 : Int, wI w8 = wI x2 ∧ rg w8 ∧ ∃ w11 : Int, wI w11 = wI x3 ∧ rg w11 ∧ (0 ≤ (σ (x0 + 11) 2) ∧ (σ (x0 + 11) 2) < (uc (uc σ (x0 + 12) (u1 (u1 (u1 (fl_ (σ (x0 + 12)) ((σ (x0 + 11) 2) * 9) ((σ (x0 + 11) 2) * 9 + 9) 0) ((σ (x0 + 11) 2) * 9 + 0) w5) ((σ (x0 + 11) 2) * 9 + 1) w8) ((σ (x0 + 11) 2) * 9 + 2) w11)) (x0 + 11) (u1 (σ (x0 + 11)) 2 ((σ (x0 + 11) 2) + 1))) (x0 + 11) 2) ∧ (rg x1) ∧ (0 ≤ x1 ∧ x1 < (σ (x0 + 9) 2)) ∧ ∃ w18 : Int, wI w18 = wI ((σ (x0 + 10) (x1 * 8 + 4)) + 1) ∧ rg w18 ∧ (rg x2) ∧ if x2 < 13 then (((x1 * 8 + 3) ≠ (x1 * 8 + 4)) ∧ ∃ w25 : Int, wI w25 = wI ((σ (x0 + 10) (x1 * 8 + 3)) + 2) ∧ rg w25 ∧ Q (some (.int (wI (σ (x0 + 11) 2)))) S (uc (uc (uc σ (x0 + 12) (u1 (u1 (u1 (u1 (u1 ((u1 (u1 (u1 (fl_ (σ (x0 + 12)) ((σ (x0 + 11) 2) * 9) ((σ (x0 + 11) 2) * 9 + 9) 0) ((σ (x0 + 11) 2) * 9 + 0) w5) ((σ (x0 + 11) 2) * 9 + 1) w8) ((σ (x0 + 11) 2) * 9 + 2) w11)) ((σ (x0 + 11) 2) * 9 + 3) 0) ((σ (x0 + 11) 2) * 9 + 4) (-1)) ((σ (x0 + 11) 2) * 9 + 5) 0) ((σ (x0 + 11) 2) * 9 + 6) (-1)) ((σ (x0 + 11) 2) * 9 + 7) 0)) (x0 + 11) (u1 (σ (x0 + 11)) 2 ((σ (x0 + 11) 2) + 1))) (x0 + 10) (u1 (u1 (σ (x0 + 10)) (x1 * 8 + 4) w18) (x1 * 8 + 3) w25)) τ) else (((x1 * 8 + 3) ≠ (x1 * 8 + 4)) ∧ ∃ w30 : Int, wI w30 = wI ((σ (x0 + 10) (x1 * 8 + 3)) + 4) ∧ rg w30 ∧ Q (some (.int (wI (σ (x0 + 11) 2)))) S (uc (uc (uc σ (x0 + 12) (u1 (u1 (u1 (u1 (u1 ((u1 (u1 (u1 (fl_ (σ (x0 + 12)) ((σ (x0 + 11) 2) * 9) ((σ (x0 + 11) 2) * 9 + 9) 0) ((σ (x0 + 11) 2) * 9 + 0) w5) ((σ (x0 + 11) 2) * 9 + 1) w8) ((σ (x0 + 11) 2) * 9 + 2) w11)) ((σ (x0 + 11) 2) * 9 + 3) 0) ((σ (x0 + 11) 2) * 9 + 4) (-1)) ((σ (x0 + 11) 2) * 9 + 5) 0) ((σ (x0 + 11) 2) * 9 + 6) (-1)) ((σ (x0 + 11) 2) * 9 + 7) 0)) (x0 + 11) (u1 (σ (x0 + 11)) 2 ((σ (x0 + 11) 2) + 1))) (x0 + 10) (u1 (u1 (σ (x0 + 10)) (x1 * 8 + 4) w18) (x1 * 8 + 3) w30)) τ))) else (Q (some (.int (wI (-1)))) S σ τ)) : wi (d + 4) 94 0 [.ref x0, .int (wI x1), .int (wI x2), .int (wI x3), .retAddr 0] [] S σ τ Q := by
  refine i5 c_94_0 rfl (i45 c_94_1 (lo (lyt_0 hx0) (by have := tw_b hx0; omega)) (lro (lrt_5 hx0)) (wi_ok (fun K1 => ?_)))
  by_cases ha2 : σ (x0 + 11) 2 < 60
  · have t := iT t ha2
    refine i80 (As := []) (rest := []) c_94_4 mi_54 rfl rfl (Nat.le_of_ble_eq_true rfl) (Nat.le_of_ble_eq_true rfl) (lo (lyt_11 hx0) (by have := tw_b hx0; omega)) (q_add (ow_persons hx0) (by have q : σ (x0 + 11) 2 = σ (x0 + 11) 2 := rfl; rw [q]; omega) ?_)
    show wi (d + 4) 94 7 [.ref x0, .int (wI x1), .int (wI x2), .int (wI x3), .retAddr 0] [.int (wI (σ (x0 + 11) 2))] S (uc (uc σ (x0 + 12) (fl_ (σ (x0 + 12)) ((σ (x0 + 11) 2) * 9) ((σ (x0 + 11) 2) * 9 + 9) 0)) (x0 + 11) (u1 (σ (x0 + 11)) 2 (σ (x0 + 11) 2 + 1))) τ Q
    refine i6 (L' := [.ref x0, .int (wI x1), .int (wI x2), .int (wI x3), .int (wI (σ (x0 + 11) 2))]) c_94_7 rfl (i3 c_94_9 rfl (i1 c_94_11 ?_))
    refine i37 c_94_12 (rge_ K1 rfl) (by decide) rfl (fun hc => ?_) (fun hc => ?_)
    · have t := iF t hc
      have ha3 : ¬ ((σ (x0 + 11) 2) = (-1)) := hc
      obtain ⟨b4, t⟩ := t
      obtain ⟨w5, e6, r7, t⟩ := t
      refine i5 c_94_17 rfl (i45 c_94_18 (lo (lyt_0 hx0) (by have := tw_b hx0; omega)) (lro (lrt_5 hx0)) (i3 c_94_21 rfl (i1 c_94_23 (i3 c_94_24 rfl ?_))))
      refine i80 (As := [.int (wI (σ (x0 + 11) 2)), .int (wI 0), .int (wI x1)]) (rest := []) c_94_25 mi_56 rfl rfl (Nat.le_of_ble_eq_true rfl) (Nat.le_of_ble_eq_true rfl) (lo (lyt_11 hx0) (by have := tw_b hx0; omega)) (q_put (v2 := w5) (ow_persons hx0) (rge_ K1 rfl) (show 0 ≤ σ (x0 + 11) 2 ∧ σ (x0 + 11) 2 < (uc (uc σ (x0 + 12) (fl_ (σ (x0 + 12)) ((σ (x0 + 11) 2) * 9) ((σ (x0 + 11) 2) * 9 + 9) 0)) (x0 + 11) (u1 (σ (x0 + 11)) 2 ((σ (x0 + 11) 2) + 1))) (x0 + 11) 2 by rw [(congrFun (uc_s _ _ _) _)]; exact b4) (by decide) e6 r7 ?_)
      show wi (d + 4) 94 28 [.ref x0, .int (wI x1), .int (wI x2), .int (wI x3), .int (wI (σ (x0 + 11) 2))] [] S (uc (uc (uc σ (x0 + 12) (fl_ (σ (x0 + 12)) ((σ (x0 + 11) 2) * 9) ((σ (x0 + 11) 2) * 9 + 9) 0)) (x0 + 11) (u1 (σ (x0 + 11)) 2 ((σ (x0 + 11) 2) + 1))) (x0 + 12) (u1 ((uc (uc σ (x0 + 12) (fl_ (σ (x0 + 12)) ((σ (x0 + 11) 2) * 9) ((σ (x0 + 11) 2) * 9 + 9) 0)) (x0 + 11) (u1 (σ (x0 + 11)) 2 ((σ (x0 + 11) 2) + 1))) (x0 + 12)) ((σ (x0 + 11) 2) * 9 + 0) w5)) τ Q
      obtain ⟨w8, e9, r10, t⟩ := t
      refine wi_s (σ1 := uc (uc σ (x0 + 12) (u1 (fl_ (σ (x0 + 12)) ((σ (x0 + 11) 2) * 9) ((σ (x0 + 11) 2) * 9 + 9) 0) ((σ (x0 + 11) 2) * 9 + 0) w5)) (x0 + 11) (u1 (σ (x0 + 11)) 2 ((σ (x0 + 11) 2) + 1))) (wr_ (uc_ns (uc_s _ _ _) (by have := tw_b hx0; have := tw_b hx0; omega)) (uc_cm (uc_uc _ _ _ _) (by have := tw_b hx0; have := tw_b hx0; omega))) (i5 c_94_28 rfl (i45 c_94_29 (lo (lyt_0 hx0) (by have := tw_b hx0; omega)) (lro (lrt_5 hx0)) (i3 c_94_32 rfl (i1 c_94_34 (i3 c_94_35 rfl ?_)))))
      refine i80 (As := [.int (wI (σ (x0 + 11) 2)), .int (wI 1), .int (wI x2)]) (rest := []) c_94_36 mi_56 rfl rfl (Nat.le_of_ble_eq_true rfl) (Nat.le_of_ble_eq_true rfl) (lo (lyt_11 hx0) (by have := tw_b hx0; omega)) (q_put (v2 := w8) (ow_persons hx0) (rge_ K1 rfl) (show 0 ≤ σ (x0 + 11) 2 ∧ σ (x0 + 11) 2 < (uc (uc σ (x0 + 12) (u1 (fl_ (σ (x0 + 12)) ((σ (x0 + 11) 2) * 9) ((σ (x0 + 11) 2) * 9 + 9) 0) ((σ (x0 + 11) 2) * 9 + 0) w5)) (x0 + 11) (u1 (σ (x0 + 11)) 2 ((σ (x0 + 11) 2) + 1))) (x0 + 11) 2 by rw [(congrFun (uc_s _ _ _) _)]; exact b4) (by decide) e9 r10 ?_)
      show wi (d + 4) 94 39 [.ref x0, .int (wI x1), .int (wI x2), .int (wI x3), .int (wI (σ (x0 + 11) 2))] [] S (uc (uc (uc σ (x0 + 12) (u1 (fl_ (σ (x0 + 12)) ((σ (x0 + 11) 2) * 9) ((σ (x0 + 11) 2) * 9 + 9) 0) ((σ (x0 + 11) 2) * 9 + 0) w5)) (x0 + 11) (u1 (σ (x0 + 11)) 2 ((σ (x0 + 11) 2) + 1))) (x0 + 12) (u1 ((uc (uc σ (x0 + 12) (u1 (fl_ (σ (x0 + 12)) ((σ (x0 + 11) 2) * 9) ((σ (x0 + 11) 2) * 9 + 9) 0) ((σ (x0 + 11) 2) * 9 + 0) w5)) (x0 + 11) (u1 (σ (x0 + 11)) 2 ((σ (x0 + 11) 2) + 1))) (x0 + 12)) ((σ (x0 + 11) 2) * 9 + 1) w8)) τ Q
      obtain ⟨w11, e12, r13, t⟩ := t
      refine wi_s (σ1 := uc (uc σ (x0 + 12) (u1 (u1 (fl_ (σ (x0 + 12)) ((σ (x0 + 11) 2) * 9) ((σ (x0 + 11) 2) * 9 + 9) 0) ((σ (x0 + 11) 2) * 9 + 0) w5) ((σ (x0 + 11) 2) * 9 + 1) w8)) (x0 + 11) (u1 (σ (x0 + 11)) 2 ((σ (x0 + 11) 2) + 1))) (wr_ (uc_ns (uc_s _ _ _) (by have := tw_b hx0; have := tw_b hx0; omega)) (uc_cm (uc_uc _ _ _ _) (by have := tw_b hx0; have := tw_b hx0; omega))) (i5 c_94_39 rfl (i45 c_94_40 (lo (lyt_0 hx0) (by have := tw_b hx0; omega)) (lro (lrt_5 hx0)) (i3 c_94_43 rfl (i1 c_94_45 (i3 c_94_46 rfl ?_)))))
      refine i80 (As := [.int (wI (σ (x0 + 11) 2)), .int (wI 2), .int (wI x3)]) (rest := []) c_94_47 mi_56 rfl rfl (Nat.le_of_ble_eq_true rfl) (Nat.le_of_ble_eq_true rfl) (lo (lyt_11 hx0) (by have := tw_b hx0; omega)) (q_put (v2 := w11) (ow_persons hx0) (rge_ K1 rfl) (show 0 ≤ σ (x0 + 11) 2 ∧ σ (x0 + 11) 2 < (uc (uc σ (x0 + 12) (u1 (u1 (fl_ (σ (x0 + 12)) ((σ (x0 + 11) 2) * 9) ((σ (x0 + 11) 2) * 9 + 9) 0) ((σ (x0 + 11) 2) * 9 + 0) w5) ((σ (x0 + 11) 2) * 9 + 1) w8)) (x0 + 11) (u1 (σ (x0 + 11)) 2 ((σ (x0 + 11) 2) + 1))) (x0 + 11) 2 by rw [(congrFun (uc_s _ _ _) _)]; exact b4) (by decide) e12 r13 ?_)
      show wi (d + 4) 94 50 [.ref x0, .int (wI x1), .int (wI x2), .int (wI x3), .int (wI (σ (x0 + 11) 2))] [] S (uc (uc (uc σ (x0 + 12) (u1 (u1 (fl_ (σ (x0 + 12)) ((σ (x0 + 11) 2) * 9) ((σ (x0 + 11) 2) * 9 + 9) 0) ((σ (x0 + 11) 2) * 9 + 0) w5) ((σ (x0 + 11) 2) * 9 + 1) w8)) (x0 + 11) (u1 (σ (x0 + 11)) 2 ((σ (x0 + 11) 2) + 1))) (x0 + 12) (u1 ((uc (uc σ (x0 + 12) (u1 (u1 (fl_ (σ (x0 + 12)) ((σ (x0 + 11) 2) * 9) ((σ (x0 + 11) 2) * 9 + 9) 0) ((σ (x0 + 11) 2) * 9 + 0) w5) ((σ (x0 + 11) 2) * 9 + 1) w8)) (x0 + 11) (u1 (σ (x0 + 11)) 2 ((σ (x0 + 11) 2) + 1))) (x0 + 12)) ((σ (x0 + 11) 2) * 9 + 2) w11)) τ Q
      obtain ⟨p14, t⟩ := t
      refine wi_s (σ1 := uc (uc σ (x0 + 12) (u1 (u1 (u1 (fl_ (σ (x0 + 12)) ((σ (x0 + 11) 2) * 9) ((σ (x0 + 11) 2) * 9 + 9) 0) ((σ (x0 + 11) 2) * 9 + 0) w5) ((σ (x0 + 11) 2) * 9 + 1) w8) ((σ (x0 + 11) 2) * 9 + 2) w11)) (x0 + 11) (u1 (σ (x0 + 11)) 2 ((σ (x0 + 11) 2) + 1))) (wr_ (uc_ns (uc_s _ _ _) (by have := tw_b hx0; have := tw_b hx0; omega)) (uc_cm (uc_uc _ _ _ _) (by have := tw_b hx0; have := tw_b hx0; omega))) (i5 c_94_50 rfl (i3 c_94_51 rfl ?_))
      refine i80 (As := [.int (wI (σ (x0 + 11) 2))]) (rest := []) c_94_53 mi_102 rfl rfl (Nat.le_of_ble_eq_true rfl) (Nat.le_of_ble_eq_true rfl) (lo (lyt_0 hx0) (by have := tw_b hx0; omega)) (q_102 hx0 p14 ?_)
      show wi (d + 4) 94 56 [.ref x0, .int (wI x1), .int (wI x2), .int (wI x3), .int (wI (σ (x0 + 11) 2))] [] S (uc (uc (uc σ (x0 + 12) (u1 (u1 (u1 (fl_ (σ (x0 + 12)) ((σ (x0 + 11) 2) * 9) ((σ (x0 + 11) 2) * 9 + 9) 0) ((σ (x0 + 11) 2) * 9 + 0) w5) ((σ (x0 + 11) 2) * 9 + 1) w8) ((σ (x0 + 11) 2) * 9 + 2) w11)) (x0 + 11) (u1 (σ (x0 + 11)) 2 ((σ (x0 + 11) 2) + 1))) (x0 + 12) (u1 (u1 (u1 (u1 (u1 ((uc (uc σ (x0 + 12) (u1 (u1 (u1 (fl_ (σ (x0 + 12)) ((σ (x0 + 11) 2) * 9) ((σ (x0 + 11) 2) * 9 + 9) 0) ((σ (x0 + 11) 2) * 9 + 0) w5) ((σ (x0 + 11) 2) * 9 + 1) w8) ((σ (x0 + 11) 2) * 9 + 2) w11)) (x0 + 11) (u1 (σ (x0 + 11)) 2 ((σ (x0 + 11) 2) + 1))) (x0 + 12)) ((σ (x0 + 11) 2) * 9 + 3) 0) ((σ (x0 + 11) 2) * 9 + 4) (-1)) ((σ (x0 + 11) 2) * 9 + 5) 0) ((σ (x0 + 11) 2) * 9 + 6) (-1)) ((σ (x0 + 11) 2) * 9 + 7) 0)) τ Q
      obtain ⟨r15, t⟩ := t
      obtain ⟨b16, t⟩ := t
      refine wi_s (σ1 := uc (uc σ (x0 + 12) (u1 (u1 (u1 (u1 (u1 ((u1 (u1 (u1 (fl_ (σ (x0 + 12)) ((σ (x0 + 11) 2) * 9) ((σ (x0 + 11) 2) * 9 + 9) 0) ((σ (x0 + 11) 2) * 9 + 0) w5) ((σ (x0 + 11) 2) * 9 + 1) w8) ((σ (x0 + 11) 2) * 9 + 2) w11)) ((σ (x0 + 11) 2) * 9 + 3) 0) ((σ (x0 + 11) 2) * 9 + 4) (-1)) ((σ (x0 + 11) 2) * 9 + 5) 0) ((σ (x0 + 11) 2) * 9 + 6) (-1)) ((σ (x0 + 11) 2) * 9 + 7) 0)) (x0 + 11) (u1 (σ (x0 + 11)) 2 ((σ (x0 + 11) 2) + 1))) (by funext j; by_cases h0 : j = x0 + 12 <;> by_cases h1 : j = x0 + 11 <;> simp [uc, h0, h1]) (i5 c_94_56 rfl (i45 c_94_57 (lo (lyt_0 hx0) (by have := tw_b hx0; omega)) (lro (lrt_4 hx0)) (i3 c_94_60 rfl (i1 c_94_61 (i1 c_94_62 (wi_ok (fun K17 => ?_)))))))
      obtain ⟨w18, e19, r20, t⟩ := t
      refine i80 (As := [.int (wI x1), .int (wI 4), .int (wI 1)]) (rest := []) c_94_63 mi_57 rfl rfl (Nat.le_of_ble_eq_true rfl) (Nat.le_of_ble_eq_true rfl) (lo (lyt_9 hx0) (by have := tw_b hx0; omega)) (q_raise (v2 := w18) (ow_homes hx0) r15 (show 0 ≤ x1 ∧ x1 < (uc (uc σ (x0 + 12) (u1 (u1 (u1 (u1 (u1 ((u1 (u1 (u1 (fl_ (σ (x0 + 12)) ((σ (x0 + 11) 2) * 9) ((σ (x0 + 11) 2) * 9 + 9) 0) ((σ (x0 + 11) 2) * 9 + 0) w5) ((σ (x0 + 11) 2) * 9 + 1) w8) ((σ (x0 + 11) 2) * 9 + 2) w11)) ((σ (x0 + 11) 2) * 9 + 3) 0) ((σ (x0 + 11) 2) * 9 + 4) (-1)) ((σ (x0 + 11) 2) * 9 + 5) 0) ((σ (x0 + 11) 2) * 9 + 6) (-1)) ((σ (x0 + 11) 2) * 9 + 7) 0)) (x0 + 11) (u1 (σ (x0 + 11)) 2 ((σ (x0 + 11) 2) + 1))) (x0 + 9) 2 by rw [(congrFun (uc_ns (uc_ns rfl (by have := tw_b hx0; have := tw_b hx0; omega)) (by have := tw_b hx0; have := tw_b hx0; omega)) _)]; exact b16) (by decide) (Eq.trans (show wI w18 = wI ((σ (x0 + 10) (x1 * 8 + 4)) + 1) from e19) (congrArg (fun q => wI (q + 1)) (Eq.symm (congrFun (uc_ns (uc_ns rfl (by have := tw_b hx0; have := tw_b hx0; omega)) (by have := tw_b hx0; have := tw_b hx0; omega)) _)))) r20 ?_)
      show wi (d + 4) 94 66 [.ref x0, .int (wI x1), .int (wI x2), .int (wI x3), .int (wI (σ (x0 + 11) 2))] [] S (uc (uc (uc σ (x0 + 12) (u1 (u1 (u1 (u1 (u1 ((u1 (u1 (u1 (fl_ (σ (x0 + 12)) ((σ (x0 + 11) 2) * 9) ((σ (x0 + 11) 2) * 9 + 9) 0) ((σ (x0 + 11) 2) * 9 + 0) w5) ((σ (x0 + 11) 2) * 9 + 1) w8) ((σ (x0 + 11) 2) * 9 + 2) w11)) ((σ (x0 + 11) 2) * 9 + 3) 0) ((σ (x0 + 11) 2) * 9 + 4) (-1)) ((σ (x0 + 11) 2) * 9 + 5) 0) ((σ (x0 + 11) 2) * 9 + 6) (-1)) ((σ (x0 + 11) 2) * 9 + 7) 0)) (x0 + 11) (u1 (σ (x0 + 11)) 2 ((σ (x0 + 11) 2) + 1))) (x0 + 10) (u1 ((uc (uc σ (x0 + 12) (u1 (u1 (u1 (u1 (u1 ((u1 (u1 (u1 (fl_ (σ (x0 + 12)) ((σ (x0 + 11) 2) * 9) ((σ (x0 + 11) 2) * 9 + 9) 0) ((σ (x0 + 11) 2) * 9 + 0) w5) ((σ (x0 + 11) 2) * 9 + 1) w8) ((σ (x0 + 11) 2) * 9 + 2) w11)) ((σ (x0 + 11) 2) * 9 + 3) 0) ((σ (x0 + 11) 2) * 9 + 4) (-1)) ((σ (x0 + 11) 2) * 9 + 5) 0) ((σ (x0 + 11) 2) * 9 + 6) (-1)) ((σ (x0 + 11) 2) * 9 + 7) 0)) (x0 + 11) (u1 (σ (x0 + 11)) 2 ((σ (x0 + 11) 2) + 1))) (x0 + 10)) (x1 * 8 + 4) w18)) τ Q
      obtain ⟨r21, t⟩ := t
      refine wi_s (σ1 := uc (uc (uc σ (x0 + 12) (u1 (u1 (u1 (u1 (u1 ((u1 (u1 (u1 (fl_ (σ (x0 + 12)) ((σ (x0 + 11) 2) * 9) ((σ (x0 + 11) 2) * 9 + 9) 0) ((σ (x0 + 11) 2) * 9 + 0) w5) ((σ (x0 + 11) 2) * 9 + 1) w8) ((σ (x0 + 11) 2) * 9 + 2) w11)) ((σ (x0 + 11) 2) * 9 + 3) 0) ((σ (x0 + 11) 2) * 9 + 4) (-1)) ((σ (x0 + 11) 2) * 9 + 5) 0) ((σ (x0 + 11) 2) * 9 + 6) (-1)) ((σ (x0 + 11) 2) * 9 + 7) 0)) (x0 + 11) (u1 (σ (x0 + 11)) 2 ((σ (x0 + 11) 2) + 1))) (x0 + 10) (u1 (σ (x0 + 10)) (x1 * 8 + 4) w18)) (wr_ (uc_ns (uc_ns rfl (by have := tw_b hx0; have := tw_b hx0; omega)) (by have := tw_b hx0; have := tw_b hx0; omega)) rfl) (i5 c_94_66 rfl (i45 c_94_67 (lo (lyt_0 hx0) (by have := tw_b hx0; omega)) (lro (lrt_4 hx0)) (i3 c_94_70 rfl (i1 c_94_71 (i3 c_94_72 rfl (i1 c_94_73 ?_))))))
      refine i37 c_94_75 r21 (by decide) rfl (fun hc => ?_) (fun hc => ?_)
      · have t := iT t hc
        have ha22 : x2 < 13 := hc
        obtain ⟨n23, t⟩ := t
        refine i1 c_94_82 (wi_ok (fun K24 => ?_))
        obtain ⟨w25, e26, r27, t⟩ := t
        refine i80 (As := [.int (wI x1), .int (wI 3), .int (wI 2)]) (rest := []) c_94_83 mi_57 rfl rfl (Nat.le_of_ble_eq_true rfl) (Nat.le_of_ble_eq_true rfl) (lo (lyt_9 hx0) (by have := tw_b hx0; omega)) (q_raise (v2 := w25) (ow_homes hx0) r15 (show 0 ≤ x1 ∧ x1 < (uc (uc (uc σ (x0 + 12) (u1 (u1 (u1 (u1 (u1 ((u1 (u1 (u1 (fl_ (σ (x0 + 12)) ((σ (x0 + 11) 2) * 9) ((σ (x0 + 11) 2) * 9 + 9) 0) ((σ (x0 + 11) 2) * 9 + 0) w5) ((σ (x0 + 11) 2) * 9 + 1) w8) ((σ (x0 + 11) 2) * 9 + 2) w11)) ((σ (x0 + 11) 2) * 9 + 3) 0) ((σ (x0 + 11) 2) * 9 + 4) (-1)) ((σ (x0 + 11) 2) * 9 + 5) 0) ((σ (x0 + 11) 2) * 9 + 6) (-1)) ((σ (x0 + 11) 2) * 9 + 7) 0)) (x0 + 11) (u1 (σ (x0 + 11)) 2 ((σ (x0 + 11) 2) + 1))) (x0 + 10) (u1 (σ (x0 + 10)) (x1 * 8 + 4) w18)) (x0 + 9) 2 by rw [(congrFun (uc_ns (uc_ns (uc_ns rfl (by have := tw_b hx0; have := tw_b hx0; omega)) (by have := tw_b hx0; have := tw_b hx0; omega)) (by have := tw_b hx0; have := tw_b hx0; omega)) _)]; exact b16) (by decide) (Eq.trans (show wI w25 = wI ((σ (x0 + 10) (x1 * 8 + 3)) + 2) from e26) (congrArg (fun q => wI (q + 2)) (Eq.symm ((congrFun (uc_s _ _ _) _).trans (u1_n n23))))) r27 ?_)
        show wi (d + 4) 94 86 [.ref x0, .int (wI x1), .int (wI x2), .int (wI x3), .int (wI (σ (x0 + 11) 2))] [] S (uc (uc (uc (uc σ (x0 + 12) (u1 (u1 (u1 (u1 (u1 ((u1 (u1 (u1 (fl_ (σ (x0 + 12)) ((σ (x0 + 11) 2) * 9) ((σ (x0 + 11) 2) * 9 + 9) 0) ((σ (x0 + 11) 2) * 9 + 0) w5) ((σ (x0 + 11) 2) * 9 + 1) w8) ((σ (x0 + 11) 2) * 9 + 2) w11)) ((σ (x0 + 11) 2) * 9 + 3) 0) ((σ (x0 + 11) 2) * 9 + 4) (-1)) ((σ (x0 + 11) 2) * 9 + 5) 0) ((σ (x0 + 11) 2) * 9 + 6) (-1)) ((σ (x0 + 11) 2) * 9 + 7) 0)) (x0 + 11) (u1 (σ (x0 + 11)) 2 ((σ (x0 + 11) 2) + 1))) (x0 + 10) (u1 (σ (x0 + 10)) (x1 * 8 + 4) w18)) (x0 + 10) (u1 ((uc (uc (uc σ (x0 + 12) (u1 (u1 (u1 (u1 (u1 ((u1 (u1 (u1 (fl_ (σ (x0 + 12)) ((σ (x0 + 11) 2) * 9) ((σ (x0 + 11) 2) * 9 + 9) 0) ((σ (x0 + 11) 2) * 9 + 0) w5) ((σ (x0 + 11) 2) * 9 + 1) w8) ((σ (x0 + 11) 2) * 9 + 2) w11)) ((σ (x0 + 11) 2) * 9 + 3) 0) ((σ (x0 + 11) 2) * 9 + 4) (-1)) ((σ (x0 + 11) 2) * 9 + 5) 0) ((σ (x0 + 11) 2) * 9 + 6) (-1)) ((σ (x0 + 11) 2) * 9 + 7) 0)) (x0 + 11) (u1 (σ (x0 + 11)) 2 ((σ (x0 + 11) 2) + 1))) (x0 + 10) (u1 (σ (x0 + 10)) (x1 * 8 + 4) w18)) (x0 + 10)) (x1 * 8 + 3) w25)) τ Q
        refine wi_s (σ1 := uc (uc (uc σ (x0 + 12) (u1 (u1 (u1 (u1 (u1 ((u1 (u1 (u1 (fl_ (σ (x0 + 12)) ((σ (x0 + 11) 2) * 9) ((σ (x0 + 11) 2) * 9 + 9) 0) ((σ (x0 + 11) 2) * 9 + 0) w5) ((σ (x0 + 11) 2) * 9 + 1) w8) ((σ (x0 + 11) 2) * 9 + 2) w11)) ((σ (x0 + 11) 2) * 9 + 3) 0) ((σ (x0 + 11) 2) * 9 + 4) (-1)) ((σ (x0 + 11) 2) * 9 + 5) 0) ((σ (x0 + 11) 2) * 9 + 6) (-1)) ((σ (x0 + 11) 2) * 9 + 7) 0)) (x0 + 11) (u1 (σ (x0 + 11)) 2 ((σ (x0 + 11) 2) + 1))) (x0 + 10) (u1 (u1 (σ (x0 + 10)) (x1 * 8 + 4) w18) (x1 * 8 + 3) w25)) (wr_ (uc_s _ _ _) (uc_uc _ _ _ _)) (i3 c_94_86 rfl ?_)
        exact i90 c_94_88 t
      · have t := iF t hc
        have ha22 : ¬ (x2 < 13) := hc
        obtain ⟨n28, t⟩ := t
        refine i1 c_94_78 (i38 c_94_79 rfl (wi_ok (fun K29 => ?_)))
        obtain ⟨w30, e31, r32, t⟩ := t
        refine i80 (As := [.int (wI x1), .int (wI 3), .int (wI 4)]) (rest := []) c_94_83 mi_57 rfl rfl (Nat.le_of_ble_eq_true rfl) (Nat.le_of_ble_eq_true rfl) (lo (lyt_9 hx0) (by have := tw_b hx0; omega)) (q_raise (v2 := w30) (ow_homes hx0) r15 (show 0 ≤ x1 ∧ x1 < (uc (uc (uc σ (x0 + 12) (u1 (u1 (u1 (u1 (u1 ((u1 (u1 (u1 (fl_ (σ (x0 + 12)) ((σ (x0 + 11) 2) * 9) ((σ (x0 + 11) 2) * 9 + 9) 0) ((σ (x0 + 11) 2) * 9 + 0) w5) ((σ (x0 + 11) 2) * 9 + 1) w8) ((σ (x0 + 11) 2) * 9 + 2) w11)) ((σ (x0 + 11) 2) * 9 + 3) 0) ((σ (x0 + 11) 2) * 9 + 4) (-1)) ((σ (x0 + 11) 2) * 9 + 5) 0) ((σ (x0 + 11) 2) * 9 + 6) (-1)) ((σ (x0 + 11) 2) * 9 + 7) 0)) (x0 + 11) (u1 (σ (x0 + 11)) 2 ((σ (x0 + 11) 2) + 1))) (x0 + 10) (u1 (σ (x0 + 10)) (x1 * 8 + 4) w18)) (x0 + 9) 2 by rw [(congrFun (uc_ns (uc_ns (uc_ns rfl (by have := tw_b hx0; have := tw_b hx0; omega)) (by have := tw_b hx0; have := tw_b hx0; omega)) (by have := tw_b hx0; have := tw_b hx0; omega)) _)]; exact b16) (by decide) (Eq.trans (show wI w30 = wI ((σ (x0 + 10) (x1 * 8 + 3)) + 4) from e31) (congrArg (fun q => wI (q + 4)) (Eq.symm ((congrFun (uc_s _ _ _) _).trans (u1_n n28))))) r32 ?_)
        show wi (d + 4) 94 86 [.ref x0, .int (wI x1), .int (wI x2), .int (wI x3), .int (wI (σ (x0 + 11) 2))] [] S (uc (uc (uc (uc σ (x0 + 12) (u1 (u1 (u1 (u1 (u1 ((u1 (u1 (u1 (fl_ (σ (x0 + 12)) ((σ (x0 + 11) 2) * 9) ((σ (x0 + 11) 2) * 9 + 9) 0) ((σ (x0 + 11) 2) * 9 + 0) w5) ((σ (x0 + 11) 2) * 9 + 1) w8) ((σ (x0 + 11) 2) * 9 + 2) w11)) ((σ (x0 + 11) 2) * 9 + 3) 0) ((σ (x0 + 11) 2) * 9 + 4) (-1)) ((σ (x0 + 11) 2) * 9 + 5) 0) ((σ (x0 + 11) 2) * 9 + 6) (-1)) ((σ (x0 + 11) 2) * 9 + 7) 0)) (x0 + 11) (u1 (σ (x0 + 11)) 2 ((σ (x0 + 11) 2) + 1))) (x0 + 10) (u1 (σ (x0 + 10)) (x1 * 8 + 4) w18)) (x0 + 10) (u1 ((uc (uc (uc σ (x0 + 12) (u1 (u1 (u1 (u1 (u1 ((u1 (u1 (u1 (fl_ (σ (x0 + 12)) ((σ (x0 + 11) 2) * 9) ((σ (x0 + 11) 2) * 9 + 9) 0) ((σ (x0 + 11) 2) * 9 + 0) w5) ((σ (x0 + 11) 2) * 9 + 1) w8) ((σ (x0 + 11) 2) * 9 + 2) w11)) ((σ (x0 + 11) 2) * 9 + 3) 0) ((σ (x0 + 11) 2) * 9 + 4) (-1)) ((σ (x0 + 11) 2) * 9 + 5) 0) ((σ (x0 + 11) 2) * 9 + 6) (-1)) ((σ (x0 + 11) 2) * 9 + 7) 0)) (x0 + 11) (u1 (σ (x0 + 11)) 2 ((σ (x0 + 11) 2) + 1))) (x0 + 10) (u1 (σ (x0 + 10)) (x1 * 8 + 4) w18)) (x0 + 10)) (x1 * 8 + 3) w30)) τ Q
        refine wi_s (σ1 := uc (uc (uc σ (x0 + 12) (u1 (u1 (u1 (u1 (u1 ((u1 (u1 (u1 (fl_ (σ (x0 + 12)) ((σ (x0 + 11) 2) * 9) ((σ (x0 + 11) 2) * 9 + 9) 0) ((σ (x0 + 11) 2) * 9 + 0) w5) ((σ (x0 + 11) 2) * 9 + 1) w8) ((σ (x0 + 11) 2) * 9 + 2) w11)) ((σ (x0 + 11) 2) * 9 + 3) 0) ((σ (x0 + 11) 2) * 9 + 4) (-1)) ((σ (x0 + 11) 2) * 9 + 5) 0) ((σ (x0 + 11) 2) * 9 + 6) (-1)) ((σ (x0 + 11) 2) * 9 + 7) 0)) (x0 + 11) (u1 (σ (x0 + 11)) 2 ((σ (x0 + 11) 2) + 1))) (x0 + 10) (u1 (u1 (σ (x0 + 10)) (x1 * 8 + 4) w18) (x1 * 8 + 3) w30)) (wr_ (uc_s _ _ _) (uc_uc _ _ _ _)) (i3 c_94_86 rfl ?_)
        exact i90 c_94_88 t
    · have t := iT t (Decidable.not_not.mp hc)
      have ha3 : (σ (x0 + 11) 2) = (-1) := Decidable.not_not.mp hc
      refine i1 c_94_15 ?_
      exact i90 c_94_16 t
  · have t := iF t ha2
    refine i80 (As := []) (rest := []) c_94_4 mi_54 rfl rfl (Nat.le_of_ble_eq_true rfl) (Nat.le_of_ble_eq_true rfl) (lo (lyt_11 hx0) (by have := tw_b hx0; omega)) (q_addN (ow_persons hx0) (by have q : σ (x0 + 11) 2 = σ (x0 + 11) 2 := rfl; rw [q]; omega) ?_)
    show wi (d + 4) 94 7 [.ref x0, .int (wI x1), .int (wI x2), .int (wI x3), .retAddr 0] [.int (wI (-1))] S σ τ Q
    refine i6 (L' := [.ref x0, .int (wI x1), .int (wI x2), .int (wI x3), .int (wI (-1))]) c_94_7 rfl (i3 c_94_9 rfl (i1 c_94_11 (i37k (pc1 := 15) c_94_12 (by decide) (i1 c_94_15 ?_))))
    exact i90 c_94_16 t
theorem q_94 {d : Nat} {S : zS} {σ τ : zI} {Q : zQ} {tn : Nat} {home : Int} {age : Int} {skill : Int} {a : Int → Int} (htn : tw tn) (p0 : RT σ tn a) (p1 : Jv a) (p2 : jv_Z a) (p3 : 0 ≤ home ∧ home < a 3) (p4 : rg age) (p5 : rg skill) (t : ∀ (σ1 : zI), RT σ1 tn (if a 4 < 60 then r_pn a home age skill else a) → (∀ c, c < tn + 10 ∨ tn + 12 < c → σ1 c = σ c) → Q (some (.int (wI (if a 4 < 60 then a 4 else -1)))) S σ1 τ) : wc (d + 4) 94 [.ref tn, .int (wI home), .int (wI age), .int (wI skill)] S σ τ Q := by
  have hC := jC p1
  have hC' := hC
  unfold jv_C at hC
  have c4 := cP p0
  have c3 := cH p0
  have hnd : 0 ≤ r_need a home ∧ r_need a home ≤ 240 := by
    have b := sI_b (f := fun p => if a (3652 + 12 * p + 0) = home then (if 13 ≤ a (3652 + 12 * p + 1) then 4 else 2) else 0) (n := a 4) (lo := 0) (hi := 4) (by omega) (fun p h0 h1 => by
      try dsimp only
      repeat' (first | omega | split))
    unfold r_need
    omega
  have hpd : 0 ≤ r_pers a home ∧ r_pers a home ≤ 60 := by
    have b := sI_b (f := fun p => if a (3652 + 12 * p + 0) = home then 1 else 0) (n := a 4) (lo := 0) (hi := 1) (by omega) (fun p h0 h1 => by
      try dsimp only
      repeat' (first | omega | split))
    unfold r_pers
    omega
  have hq := (tH p0).2 home p3.1 p3.2
  have q3 := hq.2.2.2.1
  have q4 := hq.2.2.2.2.1
  refine wc_of mi_94 rfl (u_94_0 htn ?_)
  by_cases h4 : a 4 < 60
  · simp only [if_pos h4] at t
    have fin : ∀ σ', (∀ c, c ≠ tn + 10 → c ≠ tn + 11 → c ≠ tn + 12 → σ' c = σ c) → RT σ' tn (r_pn a home age skill) → Q (some (.int (wI (σ (tn + 11) 2)))) S σ' τ := fun σ' h1 h2 => by
      rw [c4]
      exact t σ' h2 (fun c hc => h1 c (by omega) (by omega) (by omega))
    rw [if_pos (by omega), if_neg (by omega), u1_s]
    refine ⟨by omega, _, rfl, by omega, _, rfl, p4, _, rfl, p5, ?_⟩
    refine ⟨by simp (disch := omega) only [uc_s, u1_s]; omega, by omega, by omega, _, rfl, by omega, p4, ?_⟩
    refine ifI (fun ag => ?_) (fun ag => ?_)
    · refine ⟨by omega, _, rfl, by omega, fin _ (fun c h1 h2 h3 => ?_) (RT_pn p0 hC' p2 h4 p3 (fun c h1 h2 h3 => ?_) ?_ (fun x x0 x1 => ?_) ?_ ?_)⟩
      · simp (disch := omega) only [uc_n]
      · simp (disch := omega) only [uc_n]
      · simp (disch := omega) only [uc_s, uc_n, u1_s, c4]
      · simp (disch := omega) only [uc_s, uc_n, u1_n, c4, fl_out]
      · simp (disch := omega) only [uc_s, uc_n, u1_n, u1_s, c4, fl_in]
        simp
      · rw [uc_s, if_neg (by omega)]
    · refine ⟨by omega, _, rfl, by omega, fin _ (fun c h1 h2 h3 => ?_) (RT_pn p0 hC' p2 h4 p3 (fun c h1 h2 h3 => ?_) ?_ (fun x x0 x1 => ?_) ?_ ?_)⟩
      · simp (disch := omega) only [uc_n]
      · simp (disch := omega) only [uc_n]
      · simp (disch := omega) only [uc_s, uc_n, u1_s, c4]
      · simp (disch := omega) only [uc_s, uc_n, u1_n, c4, fl_out]
      · simp (disch := omega) only [uc_s, uc_n, u1_n, u1_s, c4, fl_in]
        simp
      · rw [uc_s, if_pos (by omega)]
  · simp only [if_neg h4] at t
    rw [if_neg (by omega)]
    exact t σ p0 (fun c hc => rfl)
-- method 152: MillTown.person(III)I
theorem c_152_0 : pg_cd 152 0 = (5, 1, 0, 0, 0) := by decide +kernel
theorem c_152_1 : pg_cd 152 1 = (45, 11, 12, 0, 0) := by decide +kernel
theorem c_152_4 : pg_cd 152 4 = (45, 8, 127, 4, 0) := by decide +kernel
theorem c_152_7 : pg_cd 152 7 = (3, 1, 0, 1, 0) := by decide +kernel
theorem c_152_8 : pg_cd 152 8 = (80, 53, 75, 0, 0) := by decide +kernel
theorem c_152_11 : pg_cd 152 11 = (36, 3, 0, 0, 42) := by decide +kernel
theorem c_152_14 : pg_cd 152 14 = (5, 1, 0, 0, 0) := by decide +kernel
theorem c_152_15 : pg_cd 152 15 = (45, 11, 12, 0, 0) := by decide +kernel
theorem c_152_18 : pg_cd 152 18 = (45, 8, 127, 4, 0) := by decide +kernel
theorem c_152_21 : pg_cd 152 21 = (3, 1, 0, 1, 0) := by decide +kernel
theorem c_152_22 : pg_cd 152 22 = (1, 1, 0, 0, 2) := by decide +kernel
theorem c_152_23 : pg_cd 152 23 = (80, 55, 130, 0, 0) := by decide +kernel
theorem c_152_26 : pg_cd 152 26 = (36, 3, 0, 1, 27) := by decide +kernel
theorem c_152_29 : pg_cd 152 29 = (3, 1, 0, 2, 0) := by decide +kernel
theorem c_152_30 : pg_cd 152 30 = (1, 1, 0, 0, 5) := by decide +kernel
theorem c_152_31 : pg_cd 152 31 = (1, 2, 0, 0, 80) := by decide +kernel
theorem c_152_33 : pg_cd 152 33 = (81, 141, 85, 0, 0) := by decide +kernel
theorem c_152_36 : pg_cd 152 36 = (36, 3, 0, 0, 17) := by decide +kernel
theorem c_152_39 : pg_cd 152 39 = (3, 1, 0, 3, 0) := by decide +kernel
theorem c_152_40 : pg_cd 152 40 = (1, 1, 0, 0, 1) := by decide +kernel
theorem c_152_41 : pg_cd 152 41 = (1, 2, 0, 0, 10) := by decide +kernel
theorem c_152_43 : pg_cd 152 43 = (81, 141, 85, 0, 0) := by decide +kernel
theorem c_152_46 : pg_cd 152 46 = (36, 3, 0, 0, 7) := by decide +kernel
theorem c_152_49 : pg_cd 152 49 = (1, 1, 0, 0, 1) := by decide +kernel
theorem c_152_50 : pg_cd 152 50 = (38, 3, 0, 0, 4) := by decide +kernel
theorem c_152_53 : pg_cd 152 53 = (1, 1, 0, 0, 0) := by decide +kernel
theorem c_152_54 : pg_cd 152 54 = (6, 2, 0, 4, 0) := by decide +kernel
theorem c_152_56 : pg_cd 152 56 = (3, 2, 0, 4, 0) := by decide +kernel
theorem c_152_58 : pg_cd 152 58 = (36, 3, 0, 0, 16) := by decide +kernel
theorem c_152_61 : pg_cd 152 61 = (5, 1, 0, 0, 0) := by decide +kernel
theorem c_152_62 : pg_cd 152 62 = (45, 11, 12, 0, 0) := by decide +kernel
theorem c_152_65 : pg_cd 152 65 = (3, 1, 0, 1, 0) := by decide +kernel
theorem c_152_66 : pg_cd 152 66 = (3, 1, 0, 2, 0) := by decide +kernel
theorem c_152_67 : pg_cd 152 67 = (3, 1, 0, 3, 0) := by decide +kernel
theorem c_152_68 : pg_cd 152 68 = (80, 94, 133, 0, 0) := by decide +kernel
theorem c_152_71 : pg_cd 152 71 = (38, 3, 0, 0, 4) := by decide +kernel
theorem c_152_74 : pg_cd 152 74 = (1, 1, 0, 0, (-1)) := by decide +kernel
theorem c_152_75 : pg_cd 152 75 = (90, 0, 0, 0, 0) := by decide +kernel
theorem mi_152 : pg_mc 152 = 11 ∧ pg_na 152 = 3 ∧ pg_mx 152 = 5 := by decide +kernel
set_option maxRecDepth 20000 in
theorem u_152_0 {d : Nat} {S : zS} {σ τ : zI} {Q : zQ} {x1 : Int} {x2 : Int} {x3 : Int} (t : (rg x1) ∧ if 0 ≤ x1 ∧ x1 < (σ 11 2) then (if (rt_ (σ 11 2) (σ 12) 8 2 x1) = 0 then ((rg x2) ∧ if 5 ≤ x2 ∧ x2 ≤ 80 then ((rg x3) ∧ if 1 ≤ x3 ∧ x3 ≤ 10 then (∃ a9 : Int → Int, (RT σ 2 a9) ∧ (Jv a9) ∧ (jv_Z a9) ∧ (0 ≤ x1 ∧ x1 < a9 3) ∧ ∀ (σ114 : zI), RT σ114 2 (if a9 4 < 60 then r_pn a9 x1 x2 x3 else a9) → (∀ c, c < 2 + 10 ∨ 2 + 12 < c → σ114 c = σ c) → Q (some (.int (wI (if a9 4 < 60 then a9 4 else -1)))) S σ114 τ) else (Q (some (.int (wI (-1)))) S σ τ)) else (Q (some (.int (wI (-1)))) S σ τ)) else (Q (some (.int (wI (-1)))) S σ τ)) else (Q (some (.int (wI (-1)))) S σ τ)) : wi (d + 12) 152 0 [.ref 1, .int (wI x1), .int (wI x2), .int (wI x3), .retAddr 0] [] S σ τ Q := by
  obtain ⟨r1, t⟩ := t
  refine i5 c_152_0 rfl (i45 c_152_1 (lo (c := 1) (kd := 111) (n := 0) rfl (by decide)) (lro (c := 1) (k := 0) (j := 2) (by decide)) (i45 c_152_4 (lo (c := 2) (kd := 108) (n := 0) rfl (by decide)) (lro (c := 2) (k := 4) (j := 11) (by decide)) (i3 c_152_7 rfl (wi_ok (fun K2 => ?_)))))
  refine i80 (As := [.int (wI x1)]) (rest := []) c_152_8 mi_53 rfl rfl (Nat.le_of_ble_eq_true rfl) (Nat.le_of_ble_eq_true rfl) (lo (c := 11) (kd := 104) (n := 0) rfl (by decide)) (q_has (ow_homes tw_2) r1 ?_)
  show wi (d + 12) 152 11 [.ref 1, .int (wI x1), .int (wI x2), .int (wI x3), .retAddr 0] [.int (wI (if 0 ≤ x1 ∧ x1 < σ 11 2 then 1 else 0))] S σ τ Q
  refine i36e c_152_11 rfl (fun hc => ?_) (fun hc => ?_)
  · have t := iT t hc
    have ha3 : 0 ≤ x1 ∧ x1 < (σ 11 2) := hc
    refine i5 c_152_14 rfl (i45 c_152_15 (lo (c := 1) (kd := 111) (n := 0) rfl (by decide)) (lro (c := 1) (k := 0) (j := 2) (by decide)) (i45 c_152_18 (lo (c := 2) (kd := 108) (n := 0) rfl (by decide)) (lro (c := 2) (k := 4) (j := 11) (by decide)) (i3 c_152_21 rfl (i1 c_152_22 ?_))))
    refine i80 (As := [.int (wI x1), .int (wI 2)]) (rest := []) c_152_23 mi_55 rfl rfl (Nat.le_of_ble_eq_true rfl) (Nat.le_of_ble_eq_true rfl) (lo (c := 11) (kd := 104) (n := 0) rfl (by decide)) (q_at (ow_homes tw_2) r1 (by decide) ?_)
    show wi (d + 12) 152 26 [.ref 1, .int (wI x1), .int (wI x2), .int (wI x3), .retAddr 0] [.int (wI (rt_ (σ 11 2) (σ 12) 8 2 x1))] S σ τ Q
    refine i36 c_152_26 (rg_rt_ (fun k => kO_r K2 _ k) _ _ _ _) rfl (fun hc => ?_) (fun hc => ?_)
    · have t := iF t hc
      have ha4 : ¬ ((rt_ (σ 11 2) (σ 12) 8 2 x1) = 0) := hc
      refine i1 c_152_53 (i6 (L' := [.ref 1, .int (wI x1), .int (wI x2), .int (wI x3), .int (wI 0)]) c_152_54 rfl (i3 c_152_56 rfl (i36k (pc1 := 74) c_152_58 (by decide) (i1 c_152_74 ?_))))
      exact i90 c_152_75 t
    · have t := iT t (Decidable.not_not.mp hc)
      have ha4 : (rt_ (σ 11 2) (σ 12) 8 2 x1) = 0 := Decidable.not_not.mp hc
      obtain ⟨r5, t⟩ := t
      refine i3 c_152_29 rfl (i1 c_152_30 (i1 c_152_31 ?_))
      refine i81 (As := [.int (wI x2), .int (wI 5), .int (wI 80)]) (rest := []) c_152_33 mi_141 rfl rfl (Nat.le_of_ble_eq_true rfl) (Nat.le_of_ble_eq_true rfl) (q_141 r5 (by decide) (by decide) ?_)
      show wi (d + 12) 152 36 [.ref 1, .int (wI x1), .int (wI x2), .int (wI x3), .retAddr 0] [.int (wI (if 5 ≤ x2 ∧ x2 ≤ 80 then 1 else 0))] S σ τ Q
      refine i36e c_152_36 rfl (fun hc => ?_) (fun hc => ?_)
      · have t := iT t hc
        have ha6 : 5 ≤ x2 ∧ x2 ≤ 80 := hc
        obtain ⟨r7, t⟩ := t
        refine i3 c_152_39 rfl (i1 c_152_40 (i1 c_152_41 ?_))
        refine i81 (As := [.int (wI x3), .int (wI 1), .int (wI 10)]) (rest := []) c_152_43 mi_141 rfl rfl (Nat.le_of_ble_eq_true rfl) (Nat.le_of_ble_eq_true rfl) (q_141 r7 (by decide) (by decide) ?_)
        show wi (d + 12) 152 46 [.ref 1, .int (wI x1), .int (wI x2), .int (wI x3), .retAddr 0] [.int (wI (if 1 ≤ x3 ∧ x3 ≤ 10 then 1 else 0))] S σ τ Q
        refine i36e c_152_46 rfl (fun hc => ?_) (fun hc => ?_)
        · have t := iT t hc
          have ha8 : 1 ≤ x3 ∧ x3 ≤ 10 := hc
          obtain ⟨a9, t⟩ := t
          obtain ⟨p10, t⟩ := t
          obtain ⟨p11, t⟩ := t
          obtain ⟨p12, t⟩ := t
          obtain ⟨p13, t⟩ := t
          refine i1 c_152_49 (i38 c_152_50 rfl (i6 (L' := [.ref 1, .int (wI x1), .int (wI x2), .int (wI x3), .int (wI 1)]) c_152_54 rfl (i3 c_152_56 rfl (i36k (pc1 := 61) c_152_58 (by decide) (i5 c_152_61 rfl (i45 c_152_62 (lo (c := 1) (kd := 111) (n := 0) rfl (by decide)) (lro (c := 1) (k := 0) (j := 2) (by decide)) (i3 c_152_65 rfl (i3 c_152_66 rfl (i3 c_152_67 rfl ?_)))))))))
          refine i80 (As := [.int (wI x1), .int (wI x2), .int (wI x3)]) (rest := []) c_152_68 mi_94 rfl rfl (Nat.le_of_ble_eq_true rfl) (Nat.le_of_ble_eq_true rfl) (lo (c := 2) (kd := 108) (n := 0) rfl (by decide)) (q_94 (a := a9) tw_2 p10 p11 p12 p13 r5 r7 (fun σ114 q15 q16 => ?_))
          have t := t σ114 q15 q16
          show wi (d + 12) 152 71 [.ref 1, .int (wI x1), .int (wI x2), .int (wI x3), .int (wI 1)] [.int (wI (if a9 4 < 60 then a9 4 else -1))] S σ114 τ Q
          refine i38 c_152_71 rfl ?_
          exact i90 c_152_75 t
        · have t := iF t hc
          have ha8 : ¬ (1 ≤ x3 ∧ x3 ≤ 10) := hc
          refine i1 c_152_53 (i6 (L' := [.ref 1, .int (wI x1), .int (wI x2), .int (wI x3), .int (wI 0)]) c_152_54 rfl (i3 c_152_56 rfl (i36k (pc1 := 74) c_152_58 (by decide) (i1 c_152_74 ?_))))
          exact i90 c_152_75 t
      · have t := iF t hc
        have ha6 : ¬ (5 ≤ x2 ∧ x2 ≤ 80) := hc
        refine i1 c_152_53 (i6 (L' := [.ref 1, .int (wI x1), .int (wI x2), .int (wI x3), .int (wI 0)]) c_152_54 rfl (i3 c_152_56 rfl (i36k (pc1 := 74) c_152_58 (by decide) (i1 c_152_74 ?_))))
        exact i90 c_152_75 t
  · have t := iF t hc
    have ha3 : ¬ (0 ≤ x1 ∧ x1 < (σ 11 2)) := hc
    refine i1 c_152_53 (i6 (L' := [.ref 1, .int (wI x1), .int (wI x2), .int (wI x3), .int (wI 0)]) c_152_54 rfl (i3 c_152_56 rfl (i36k (pc1 := 74) c_152_58 (by decide) (i1 c_152_74 ?_))))
    exact i90 c_152_75 t
theorem q_152 {d : Nat} {S : zS} {σ τ : zI} {Q : zQ} {home : Int} {age : Int} {skill : Int} {a : Int → Int} (p0 : RT σ 2 a) (p1 : Jv a) (p2 : jv_Z a) (p3 : rg home) (p4 : rg age) (p5 : rg skill) (t : ∀ (σ1 : zI), RT σ1 2 (r_person a home age skill) → F2 σ σ1 → Q (some (.int (wI (v_person a home age skill)))) S σ1 τ) : wc (d + 12) 152 [.ref 1, .int (wI home), .int (wI age), .int (wI skill)] S σ τ Q := by
  have hC := jC p1
  have hC' := hC
  unfold jv_C at hC
  have l2 := tl_2 p0
  unfold v_person at t
  have eg : 0 ≤ home ∧ home < a 3 → rt_ (σ 11 2) (σ 12) 8 2 home = a (3460 + 8 * home + 3) := fun h => vH2 p0 h
  have hH : 0 ≤ home ∧ home < a 3 → 0 ≤ a (3460 + 8 * home + 3) ∧ a (3460 + 8 * home + 3) ≤ 1 := fun h => by
    have := jH p1 home h.1 h.2
    omega
  refine wc_of mi_152 rfl (u_152_0 ⟨p3, ?_⟩)
  have tn : ¬ k_person a home age skill → Q (some (.int (wI (-1)))) S σ τ := fun h => by
    have er : r_person a home age skill = a := if_neg h
    have t := t σ (by rw [er]; exact p0) (fun _ _ => rfl)
    rw [if_neg h] at t
    exact t
  refine ifI (fun b1 => ?_) (fun b1 => tn (fun h => by omega))
  have b1' : 0 ≤ home ∧ home < a 3 := by omega
  have hH := hH b1'
  rw [eg b1']
  refine ifI (fun b2 => ?_) (fun b2 => tn (fun h => by have := h.2.1; omega))
  refine ⟨p4, ?_⟩
  refine ifI (fun b3 => ?_) (fun b3 => tn (fun h => by omega))
  refine ⟨p5, ?_⟩
  refine ifI (fun b4 => ?_) (fun b4 => tn (fun h => by omega))
  refine ⟨a, p0, p1, p2, b1', ?_⟩
  intro σ1 h1 h2
  by_cases c : a 4 < 60
  · have hk : k_person a home age skill := ⟨b1', by omega, b3, b4, by omega⟩
    have er : r_person a home age skill = r_pn a home age skill := if_pos hk
    rw [if_pos c] at h1
    have t := t σ1 (by rw [er]; exact h1) (fun c hc => h2 c (by omega))
    rw [if_pos hk, show a 4 + 1 - 1 = a 4 by omega] at t
    rw [if_pos c]
    exact t
  · have hk : ¬ k_person a home age skill := fun h => by omega
    have er : r_person a home age skill = a := if_neg hk
    rw [if_neg c] at h1
    have t := t σ1 (by rw [er]; exact h1) (fun c hc => h2 c (by omega))
    rw [if_neg hk] at t
    rw [if_neg c]
    exact t
