/-! ===== the law: its loop, whole (segments printed by wip/whole, contracts own work) ===== -/
/-- the law's loop -/
theorem lw_loop {n : Nat} (hb : n ≤ 3584) : ∀ (k : Nat) (j : Int) (S : zS) (σ τ : zI), (n : Int) - 7 * j < k → 0 ≤ j → 7 * j ≤ n → S.2.2.1 0 = (0, n) → REL S σ j → wi 60 331 18 [.ref 0, .ref 1, .ref 83, .int (wI (7 * j))] [] S σ τ (fun r S' _ _ => r = some (.int 1) ∧ RO S')
  | k, j, S, σ, τ, hk, hj, hjn, hn, R => by
    refine wi_ok fun KK => ?_
    have rv : ∀ k, rg (σ 0 k) := fun k => kO_r KK 0 k
    by_cases out : (n : Int) < 7 * j + 7
    · refine i3 c_331_18 rfl (i5 c_331_19 rfl (i58s c_331_20 rfl hn (i1 c_331_21 (i11 c_331_23 (i37 c_331_24 (by omega) (by omega) rfl (fun _ => ?_) (fun z => absurd (show (n : Int) - 7 < 7 * j by omega) z))))))
      exact i1 c_331_1853 (i91 c_331_1854 (Or.inr rfl) ⟨rfl, R.2.2.2.2.2.2⟩)
    cases k with
    | zero => omega
    | succ k =>
    refine i3 c_331_18 rfl (i5 c_331_19 rfl (i58s c_331_20 rfl hn (i1 c_331_21 (i11 c_331_23 (i37 c_331_24 (by omega) (by omega) rfl (fun z => absurd (show (n : Int) - 7 < 7 * j from z) (by omega)) (fun _ => ?_))))))
    refine i5 c_331_27 rfl (i3 c_331_28 rfl (i50s c_331_29 hn (by omega) (by omega) rfl (i1 c_331_30 (i13 c_331_32 ?_))))
    have K : ∀ S2 σ2 τ2, REL S2 σ2 (j + 1) → σ2 0 = σ 0 → S2.2.2.1 0 = S.2.2.1 0 → wi 60 331 1847 [.ref 0, .ref 1, .ref 83, .int (wI (7 * j))] [] S2 σ2 τ2 (fun r S' _ _ => r = some (.int 1) ∧ RO S') := fun S2 σ2 τ2 R2 f0 fS => by
      refine i9 (L' := [.ref 0, .ref 1, .ref 83, .int (wI (7 * (j + 1)))]) c_331_1847 rfl (by rw [show 7 * j + 7 = 7 * (j + 1) by omega]; rfl) (i38 c_331_1850 rfl ?_)
      exact lw_loop hb k (j + 1) S2 σ2 τ2 (by omega) (by omega) (by omega) (fS.trans hn) R2
    have hb : n < 2147483648 := by omega
    have zb := zand_b (x := σ 0 (7 * j)) (m := 63) (Or.inl rfl)
    have cs : zand (σ 0 (7 * j)) 63 = 0 ∨ zand (σ 0 (7 * j)) 63 = 1 ∨ zand (σ 0 (7 * j)) 63 = 2 ∨ zand (σ 0 (7 * j)) 63 = 3 ∨ zand (σ 0 (7 * j)) 63 = 4 ∨ zand (σ 0 (7 * j)) 63 = 5 ∨ zand (σ 0 (7 * j)) 63 = 6 ∨ zand (σ 0 (7 * j)) 63 = 7 ∨ zand (σ 0 (7 * j)) 63 = 8 ∨ zand (σ 0 (7 * j)) 63 = 9 ∨ zand (σ 0 (7 * j)) 63 = 10 ∨ zand (σ 0 (7 * j)) 63 = 11 ∨ zand (σ 0 (7 * j)) 63 = 12 ∨ zand (σ 0 (7 * j)) 63 = 13 ∨ zand (σ 0 (7 * j)) 63 = 14 ∨ zand (σ 0 (7 * j)) 63 = 15 ∨ zand (σ 0 (7 * j)) 63 = 16 ∨ zand (σ 0 (7 * j)) 63 = 17 ∨ zand (σ 0 (7 * j)) 63 = 18 ∨ zand (σ 0 (7 * j)) 63 = 19 ∨ zand (σ 0 (7 * j)) 63 = 20 ∨ zand (σ 0 (7 * j)) 63 = 21 ∨ zand (σ 0 (7 * j)) 63 = 22 ∨ zand (σ 0 (7 * j)) 63 = 23 ∨ zand (σ 0 (7 * j)) 63 = 24 ∨ zand (σ 0 (7 * j)) 63 = 25 ∨ zand (σ 0 (7 * j)) 63 = 26 ∨ zand (σ 0 (7 * j)) 63 = 27 ∨ zand (σ 0 (7 * j)) 63 = 28 ∨ zand (σ 0 (7 * j)) 63 = 29 ∨ zand (σ 0 (7 * j)) 63 = 30 ∨ zand (σ 0 (7 * j)) 63 = 31 ∨ zand (σ 0 (7 * j)) 63 = 32 ∨ zand (σ 0 (7 * j)) 63 = 33 ∨ zand (σ 0 (7 * j)) 63 = 34 ∨ zand (σ 0 (7 * j)) 63 = 35 ∨ zand (σ 0 (7 * j)) 63 = 36 ∨ zand (σ 0 (7 * j)) 63 = 37 ∨ zand (σ 0 (7 * j)) 63 = 38 ∨ zand (σ 0 (7 * j)) 63 = 39 ∨ zand (σ 0 (7 * j)) 63 = 40 ∨ zand (σ 0 (7 * j)) 63 = 41 ∨ zand (σ 0 (7 * j)) 63 = 42 ∨ 42 < zand (σ 0 (7 * j)) 63 := by omega
    rcases cs with h | h | h | h | h | h | h | h | h | h | h | h | h | h | h | h | h | h | h | h | h | h | h | h | h | h | h | h | h | h | h | h | h | h | h | h | h | h | h | h | h | h | h | h
    · exact i42 (o := 187) (pc1 := 220) c_331_33 sw_10 0 h (by omega) (by omega) rfl rfl (lw_kind hn hb (by omega) rv (pr_kind R (by omega) (rv _) (rv _) (rv _) (rv _) (rv _) (rv _)) K)
    · exact i42 (o := 262) (pc1 := 295) c_331_33 sw_10 1 h (by omega) (by omega) rfl rfl (lw_price hn hb (by omega) rv (pr_price R (by omega) (rv _) (rv _) (rv _)) K)
    · exact i42 (o := 305) (pc1 := 338) c_331_33 sw_10 2 h (by omega) (by omega) rfl rfl (lw_mean hn hb (by omega) rv (pr_mean R (by omega) (rv _) (rv _)) K)
    · exact i42 (o := 338) (pc1 := 371) c_331_33 sw_10 3 h (by omega) (by omega) rfl rfl (lw_priceOf hn hb (by omega) rv (pr_priceOf R (rv _) (rv _)) K)
    · exact i42 (o := 371) (pc1 := 404) c_331_33 sw_10 4 h (by omega) (by omega) rfl rfl (lw_mill hn hb (by omega) rv (pr_mill R (by omega) (rv _) (rv _) (rv _) (rv _)) K)
    · exact i42 (o := 424) (pc1 := 457) c_331_33 sw_10 5 h (by omega) (by omega) rfl rfl (lw_shop hn hb (by omega) rv (pr_shop R (by omega) (rv _) (rv _) (rv _)) K)
    · exact i42 (o := 467) (pc1 := 500) c_331_33 sw_10 6 h (by omega) (by omega) rfl rfl (lw_home hn hb (by omega) rv (pr_home R (by omega) (rv _) (rv _)) K)
    · exact i42 (o := 500) (pc1 := 533) c_331_33 sw_10 7 h (by omega) (by omega) rfl rfl (lw_person hn hb (by omega) rv (pr_person R (by omega) (rv _) (rv _) (rv _)) K)
    · exact i42 (o := 543) (pc1 := 576) c_331_33 sw_10 8 h (by omega) (by omega) rfl rfl (lw_work hn hb (by omega) rv (pr_work R (by omega) (rv _) (rv _) (rv _) (rv _)) K)
    · exact i42 (o := 596) (pc1 := 629) c_331_33 sw_10 9 h (by omega) (by omega) rfl rfl (lw_feed hn hb (by omega) rv (pr_feed R (rv _) (rv _) (rv _) (rv _) (rv _)) K)
    · exact i42 (o := 659) (pc1 := 692) c_331_33 sw_10 10 h (by omega) (by omega) rfl rfl (lw_end hn hb (by omega) rv (pr_end R (rv _)) K)
    · exact i42 (o := 682) (pc1 := 715) c_331_33 sw_10 11 h (by omega) (by omega) rfl rfl (lw_text hn hb (by omega) rv (pr_text R) K)
    · exact i42 (o := 695) (pc1 := 728) c_331_33 sw_10 12 h (by omega) (by omega) rfl rfl (lw_fault hn hb (by omega) rv (pr_fault R (rv _)) K)
    · exact i42 (o := 718) (pc1 := 751) c_331_33 sw_10 13 h (by omega) (by omega) rfl rfl (lw_force hn hb (by omega) rv (pr_force R (by omega) (rv _) (rv _) (rv _) (rv _)) K)
    · exact i42 (o := 771) (pc1 := 804) c_331_33 sw_10 14 h (by omega) (by omega) rfl rfl (lw_pay hn hb (by omega) rv (pr_pay R (rv _) (rv _) (rv _) (rv _)) K)
    · exact i42 (o := 824) (pc1 := 857) c_331_33 sw_10 15 h (by omega) (by omega) rfl rfl (lw_why hn hb (by omega) rv (pr_why R (rv _) (rv _) (rv _) (rv _) (rv _)) K)
    · exact i42 (o := 887) (pc1 := 920) c_331_33 sw_10 16 h (by omega) (by omega) rfl rfl (lw_hours hn hb (by omega) rv (pr_hours R (rv _) (rv _) (rv _) (rv _)) K)
    · exact i42 (o := 940) (pc1 := 973) c_331_33 sw_10 17 h (by omega) (by omega) rfl rfl (lw_order hn hb (by omega) rv (pr_order R (by omega) (rv _) (rv _) (rv _) (rv _) (rv _)) K)
    · exact i42 (o := 1003) (pc1 := 1036) c_331_33 sw_10 18 h (by omega) (by omega) rfl rfl (lw_terms hn hb (by omega) rv (pr_terms R (by omega) (rv _) (rv _)) K)
    · exact i42 (o := 1036) (pc1 := 1069) c_331_33 sw_10 19 h (by omega) (by omega) rfl rfl (lw_fund hn hb (by omega) rv (pr_fund R (by omega) (rv _) (rv _) (rv _)) K)
    · exact i42 (o := 1079) (pc1 := 1112) c_331_33 sw_10 20 h (by omega) (by omega) rfl rfl (lw_strike hn hb (by omega) rv (pr_strike R (by omega) (rv _) (by split <;> omega)) K)
    · exact i42 (o := 1128) (pc1 := 1161) c_331_33 sw_10 21 h (by omega) (by omega) rfl rfl (lw_weeks hn hb (by omega) rv (pr_weeks R (by omega) (rv _)) K)
    · exact i42 (o := 1151) (pc1 := 1184) c_331_33 sw_10 22 h (by omega) (by omega) rfl rfl (lw_millOf hn hb (by omega) rv (pr_millOf R (rv _) (rv _)) K)
    · exact i42 (o := 1184) (pc1 := 1217) c_331_33 sw_10 23 h (by omega) (by omega) rfl rfl (lw_homeOf hn hb (by omega) rv (pr_homeOf R (rv _) (rv _)) K)
    · exact i42 (o := 1217) (pc1 := 1250) c_331_33 sw_10 24 h (by omega) (by omega) rfl rfl (lw_personOf hn hb (by omega) rv (pr_personOf R (rv _) (rv _)) K)
    · exact i42 (o := 1250) (pc1 := 1283) c_331_33 sw_10 25 h (by omega) (by omega) rfl rfl (lw_shopOf hn hb (by omega) rv (pr_shopOf R (rv _) (rv _)) K)
    · exact i42 (o := 1283) (pc1 := 1316) c_331_33 sw_10 26 h (by omega) (by omega) rfl rfl (lw_orderOf hn hb (by omega) rv (pr_orderOf R (rv _) (rv _)) K)
    · exact i42 (o := 1316) (pc1 := 1349) c_331_33 sw_10 27 h (by omega) (by omega) rfl rfl (lw_book hn hb (by omega) rv (pr_book R (rv _) (rv _) (rv _)) K)
    · exact i42 (o := 1359) (pc1 := 1392) c_331_33 sw_10 28 h (by omega) (by omega) rfl rfl (lw_tried hn hb (by omega) rv (pr_tried R (by omega) (rv _) (rv _) (rv _) (rv _)) K)
    · exact i42 (o := 1412) (pc1 := 1445) c_331_33 sw_10 29 h (by omega) (by omega) rfl rfl (lw_offer hn hb (by omega) rv (pr_offer R (by omega) (rv _) (rv _)) K)
    · exact i42 (o := 1445) (pc1 := 1478) c_331_33 sw_10 30 h (by omega) (by omega) rfl rfl (lw_meet hn hb (by omega) rv (pr_meet R (by omega)) K)
    · exact i42 (o := 1458) (pc1 := 1491) c_331_33 sw_10 31 h (by omega) (by omega) rfl rfl (lw_wish hn hb (by omega) rv (pr_wish R (by omega) (rv _) (rv _)) K)
    · exact i42 (o := 1491) (pc1 := 1524) c_331_33 sw_10 32 h (by omega) (by omega) rfl rfl (lw_made hn hb (by omega) rv (pr_made R (rv _) (rv _) (rv _) (rv _)) K)
    · exact i42 (o := 1544) (pc1 := 1577) c_331_33 sw_10 33 h (by omega) (by omega) rfl rfl (lw_proof hn hb (by omega) rv (pr_proof R (rv _) (rv _)) K)
    · exact i42 (o := 1577) (pc1 := 1610) c_331_33 sw_10 34 h (by omega) (by omega) rfl rfl (lw_shared hn hb (by omega) rv (pr_shared R (rv _) (rv _)) K)
    · exact i42 (o := 1610) (pc1 := 1643) c_331_33 sw_10 35 h (by omega) (by omega) rfl rfl (lw_loaf hn hb (by omega) rv (pr_loaf R (rv _) (rv _)) K)
    · exact i42 (o := 1643) (pc1 := 1676) c_331_33 sw_10 36 h (by omega) (by omega) rfl rfl (lw_sheet hn hb (by omega) rv (pr_sheet R (rv _)) K)
    · exact i42 (o := 1666) (pc1 := 1699) c_331_33 sw_10 37 h (by omega) (by omega) rfl rfl (lw_onSheet hn hb (by omega) rv (pr_onSheet R (rv _) (rv _)) K)
    · exact i42 (o := 1699) (pc1 := 1732) c_331_33 sw_10 38 h (by omega) (by omega) rfl rfl (lw_alter hn hb (by omega) rv (pr_alter R (rv _) (rv _) (rv _)) K)
    · exact i42 (o := 1742) (pc1 := 1775) c_331_33 sw_10 39 h (by omega) (by omega) rfl rfl (lw_check hn hb (by omega) rv (pr_check R (rv _)) K)
    · exact i42 (o := 1765) (pc1 := 1798) c_331_33 sw_10 40 h (by omega) (by omega) rfl rfl (lw_image hn hb (by omega) rv (pr_image R) K)
    · exact i42 (o := 1778) (pc1 := 1811) c_331_33 sw_10 41 h (by omega) (by omega) rfl rfl (lw_back hn hb (by omega) rv (pr_back R) K)
    · exact i42 (o := 1791) (pc1 := 1824) c_331_33 sw_10 42 h (by omega) (by omega) rfl rfl (lw_about hn hb (by omega) rv (pr_about R (rv _)) K)
    · exact i42d c_331_33 sw_10 (by omega) (Or.inr h) rfl (K S σ τ (REL_g R (fun _ _ => rfl) ⟨rfl, rfl⟩ (fun _ _ => rfl)) rfl rfl)
