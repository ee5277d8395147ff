/-! ===== towns and the class made (segments printed by wip/whole, contracts own work) ===== -/
/-- what a town just made shows -/
def TF (x : Nat) (f : Int → Int) (σ : zI) : Prop := σ x = u1 (u1 (u1 f 12 100000) 16 (-1)) 17 (-1) ∧ (σ (x + 1) 0 = 6 ∧ σ (x + 1) 2 = 6 ∧ K6 (σ (x + 2)) 6) ∧ (σ (x + 3) 0 = 401 ∧ σ (x + 3) 2 = 8 ∧ K9 (σ (x + 4))) ∧ σ (x + 5) = u1 z0 0 13 ∧ σ (x + 7) = u1 z0 0 5 ∧ σ (x + 9) = u1 z0 0 8 ∧ σ (x + 11) = u1 z0 0 9 ∧ σ (x + 13) = u1 z0 0 6 ∧ σ (x + 15) = u1 z0 0 5
theorem TF_e {x : Nat} {f : Int → Int} {σ σ' : zI} (h : TF x f σ) (e : ∀ c, x ≤ c → c ≤ x + 16 → σ' c = σ c) : TF x f σ' := by
  unfold TF at *
  rw [e x (by omega) (by omega), e (x + 1) (by omega) (by omega), e (x + 2) (by omega) (by omega), e (x + 3) (by omega) (by omega), e (x + 4) (by omega) (by omega), e (x + 5) (by omega) (by omega), e (x + 7) (by omega) (by omega), e (x + 9) (by omega) (by omega), e (x + 11) (by omega) (by omega), e (x + 13) (by omega) (by omega), e (x + 15) (by omega) (by omega)]
  exact h
theorem tnl {S : zS} {σ1 τ : zI} {Q : zQ} {x : Nat} (sh : TSH S x) (h1 : σ1 (x + 1) = u1 z0 0 6) (h3 : σ1 (x + 3) = u1 z0 0 401) (K : ∀ σ2 : zI, (∀ c, c ≠ x + 1 → c ≠ x + 2 → c ≠ x + 3 → c ≠ x + 4 → σ2 c = σ1 c) → (σ2 (x + 1) 0 = 6 ∧ σ2 (x + 1) 2 = 6 ∧ K6 (σ2 (x + 2)) 6) → (σ2 (x + 3) 0 = 401 ∧ σ2 (x + 3) 2 = 8 ∧ K9 (σ2 (x + 4))) → Q none S σ2 τ) : wi_y 58 86 138 [.ref x, .retAddr 0] [] S σ1 τ Q := by
  refine i1_y c_86_138 (i6_y (L' := [.ref x, .int (wI 0)]) c_86_139 rfl ?_)
  refine tnl_1 (d := 55) (σ := σ1) sh 6 0 σ1 rfl (by omega) (fun c _ _ => rfl) (by rw [h1]; rfl) (by rw [h1]; rfl) (fun i i0 i1 => absurd i1 (by omega)) (fun σ2 f2 w20 w22 r2 => ?_)
  refine i1_y c_86_183 (i6_y (L' := [.ref x, .int (wI 0)]) c_86_184 rfl ?_)
  refine tnl_2 (d := 55) (σ := σ2) sh 8 0 σ2 rfl (by omega) (fun c _ _ => rfl) (by rw [f2 (x + 3) (by omega) (by omega), h3]; rfl) (by rw [f2 (x + 3) (by omega) (by omega), h3]; rfl) (fun i i0 i1 => absurd i1 (by omega)) (fun σ3 f3 w30 w32 r3 => ?_)
  refine tnl_3 (d := 55) sh w30 w32 r3 (fun σ4 f4 r4 => ?_)
  refine K σ4 (fun c c1 c2 c3 c4 => by rw [f4 c c4, f3 c c3 c4, f2 c c1 c2]) ⟨?_, ?_, ?_⟩ ⟨?_, ?_, r4⟩
  · rw [f4 _ (by omega), f3 _ (by omega) (by omega)]; exact w20
  · rw [f4 _ (by omega), f3 _ (by omega) (by omega)]; exact w22
  · rw [f4 _ (by omega), f3 _ (by omega) (by omega)]; exact r2
  · rw [f4 _ (by omega)]; exact w30
  · rw [f4 _ (by omega)]; exact w32
theorem sh_2 {LL : Nat} : TSH (SHs LL 18 16) 2 := ⟨SH_o ⟨⟨by decide, by decide⟩, rfl⟩, rfl, rfl, fun σ w0 w1 w2 => ⟨SH_o ⟨⟨by decide, by decide⟩, rfl⟩, rfl, SH_o ⟨⟨by decide, by decide⟩, rfl⟩, w0, by decide, w1, by omega, by decide, rfl, by decide, by decide⟩, fun σ w0 w1 w2 => ⟨SH_o ⟨⟨by decide, by decide⟩, rfl⟩, rfl, SH_o ⟨⟨by decide, by decide⟩, rfl⟩, w0, by decide, w1, by omega, by decide, rfl, by decide, by decide⟩⟩
theorem in_86_2 {LL : Nat} {σ τ : zI} {Q : zQ} (K : ∀ σ1 τ1 : zI, (∀ c, c < 2 → σ1 c = σ c) → TF 2 (σ 2) σ1 → Q none (SHs LL 18 16) σ1 τ1) : wc_y 58 86 [.ref 2] (SHs LL 2 0) σ τ Q := by
  refine in_86a_2 (fun σ1 τ1 fr h0 h1 h3 h5 h7 h9 h11 h13 h15 _ _ _ _ _ _ _ _ => ?_)
  refine tnl sh_2 h1 h3 (fun σ2 f2 a b => K σ2 τ1 (fun c hc => ?_) ⟨?_, a, b, ?_, ?_, ?_, ?_, ?_, ?_⟩)
  · rw [f2 c (by omega) (by omega) (by omega) (by omega)]; exact fr c hc
  · exact (f2 2 (by decide) (by decide) (by decide) (by decide)).trans h0
  · exact (f2 (2 + 5) (by decide) (by decide) (by decide) (by decide)).trans h5
  · exact (f2 (2 + 7) (by decide) (by decide) (by decide) (by decide)).trans h7
  · exact (f2 (2 + 9) (by decide) (by decide) (by decide) (by decide)).trans h9
  · exact (f2 (2 + 11) (by decide) (by decide) (by decide) (by decide)).trans h11
  · exact (f2 (2 + 13) (by decide) (by decide) (by decide) (by decide)).trans h13
  · exact (f2 (2 + 15) (by decide) (by decide) (by decide) (by decide)).trans h15
theorem sh_19 {LL : Nat} : TSH (SHs LL 35 33) 19 := ⟨SH_o ⟨⟨by decide, by decide⟩, rfl⟩, rfl, rfl, fun σ w0 w1 w2 => ⟨SH_o ⟨⟨by decide, by decide⟩, rfl⟩, rfl, SH_o ⟨⟨by decide, by decide⟩, rfl⟩, w0, by decide, w1, by omega, by decide, rfl, by decide, by decide⟩, fun σ w0 w1 w2 => ⟨SH_o ⟨⟨by decide, by decide⟩, rfl⟩, rfl, SH_o ⟨⟨by decide, by decide⟩, rfl⟩, w0, by decide, w1, by omega, by decide, rfl, by decide, by decide⟩⟩
theorem in_86_19 {LL : Nat} {σ τ : zI} {Q : zQ} (K : ∀ σ1 τ1 : zI, (∀ c, c < 19 → σ1 c = σ c) → TF 19 (σ 19) σ1 → Q none (SHs LL 35 33) σ1 τ1) : wc_y 58 86 [.ref 19] (SHs LL 19 17) σ τ Q := by
  refine in_86a_19 (fun σ1 τ1 fr h0 h1 h3 h5 h7 h9 h11 h13 h15 _ _ _ _ _ _ _ _ => ?_)
  refine tnl sh_19 h1 h3 (fun σ2 f2 a b => K σ2 τ1 (fun c hc => ?_) ⟨?_, a, b, ?_, ?_, ?_, ?_, ?_, ?_⟩)
  · rw [f2 c (by omega) (by omega) (by omega) (by omega)]; exact fr c hc
  · exact (f2 19 (by decide) (by decide) (by decide) (by decide)).trans h0
  · exact (f2 (19 + 5) (by decide) (by decide) (by decide) (by decide)).trans h5
  · exact (f2 (19 + 7) (by decide) (by decide) (by decide) (by decide)).trans h7
  · exact (f2 (19 + 9) (by decide) (by decide) (by decide) (by decide)).trans h9
  · exact (f2 (19 + 11) (by decide) (by decide) (by decide) (by decide)).trans h11
  · exact (f2 (19 + 13) (by decide) (by decide) (by decide) (by decide)).trans h13
  · exact (f2 (19 + 15) (by decide) (by decide) (by decide) (by decide)).trans h15
theorem sh_36 {LL : Nat} : TSH (SHs LL 52 50) 36 := ⟨SH_o ⟨⟨by decide, by decide⟩, rfl⟩, rfl, rfl, fun σ w0 w1 w2 => ⟨SH_o ⟨⟨by decide, by decide⟩, rfl⟩, rfl, SH_o ⟨⟨by decide, by decide⟩, rfl⟩, w0, by decide, w1, by omega, by decide, rfl, by decide, by decide⟩, fun σ w0 w1 w2 => ⟨SH_o ⟨⟨by decide, by decide⟩, rfl⟩, rfl, SH_o ⟨⟨by decide, by decide⟩, rfl⟩, w0, by decide, w1, by omega, by decide, rfl, by decide, by decide⟩⟩
theorem in_86_36 {LL : Nat} {σ τ : zI} {Q : zQ} (K : ∀ σ1 τ1 : zI, (∀ c, c < 36 → σ1 c = σ c) → TF 36 (σ 36) σ1 → Q none (SHs LL 52 50) σ1 τ1) : wc_y 58 86 [.ref 36] (SHs LL 36 34) σ τ Q := by
  refine in_86a_36 (fun σ1 τ1 fr h0 h1 h3 h5 h7 h9 h11 h13 h15 _ _ _ _ _ _ _ _ => ?_)
  refine tnl sh_36 h1 h3 (fun σ2 f2 a b => K σ2 τ1 (fun c hc => ?_) ⟨?_, a, b, ?_, ?_, ?_, ?_, ?_, ?_⟩)
  · rw [f2 c (by omega) (by omega) (by omega) (by omega)]; exact fr c hc
  · exact (f2 36 (by decide) (by decide) (by decide) (by decide)).trans h0
  · exact (f2 (36 + 5) (by decide) (by decide) (by decide) (by decide)).trans h5
  · exact (f2 (36 + 7) (by decide) (by decide) (by decide) (by decide)).trans h7
  · exact (f2 (36 + 9) (by decide) (by decide) (by decide) (by decide)).trans h9
  · exact (f2 (36 + 11) (by decide) (by decide) (by decide) (by decide)).trans h11
  · exact (f2 (36 + 13) (by decide) (by decide) (by decide) (by decide)).trans h13
  · exact (f2 (36 + 15) (by decide) (by decide) (by decide) (by decide)).trans h15
/-- what the class just made shows -/
def CFn (σ : zI) : Prop := TF 2 z0 σ ∧ TF 19 z0 σ ∧ TF 36 z0 σ ∧ σ 63 = u1 (u1 z0 5 (-1)) 6 (-1) ∧ σ 79 = u1 z0 2 (-1) ∧ σ 80 = z0 ∧ σ 82 = z0
theorem CFn_e {σ σ' : zI} (h : CFn σ) (e : ∀ c, 1 < c → c < 83 → σ' c = σ c) : CFn σ' := by
  obtain ⟨h1, h2, h3, h4, h5, h6, h7⟩ := h
  exact ⟨TF_e h1 (fun c c0 c1 => e c (by omega) (by omega)), TF_e h2 (fun c c0 c1 => e c (by omega) (by omega)), TF_e h3 (fun c c0 c1 => e c (by omega) (by omega)), (e 63 (by omega) (by omega)).trans h4, (e 79 (by omega) (by omega)).trans h5, (e 80 (by omega) (by omega)).trans h6, (e 82 (by omega) (by omega)).trans h7⟩
theorem in_140_1 {LL : Nat} {σ τ : zI} {Q : zQ} (K : ∀ σ1 τ1 : zI, (∀ c, c < 2 → σ1 c = σ c) → CFn σ1 → Q none (SHs LL 82 83) σ1 τ1) : wc_y 59 140 [.ref 1] (SHs LL 1 0) σ τ Q := by
  refine wc_of_y mi_140 rfl ?_
  refine i5_y c_140_0 rfl (i61_y c_140_1 (Nat.le_of_ble_eq_true rfl) (i5_y c_140_4 rfl (s60 (n' := 2) c_140_5 rfl rfl rfl rfl (i33a_y c_140_8 ?_))))
  refine i80_y (As := []) (rest := [.ref 2, .ref 1]) (n := 0) c_140_9 mi_86 rfl rfl (Nat.le_of_ble_eq_true rfl) (Nat.le_of_ble_eq_true rfl) (fun _ => SH_o ⟨⟨by decide, by decide⟩, rfl⟩) (in_86_2 (fun σ2 τ2 fr2 tf2 => ?_))
  show wi_y 59 140 12 [.ref 1] [.ref 2, .ref 1] _ _ _ _
  refine s49 (m' := 17) c_140_12 ⟨⟨by decide, by decide⟩, rfl⟩ rfl rfl (i5_y c_140_15 rfl (s60 (n' := 19) c_140_16 rfl rfl rfl rfl (i33a_y c_140_19 ?_)))
  refine i80_y (As := []) (rest := [.ref 19, .ref 1]) (n := 0) c_140_20 mi_86 rfl rfl (Nat.le_of_ble_eq_true rfl) (Nat.le_of_ble_eq_true rfl) (fun _ => SH_o ⟨⟨by decide, by decide⟩, rfl⟩) (in_86_19 (fun σ19 τ19 fr19 tf19 => ?_))
  show wi_y 59 140 23 [.ref 1] [.ref 19, .ref 1] _ _ _ _
  refine s49 (m' := 34) c_140_23 ⟨⟨by decide, by decide⟩, rfl⟩ rfl rfl (i5_y c_140_26 rfl (s60 (n' := 36) c_140_27 rfl rfl rfl rfl (i33a_y c_140_30 ?_)))
  refine i80_y (As := []) (rest := [.ref 36, .ref 1]) (n := 0) c_140_31 mi_86 rfl rfl (Nat.le_of_ble_eq_true rfl) (Nat.le_of_ble_eq_true rfl) (fun _ => SH_o ⟨⟨by decide, by decide⟩, rfl⟩) (in_86_36 (fun σ36 τ36 fr36 tf36 => ?_))
  show wi_y 59 140 34 [.ref 1] [.ref 36, .ref 1] _ _ _ _
  refine s49 (m' := 51) c_140_34 ⟨⟨by decide, by decide⟩, rfl⟩ rfl rfl (i5_y c_140_37 rfl (s60 (n' := 53) c_140_38 rfl rfl rfl rfl (i33a_y c_140_41 ?_)))
  refine i80_y (As := []) (rest := [.ref 53, .ref 1]) (n := 0) c_140_42 mi_107 rfl rfl (Nat.le_of_ble_eq_true rfl) (Nat.le_of_ble_eq_true rfl) (fun _ => SH_o ⟨⟨by decide, by decide⟩, rfl⟩) (in_107_53 (fun σ53 τ53 fr53 => ?_))
  show wi_y 59 140 45 [.ref 1] [.ref 53, .ref 1] _ _ _ _
  refine s49 (m' := 61) c_140_45 ⟨⟨by decide, by decide⟩, rfl⟩ rfl rfl (i5_y c_140_48 rfl (i5_y c_140_49 rfl (s45 (j := 53) c_140_50 ⟨⟨by decide, by decide⟩, rfl⟩ rfl (s45 (j := 54) c_140_53 ⟨⟨by decide, by decide⟩, rfl⟩ rfl (s49 (m' := 62) c_140_56 ⟨⟨by decide, by decide⟩, rfl⟩ rfl rfl (i5_y c_140_59 rfl (i5_y c_140_60 rfl (s45 (j := 53) c_140_61 ⟨⟨by decide, by decide⟩, rfl⟩ rfl (s45 (j := 58) c_140_64 ⟨⟨by decide, by decide⟩, rfl⟩ rfl (s49 (m' := 63) c_140_67 ⟨⟨by decide, by decide⟩, rfl⟩ rfl rfl (i5_y c_140_70 rfl (s60 (n' := 63) c_140_71 rfl rfl rfl rfl (i33a_y c_140_74 ?_)))))))))))))
  refine i80_y (As := []) (rest := [.ref 63, .ref 1]) (n := 0) c_140_75 mi_32 rfl rfl (Nat.le_of_ble_eq_true rfl) (Nat.le_of_ble_eq_true rfl) (fun _ => SH_o ⟨⟨by decide, by decide⟩, rfl⟩) (in_32_63 (fun σ63 τ63 fr63 e63_0 => ?_))
  show wi_y 59 140 78 [.ref 1] [.ref 63, .ref 1] _ _ _ _
  refine s49 (m' := 67) c_140_78 ⟨⟨by decide, by decide⟩, rfl⟩ rfl rfl (i5_y c_140_81 rfl (s60 (n' := 67) c_140_82 rfl rfl rfl rfl (i33a_y c_140_85 ?_)))
  refine i80_y (As := []) (rest := [.ref 67, .ref 1]) (n := 0) c_140_86 mi_61 rfl rfl (Nat.le_of_ble_eq_true rfl) (Nat.le_of_ble_eq_true rfl) (fun _ => SH_o ⟨⟨by decide, by decide⟩, rfl⟩) (in_61_67 (fun σ67 τ67 fr67 => ?_))
  show wi_y 59 140 89 [.ref 1] [.ref 67, .ref 1] _ _ _ _
  refine s49 (m' := 77) c_140_89 ⟨⟨by decide, by decide⟩, rfl⟩ rfl rfl (i5_y c_140_92 rfl (s60 (n' := 77) c_140_93 rfl rfl rfl rfl (i33a_y c_140_96 ?_)))
  refine i80_y (As := []) (rest := [.ref 77, .ref 1]) (n := 0) c_140_97 mi_25 rfl rfl (Nat.le_of_ble_eq_true rfl) (Nat.le_of_ble_eq_true rfl) (fun _ => SH_o ⟨⟨by decide, by decide⟩, rfl⟩) (in_25_77 (fun σ77 τ77 fr77 => ?_))
  show wi_y 59 140 100 [.ref 1] [.ref 77, .ref 1] _ _ _ _
  refine s49 (m' := 79) c_140_100 ⟨⟨by decide, by decide⟩, rfl⟩ rfl rfl (i5_y c_140_103 rfl (s60 (n' := 79) c_140_104 rfl rfl rfl rfl (i33a_y c_140_107 ?_)))
  refine i80_y (As := []) (rest := [.ref 79, .ref 1]) (n := 0) c_140_108 mi_73 rfl rfl (Nat.le_of_ble_eq_true rfl) (Nat.le_of_ble_eq_true rfl) (fun _ => SH_o ⟨⟨by decide, by decide⟩, rfl⟩) (in_73_79 (fun σ79 τ79 fr79 e79_0 e79_1 => ?_))
  show wi_y 59 140 111 [.ref 1] [.ref 79, .ref 1] _ _ _ _
  have g63 : ∀ c, c < 67 → uc σ79 82 z0 c = σ63 c := fun c hc => by
    rw [uc_n (by omega), fr79 c (by omega), uc_n (by omega), fr77 c (by omega), uc_n (by omega), fr67 c (by omega), uc_n (by omega)]
  have g36 : ∀ c, c < 53 → uc σ79 82 z0 c = σ36 c := fun c hc => by
    rw [g63 c (by omega), fr63 c (by omega), uc_n (by omega), fr53 c (by omega), uc_n (by omega)]
  have g19 : ∀ c, c < 36 → uc σ79 82 z0 c = σ19 c := fun c hc => by
    rw [g36 c (by omega), fr36 c (by omega), uc_n (by omega)]
  have g2 : ∀ c, c < 19 → uc σ79 82 z0 c = σ2 c := fun c hc => by
    rw [g19 c (by omega), fr19 c (by omega), uc_n (by omega)]
  rw [uc_s] at tf2 tf19 tf36 e63_0 e79_0
  refine s49 (m' := 82) c_140_111 ⟨⟨by decide, by decide⟩, rfl⟩ rfl rfl (i5_y c_140_114 rfl (i1_y c_140_115 (s59 (n' := 82) (len := 300) c_140_118 rfl rfl (by decide) rfl rfl rfl (s49 (m' := 83) c_140_120 ⟨⟨by decide, by decide⟩, rfl⟩ rfl rfl (i94_y c_140_123 (K _ _ (fun c hc => ?_) ⟨?_, ?_, ?_, ?_, ?_, ?_, ?_⟩))))))
  · rw [g2 c (by omega), fr2 c (by omega), uc_n (by omega)]
  · exact TF_e tf2 (fun c c0 c1 => g2 c (by omega))
  · exact TF_e tf19 (fun c c0 c1 => g19 c (by omega))
  · exact TF_e tf36 (fun c c0 c1 => g36 c (by omega))
  · rw [g63 63 (by omega), e63_0]
  · rw [uc_n (by decide), e79_0]
  · rw [uc_n (by decide), e79_1]
  · exact uc_s _ _ _
theorem in_194a {LL : Nat} {σ τ : zI} {Q : zQ} (K : ∀ σ1 τ1 : zI, (∀ c, c < 83 → σ1 c = σ c) → σ1 83 = u1 (u1 (u1 (σ 83) 5 (-1)) 6 (-1)) 42 (-1) → σ1 84 = z0 → σ1 85 = z0 → σ1 87 = z0 → σ1 99 = z0 → wi_y 59 194 154 [.ref 83, .retAddr 0] [] (SHs LL 99 99) σ1 τ1 Q) : wc_y 59 194 [.ref 83] (SHs LL 83 83) σ τ Q := by
  refine wc_of_y mi_194 rfl ?_
  refine i5_y c_194_0 rfl (i61_y c_194_1 (Nat.le_of_ble_eq_true rfl) (i5_y c_194_4 rfl (i1_y c_194_5 (s59 (n' := 84) (len := 112300) c_194_7 rfl rfl (by decide) rfl rfl rfl (s49 (m' := 84) c_194_9 ⟨⟨by decide, by decide⟩, rfl⟩ rfl rfl (i5_y c_194_12 rfl (i1_y c_194_13 (s59 (n' := 85) (len := 112300) c_194_15 rfl rfl (by decide) rfl rfl rfl (s49 (m' := 85) c_194_17 ⟨⟨by decide, by decide⟩, rfl⟩ rfl rfl (i5_y c_194_20 rfl (i1_y c_194_21 (s59 (n' := 86) (len := 112300) c_194_23 rfl rfl (by decide) rfl rfl rfl (s49 (m' := 86) c_194_25 ⟨⟨by decide, by decide⟩, rfl⟩ rfl rfl (i5_y c_194_28 rfl (i1_y c_194_29 (s59 (n' := 87) (len := 300) c_194_32 rfl rfl (by decide) rfl rfl rfl (s49 (m' := 87) c_194_34 ⟨⟨by decide, by decide⟩, rfl⟩ rfl rfl (i5_y c_194_37 rfl (i1_y c_194_38 (s46 c_194_39 ⟨⟨by decide, by decide⟩, rfl⟩ (by decide) (i5_y c_194_42 rfl (i1_y c_194_43 (s46 c_194_44 ⟨⟨by decide, by decide⟩, rfl⟩ (by decide) (i5_y c_194_47 rfl (i1_y c_194_48 (s59 (n' := 88) (len := 160) c_194_51 rfl rfl (by decide) rfl rfl rfl (s49 (m' := 88) c_194_53 ⟨⟨by decide, by decide⟩, rfl⟩ rfl rfl (i5_y c_194_56 rfl (i1_y c_194_57 (s59 (n' := 89) (len := 320) c_194_60 rfl rfl (by decide) rfl rfl rfl (s49 (m' := 89) c_194_62 ⟨⟨by decide, by decide⟩, rfl⟩ rfl rfl (i5_y c_194_65 rfl (i1_y c_194_66 (s59 (n' := 90) (len := 320) c_194_69 rfl rfl (by decide) rfl rfl rfl (s49 (m' := 90) c_194_71 ⟨⟨by decide, by decide⟩, rfl⟩ rfl rfl (i5_y c_194_74 rfl (i1_y c_194_75 (s59 (n' := 91) (len := 320) c_194_78 rfl rfl (by decide) rfl rfl rfl (s49 (m' := 91) c_194_80 ⟨⟨by decide, by decide⟩, rfl⟩ rfl rfl (i5_y c_194_83 rfl (i1_y c_194_84 (s59 (n' := 92) (len := 24) c_194_86 rfl rfl (by decide) rfl rfl rfl (s49 (m' := 92) c_194_88 ⟨⟨by decide, by decide⟩, rfl⟩ rfl rfl (i5_y c_194_91 rfl (i1_y c_194_92 (s59 (n' := 93) (len := 60) c_194_94 rfl rfl (by decide) rfl rfl rfl (s49 (m' := 93) c_194_96 ⟨⟨by decide, by decide⟩, rfl⟩ rfl rfl (i5_y c_194_99 rfl (i1_y c_194_100 (s59 (n' := 94) (len := 60) c_194_102 rfl rfl (by decide) rfl rfl rfl (s49 (m' := 94) c_194_104 ⟨⟨by decide, by decide⟩, rfl⟩ rfl rfl (i5_y c_194_107 rfl (i1_y c_194_108 (s59 (n' := 95) (len := 24) c_194_110 rfl rfl (by decide) rfl rfl rfl (s49 (m' := 95) c_194_112 ⟨⟨by decide, by decide⟩, rfl⟩ rfl rfl (i5_y c_194_115 rfl (i1_y c_194_116 (s59 (n' := 96) (len := 576) c_194_119 rfl rfl (by decide) rfl rfl rfl (s49 (m' := 96) c_194_121 ⟨⟨by decide, by decide⟩, rfl⟩ rfl rfl (i5_y c_194_124 rfl (i1_y c_194_125 (s59 (n' := 97) (len := 24) c_194_127 rfl rfl (by decide) rfl rfl rfl (s49 (m' := 97) c_194_129 ⟨⟨by decide, by decide⟩, rfl⟩ rfl rfl (i5_y c_194_132 rfl (i1_y c_194_133 (s59 (n' := 98) (len := 24) c_194_135 rfl rfl (by decide) rfl rfl rfl (s49 (m' := 98) c_194_137 ⟨⟨by decide, by decide⟩, rfl⟩ rfl rfl (i5_y c_194_140 rfl (i1_y c_194_141 (s59 (n' := 99) (len := 192) c_194_144 rfl rfl (by decide) rfl rfl rfl (s49 (m' := 99) c_194_146 ⟨⟨by decide, by decide⟩, rfl⟩ rfl rfl (i5_y c_194_149 rfl (i1_y c_194_150 (s46 c_194_151 ⟨⟨by decide, by decide⟩, rfl⟩ (by decide) ?_))))))))))))))))))))))))))))))))))))))))))))))))))))))))))))))))))))))))))
  refine K _ _ (fun c hc => ?_) ?_ ?_ ?_ ?_ ?_
  · simp (disch := omega) only [uc_n]
  · simp (disch := decide) only [uc_n, uc_s]
    try rfl
  · simp (disch := decide) only [uc_n, uc_s]
  · simp (disch := decide) only [uc_n, uc_s]
  · simp (disch := decide) only [uc_n, uc_s]
  · simp (disch := decide) only [uc_n, uc_s]
