/-! ===== the reference reads: one sign (segments printed by wip/whole, contracts own work) ===== -/
section BGS
variable (T : Int → Int) (n s : Int)
/-- a leaf stands at s -/
def lfV (x : Int × Int) : Prop := (tk T n s = 2 ∧ nm T n s ≤ 9999 ∧ x = (0, nm T n s)) ∨ ((17 ≤ tk T n s ∧ tk T n s ≤ 20) ∧ x = (1, tk T n s - 16))
/-- an opening sign stands at s, so goes on at e -/
def opV (w e : Int) : Prop := (w = 40 ∧ tk T n s = 33 ∧ e = nx T n s) ∨ (w = 2 ∧ tk T n s = 30 ∧ e = nx T n s) ∨ (w = tk T n s + 20 ∧ (tk T n s = 21 ∨ tk T n s = 22) ∧ tk T n (nx T n s) = 33 ∧ e = nx T n (nx T n s))
/-- a fault -/
def erV (o r e : Int) : Prop := (tk T n s = 2 ∧ 9999 < nm T n s ∧ r = 2 ∧ e = s) ∨ ((tk T n s = 21 ∨ tk T n s = 22) ∧ tk T n (nx T n s) ≠ 33 ∧ r = 1 ∧ e = nx T n s) ∨ (o = 8 ∧ (tk T n s = 21 ∨ tk T n s = 22) ∧ tk T n (nx T n s) = 33 ∧ r = 3 ∧ e = nx T n s) ∨ (o = 8 ∧ (tk T n s = 33 ∨ tk T n s = 30) ∧ r = 3 ∧ e = s) ∨ ((tk T n s < 17 ∨ 22 < tk T n s) ∧ tk T n s ≠ 2 ∧ tk T n s ≠ 33 ∧ tk T n s ≠ 30 ∧ r = 1 ∧ e = s)
/-- what beginning a ONE comes to -/
def BO (pl : List Int) (σ τ : zI) (r : Int) (σ1 τ1 : zI) : Prop := (r = 0 ∧ ∃ x, lfV T n s x ∧ PF σ σ1 τ τ1 (x :: eM pl) ∧ TR T n (nx T n s) σ1 τ1 ∧ PIL σ1 (dm pl) ∧ σ1 83 17 = σ 83 17 - (eM pl).length ∧ σ1 83 18 = 1) ∨ (r = 0 ∧ ∃ w e, opV T n s w e ∧ σ 83 17 ≠ 8 ∧ PF σ σ1 τ τ1 [] ∧ TR T n e σ1 τ1 ∧ PIL σ1 (w :: pl) ∧ σ1 83 17 = σ 83 17 + 1 ∧ σ1 83 18 = σ 83 18) ∨ (r ≠ 0 ∧ ∃ e, erV T n s (σ 83 17) r e ∧ PF σ σ1 τ τ1 [] ∧ TR T n e σ1 τ1)
end BGS
theorem rkA {T : Int → Int} {n s : Int} (hT : TB T n) (hs : 0 ≤ s ∧ s ≤ n) : (rk T n s = 1 ↔ tk T n s = 2) ∧ (rk T n s = 45 ↔ tk T n s = 30) ∧ (rk T n s = 40 ↔ tk T n s = 33) ∧ (s < n ↔ tk T n s ≠ 1) ∧ (tk T n s = 2 → s < n ∧ cD (T s)) := by
  obtain ⟨⟨r0, r1, r23, r24, r25, r26, r27, r28, r29, r30, r31, r32, r33, r34, r35, r36⟩, rw1, rw2, sn, n2, _, _⟩ := rk_tk hT hs
  exact ⟨r1, r30, r33, sn, n2⟩
theorem PIL_f {σ σ1 : zI} {pl : List Int} (h : PIL σ pl) (e16 : σ1 83 16 = σ 83 16) (e88 : σ1 88 = σ 88) : PIL σ1 pl := ⟨e16.trans h.1, by rw [e88]; exact h.2⟩
theorem PIL_F {σ σ1 τ τ1 : zI} {pl : List Int} (h : PIL σ pl) (f : FK σ σ1 τ τ1) : PIL σ1 pl := PIL_f h (f.2.1 16 (by omega)) (f.1 88 (by decide))
theorem PIL_em {σ σ1 : zI} {o v : Int} {pl : List Int} (h : PIL σ pl) (e : EM σ σ1 o v) : PIL σ1 pl := PIL_f h (e.2.2 16 (by omega)) (e.2.1 88 (by decide) (by decide))
/-- one more on the pile -/
theorem PIL_c {σ σ1 : zI} {pl : List Int} {w : Int} (h : PIL σ pl) (e16 : σ1 83 16 = σ 83 16 + 1) (e88 : σ1 88 = u1 (σ 88) (σ 83 16) w) : PIL σ1 (w :: pl) := by
  have h0 := h.1
  have hl : ((w :: pl).length : Int) = (pl.length : Int) + 1 := by rw [List.length_cons]; omega
  refine ⟨by omega, ?_, ?_⟩
  · rw [e88, h0, u1_s]
  · exact PLs_f pl (fun k k0 k1 => by rw [e88, u1_n (by omega)]) h.2
theorem FK_EB {σ σ1 τ τ1 : zI} (h : EB σ) (f : FK σ σ1 τ τ1) : EB σ1 := EB_f h (f.2.1 12 (by omega)) (by rw [f.2.1 14 (by omega)]; exact h.2)
theorem em14 {σ σ1 : zI} {o v : Int} (e : EM σ σ1 o v) : σ1 83 14 = σ 83 14 + 1 := by
  have := (e.1 (fun _ _ => 0)).1.1
  exact this
-- method 243: MillTownModel.beginOne()I
theorem c_243_0 : pg_cd 243 0 = (5, 1, 0, 0, 0) := by decide +kernel
theorem c_243_1 : pg_cd 243 1 = (43, 12, 144, 9, 0) := by decide +kernel
theorem c_243_4 : pg_cd 243 4 = (1, 1, 0, 0, 1) := by decide +kernel
theorem c_243_5 : pg_cd 243 5 = (37, 3, 0, 1, 34) := by decide +kernel
theorem c_243_8 : pg_cd 243 8 = (5, 1, 0, 0, 0) := by decide +kernel
theorem c_243_9 : pg_cd 243 9 = (43, 12, 150, 10, 0) := by decide +kernel
theorem c_243_12 : pg_cd 243 12 = (1, 3, 0, 0, 9999) := by decide +kernel
theorem c_243_15 : pg_cd 243 15 = (37, 3, 0, 5, 5) := by decide +kernel
theorem c_243_18 : pg_cd 243 18 = (1, 1, 0, 0, 2) := by decide +kernel
theorem c_243_19 : pg_cd 243 19 = (90, 0, 0, 0, 0) := by decide +kernel
theorem c_243_20 : pg_cd 243 20 = (5, 1, 0, 0, 0) := by decide +kernel
theorem c_243_21 : pg_cd 243 21 = (1, 1, 0, 0, 0) := by decide +kernel
theorem c_243_22 : pg_cd 243 22 = (5, 1, 0, 0, 0) := by decide +kernel
theorem c_243_23 : pg_cd 243 23 = (43, 12, 150, 10, 0) := by decide +kernel
theorem c_243_26 : pg_cd 243 26 = (80, 238, 187, 0, 0) := by decide +kernel
theorem c_243_29 : pg_cd 243 29 = (5, 1, 0, 0, 0) := by decide +kernel
theorem c_243_30 : pg_cd 243 30 = (80, 231, 168, 0, 0) := by decide +kernel
theorem c_243_33 : pg_cd 243 33 = (5, 1, 0, 0, 0) := by decide +kernel
theorem c_243_34 : pg_cd 243 34 = (80, 240, 199, 0, 0) := by decide +kernel
theorem c_243_37 : pg_cd 243 37 = (1, 1, 0, 0, 0) := by decide +kernel
theorem c_243_38 : pg_cd 243 38 = (90, 0, 0, 0, 0) := by decide +kernel
theorem c_243_39 : pg_cd 243 39 = (5, 1, 0, 0, 0) := by decide +kernel
theorem c_243_40 : pg_cd 243 40 = (80, 242, 202, 0, 0) := by decide +kernel
theorem c_243_43 : pg_cd 243 43 = (36, 3, 0, 2, 22) := by decide +kernel
theorem c_243_46 : pg_cd 243 46 = (5, 1, 0, 0, 0) := by decide +kernel
theorem c_243_47 : pg_cd 243 47 = (1, 1, 0, 0, 1) := by decide +kernel
theorem c_243_48 : pg_cd 243 48 = (5, 1, 0, 0, 0) := by decide +kernel
theorem c_243_49 : pg_cd 243 49 = (80, 242, 202, 0, 0) := by decide +kernel
theorem c_243_52 : pg_cd 243 52 = (80, 238, 187, 0, 0) := by decide +kernel
theorem c_243_55 : pg_cd 243 55 = (5, 1, 0, 0, 0) := by decide +kernel
theorem c_243_56 : pg_cd 243 56 = (80, 231, 168, 0, 0) := by decide +kernel
theorem c_243_59 : pg_cd 243 59 = (5, 1, 0, 0, 0) := by decide +kernel
theorem c_243_60 : pg_cd 243 60 = (80, 240, 199, 0, 0) := by decide +kernel
theorem c_243_63 : pg_cd 243 63 = (1, 1, 0, 0, 0) := by decide +kernel
theorem c_243_64 : pg_cd 243 64 = (90, 0, 0, 0, 0) := by decide +kernel
theorem c_243_65 : pg_cd 243 65 = (5, 1, 0, 0, 0) := by decide +kernel
theorem c_243_66 : pg_cd 243 66 = (1, 2, 0, 0, 109) := by decide +kernel
theorem c_243_68 : pg_cd 243 68 = (1, 2, 0, 0, 105) := by decide +kernel
theorem c_243_70 : pg_cd 243 70 = (1, 2, 0, 0, 110) := by decide +kernel
theorem c_243_72 : pg_cd 243 72 = (81, 232, 160, 0, 0) := by decide +kernel
theorem c_243_75 : pg_cd 243 75 = (80, 235, 164, 0, 0) := by decide +kernel
theorem c_243_78 : pg_cd 243 78 = (36, 3, 0, 0, 8) := by decide +kernel
theorem c_243_81 : pg_cd 243 81 = (1, 2, 0, 0, 41) := by decide +kernel
theorem c_243_83 : pg_cd 243 83 = (38, 3, 0, 0, 52) := by decide +kernel
theorem c_243_86 : pg_cd 243 86 = (5, 1, 0, 0, 0) := by decide +kernel
theorem c_243_87 : pg_cd 243 87 = (1, 2, 0, 0, 109) := by decide +kernel
theorem c_243_89 : pg_cd 243 89 = (1, 2, 0, 0, 97) := by decide +kernel
theorem c_243_91 : pg_cd 243 91 = (1, 2, 0, 0, 120) := by decide +kernel
theorem c_243_93 : pg_cd 243 93 = (81, 232, 160, 0, 0) := by decide +kernel
theorem c_243_96 : pg_cd 243 96 = (80, 235, 164, 0, 0) := by decide +kernel
theorem c_243_99 : pg_cd 243 99 = (36, 3, 0, 0, 8) := by decide +kernel
theorem c_243_102 : pg_cd 243 102 = (1, 2, 0, 0, 42) := by decide +kernel
theorem c_243_104 : pg_cd 243 104 = (38, 3, 0, 0, 31) := by decide +kernel
theorem c_243_107 : pg_cd 243 107 = (5, 1, 0, 0, 0) := by decide +kernel
theorem c_243_108 : pg_cd 243 108 = (43, 12, 144, 9, 0) := by decide +kernel
theorem c_243_111 : pg_cd 243 111 = (1, 2, 0, 0, 40) := by decide +kernel
theorem c_243_113 : pg_cd 243 113 = (37, 3, 0, 1, 8) := by decide +kernel
theorem c_243_116 : pg_cd 243 116 = (1, 2, 0, 0, 40) := by decide +kernel
theorem c_243_118 : pg_cd 243 118 = (38, 3, 0, 0, 17) := by decide +kernel
theorem c_243_121 : pg_cd 243 121 = (5, 1, 0, 0, 0) := by decide +kernel
theorem c_243_122 : pg_cd 243 122 = (43, 12, 144, 9, 0) := by decide +kernel
theorem c_243_125 : pg_cd 243 125 = (1, 2, 0, 0, 45) := by decide +kernel
theorem c_243_127 : pg_cd 243 127 = (37, 3, 0, 1, 7) := by decide +kernel
theorem c_243_130 : pg_cd 243 130 = (1, 1, 0, 0, 2) := by decide +kernel
theorem c_243_131 : pg_cd 243 131 = (38, 3, 0, 0, 4) := by decide +kernel
theorem c_243_134 : pg_cd 243 134 = (1, 1, 0, 0, 0) := by decide +kernel
theorem c_243_135 : pg_cd 243 135 = (6, 1, 0, 1, 0) := by decide +kernel
theorem c_243_136 : pg_cd 243 136 = (3, 1, 0, 1, 0) := by decide +kernel
theorem c_243_137 : pg_cd 243 137 = (36, 3, 0, 1, 5) := by decide +kernel
theorem c_243_140 : pg_cd 243 140 = (1, 1, 0, 0, 1) := by decide +kernel
theorem c_243_141 : pg_cd 243 141 = (90, 0, 0, 0, 0) := by decide +kernel
theorem c_243_142 : pg_cd 243 142 = (3, 1, 0, 1, 0) := by decide +kernel
theorem c_243_143 : pg_cd 243 143 = (1, 2, 0, 0, 40) := by decide +kernel
theorem c_243_145 : pg_cd 243 145 = (37, 3, 0, 5, 18) := by decide +kernel
theorem c_243_148 : pg_cd 243 148 = (5, 1, 0, 0, 0) := by decide +kernel
theorem c_243_149 : pg_cd 243 149 = (80, 231, 168, 0, 0) := by decide +kernel
theorem c_243_152 : pg_cd 243 152 = (5, 1, 0, 0, 0) := by decide +kernel
theorem c_243_153 : pg_cd 243 153 = (43, 12, 144, 9, 0) := by decide +kernel
theorem c_243_156 : pg_cd 243 156 = (1, 2, 0, 0, 40) := by decide +kernel
theorem c_243_158 : pg_cd 243 158 = (37, 3, 0, 0, 5) := by decide +kernel
theorem c_243_161 : pg_cd 243 161 = (1, 1, 0, 0, 1) := by decide +kernel
theorem c_243_162 : pg_cd 243 162 = (90, 0, 0, 0, 0) := by decide +kernel
theorem c_243_163 : pg_cd 243 163 = (5, 1, 0, 0, 0) := by decide +kernel
theorem c_243_164 : pg_cd 243 164 = (43, 12, 184, 17, 0) := by decide +kernel
theorem c_243_167 : pg_cd 243 167 = (1, 2, 0, 0, 8) := by decide +kernel
theorem c_243_169 : pg_cd 243 169 = (37, 3, 0, 1, 5) := by decide +kernel
theorem c_243_172 : pg_cd 243 172 = (1, 1, 0, 0, 3) := by decide +kernel
theorem c_243_173 : pg_cd 243 173 = (90, 0, 0, 0, 0) := by decide +kernel
theorem c_243_174 : pg_cd 243 174 = (5, 1, 0, 0, 0) := by decide +kernel
theorem c_243_175 : pg_cd 243 175 = (33, 1, 0, 0, 0) := by decide +kernel
theorem c_243_176 : pg_cd 243 176 = (43, 12, 184, 17, 0) := by decide +kernel
theorem c_243_179 : pg_cd 243 179 = (1, 1, 0, 0, 1) := by decide +kernel
theorem c_243_180 : pg_cd 243 180 = (10, 1, 0, 0, 0) := by decide +kernel
theorem c_243_181 : pg_cd 243 181 = (46, 12, 184, 17, 0) := by decide +kernel
theorem c_243_184 : pg_cd 243 184 = (5, 1, 0, 0, 0) := by decide +kernel
theorem c_243_185 : pg_cd 243 185 = (3, 1, 0, 1, 0) := by decide +kernel
theorem c_243_186 : pg_cd 243 186 = (80, 239, 206, 0, 0) := by decide +kernel
theorem c_243_189 : pg_cd 243 189 = (5, 1, 0, 0, 0) := by decide +kernel
theorem c_243_190 : pg_cd 243 190 = (80, 231, 168, 0, 0) := by decide +kernel
theorem c_243_193 : pg_cd 243 193 = (1, 1, 0, 0, 0) := by decide +kernel
theorem c_243_194 : pg_cd 243 194 = (90, 0, 0, 0, 0) := by decide +kernel
theorem mi_243 : pg_mc 243 = 12 ∧ pg_na 243 = 0 ∧ pg_mx 243 = 2 := by decide +kernel
set_option maxRecDepth 20000 in
theorem u_243_0 {d : Nat} {S : zS} {σ τ : zI} {Q : zQ} (t : if (σ 83 9) = 1 then (if (σ 83 10) ≤ 9999 then ((EB σ) ∧ ∀ (σ147 : zI), EM σ σ147 0 (σ 83 10) → ∃ T49 : Int → Int, ∃ n50 : Int, ∃ s51 : Int, (TB T49 n50) ∧ (TR T49 n50 s51 σ147 τ) ∧ (s51 < n50) ∧ ∀ (σ155 : zI) (τ156 : zI), FK σ147 σ155 τ τ156 → TR T49 n50 (nx T49 n50 s51) σ155 τ156 → ∃ pl59 : List Int, (PIL σ155 pl59) ∧ (pl59.length ≤ 150) ∧ (EB σ155) ∧ (σ155 83 14 + pl59.length ≤ 300) ∧ (0 ≤ σ155 83 17 ∧ σ155 83 17 ≤ 1000) ∧ ∀ (σ165 : zI), WHo σ155 σ165 pl59 → Q (some (.int (wI 0))) S σ165 τ156) else (Q (some (.int (wI 2))) S σ τ)) else (∃ T3 : Int → Int, ∃ n4 : Int, ∃ s5 : Int, (TB T3 n4) ∧ (TR T3 n4 s5 σ τ) ∧ (rg (nmo (tk T3 n4 s5))) ∧ if (nmo (tk T3 n4 s5)) < 0 then ((((0 : Int) ≤ 109 ∧ 109 ≤ (127 : Int)) ∧ ((0 : Int) ≤ 105 ∧ 105 ≤ (127 : Int)) ∧ ((0 : Int) ≤ 110 ∧ 110 ≤ (127 : Int))) ∧ (rj (109 * 65536 + 105 * 256 + 110)) ∧ if σ 83 9 = 2 ∧ τ 83 11 = (109 * 65536 + 105 * 256 + 110) then (wi (d + 8) 243 135 [.ref 83, .retAddr 0] [.int (wI 41)] S σ τ Q) else ((((0 : Int) ≤ 109 ∧ 109 ≤ (127 : Int)) ∧ ((0 : Int) ≤ 97 ∧ 97 ≤ (127 : Int)) ∧ ((0 : Int) ≤ 120 ∧ 120 ≤ (127 : Int))) ∧ (rj (109 * 65536 + 97 * 256 + 120)) ∧ if σ 83 9 = 2 ∧ τ 83 11 = (109 * 65536 + 97 * 256 + 120) then (wi (d + 8) 243 135 [.ref 83, .retAddr 0] [.int (wI 42)] S σ τ Q) else (if (σ 83 9) = 40 then (wi (d + 8) 243 135 [.ref 83, .retAddr 0] [.int (wI 40)] S σ τ Q) else (if (σ 83 9) = 45 then (wi (d + 8) 243 135 [.ref 83, .retAddr 0] [.int (wI 2)] S σ τ Q) else (wi (d + 8) 243 135 [.ref 83, .retAddr 0] [.int (wI 0)] S σ τ Q))))) else (∃ T18 : Int → Int, ∃ n19 : Int, ∃ s20 : Int, (TB T18 n19) ∧ (TR T18 n19 s20 σ τ) ∧ (rg (nmo (tk T18 n19 s20))) ∧ (EB σ) ∧ ∀ (σ125 : zI), EM σ σ125 1 (nmo (tk T18 n19 s20)) → ∃ T27 : Int → Int, ∃ n28 : Int, ∃ s29 : Int, (TB T27 n28) ∧ (TR T27 n28 s29 σ125 τ) ∧ (s29 < n28) ∧ ∀ (σ133 : zI) (τ134 : zI), FK σ125 σ133 τ τ134 → TR T27 n28 (nx T27 n28 s29) σ133 τ134 → ∃ pl37 : List Int, (PIL σ133 pl37) ∧ (pl37.length ≤ 150) ∧ (EB σ133) ∧ (σ133 83 14 + pl37.length ≤ 300) ∧ (0 ≤ σ133 83 17 ∧ σ133 83 17 ≤ 1000) ∧ ∀ (σ143 : zI), WHo σ133 σ143 pl37 → Q (some (.int (wI 0))) S σ143 τ134))) : wi (d + 8) 243 0 [.ref 83, .retAddr 0] [] S σ τ Q := by
  refine i5 c_243_0 rfl (wi_ok (fun K1 => ?_))
  refine i43 (v := σ 83 9) c_243_1 (lo (c := 83) (kd := 112) (n := 0) rfl (by decide)) rfl (i1 c_243_4 ?_)
  refine i37 c_243_5 (rge_ K1 rfl) (by decide) rfl (fun hc => ?_) (fun hc => ?_)
  · have t := iF t hc
    have ha2 : ¬ ((σ 83 9) = 1) := hc
    obtain ⟨T3, t⟩ := t
    obtain ⟨n4, t⟩ := t
    obtain ⟨s5, t⟩ := t
    obtain ⟨p6, t⟩ := t
    obtain ⟨p7, t⟩ := t
    refine i5 c_243_39 rfl ?_
    refine i80 (As := []) (rest := []) c_243_40 mi_242 rfl rfl (Nat.le_of_ble_eq_true rfl) (Nat.le_of_ble_eq_true rfl) (lo (c := 83) (kd := 112) (n := 0) rfl (by decide)) (q_242 (T := T3) (n := n4) (s := s5) p6 p7 ?_)
    show wi (d + 8) 243 43 [.ref 83, .retAddr 0] [.int (wI (nmo (tk T3 n4 s5)))] S σ τ Q
    obtain ⟨r8, t⟩ := t
    refine i36 c_243_43 r8 rfl (fun hc => ?_) (fun hc => ?_)
    · have t := iT t hc
      have ha9 : (nmo (tk T3 n4 s5)) < 0 := hc
      obtain ⟨p10, t⟩ := t
      refine i5 c_243_65 rfl (i1 c_243_66 (i1 c_243_68 (i1 c_243_70 ?_)))
      refine i81 (As := [.int (wI 109), .int (wI 105), .int (wI 110)]) (rest := [.ref 83]) c_243_72 mi_232 rfl rfl (Nat.le_of_ble_eq_true rfl) (Nat.le_of_ble_eq_true rfl) (q_232 p10 ?_)
      show wi (d + 8) 243 75 [.ref 83, .retAddr 0] [.long (wJ (109 * 65536 + 105 * 256 + 110)), .ref 83] S σ τ Q
      obtain ⟨p11, t⟩ := t
      refine i80 (As := [.long (wJ (109 * 65536 + 105 * 256 + 110))]) (rest := []) c_243_75 mi_235 rfl rfl (Nat.le_of_ble_eq_true rfl) (Nat.le_of_ble_eq_true rfl) (lo (c := 83) (kd := 112) (n := 0) rfl (by decide)) (q_235 p11 ?_)
      show wi (d + 8) 243 78 [.ref 83, .retAddr 0] [.int (wI (if σ 83 9 = 2 ∧ τ 83 11 = (109 * 65536 + 105 * 256 + 110) then 1 else 0))] S σ τ Q
      refine i36e c_243_78 rfl (fun hc => ?_) (fun hc => ?_)
      · have t := iT t hc
        have ha12 : σ 83 9 = 2 ∧ τ 83 11 = (109 * 65536 + 105 * 256 + 110) := hc
        refine i1 c_243_81 (i38 c_243_83 rfl t)
      · have t := iF t hc
        have ha12 : ¬ (σ 83 9 = 2 ∧ τ 83 11 = (109 * 65536 + 105 * 256 + 110)) := hc
        obtain ⟨p13, t⟩ := t
        refine i5 c_243_86 rfl (i1 c_243_87 (i1 c_243_89 (i1 c_243_91 ?_)))
        refine i81 (As := [.int (wI 109), .int (wI 97), .int (wI 120)]) (rest := [.ref 83]) c_243_93 mi_232 rfl rfl (Nat.le_of_ble_eq_true rfl) (Nat.le_of_ble_eq_true rfl) (q_232 p13 ?_)
        show wi (d + 8) 243 96 [.ref 83, .retAddr 0] [.long (wJ (109 * 65536 + 97 * 256 + 120)), .ref 83] S σ τ Q
        obtain ⟨p14, t⟩ := t
        refine i80 (As := [.long (wJ (109 * 65536 + 97 * 256 + 120))]) (rest := []) c_243_96 mi_235 rfl rfl (Nat.le_of_ble_eq_true rfl) (Nat.le_of_ble_eq_true rfl) (lo (c := 83) (kd := 112) (n := 0) rfl (by decide)) (q_235 p14 ?_)
        show wi (d + 8) 243 99 [.ref 83, .retAddr 0] [.int (wI (if σ 83 9 = 2 ∧ τ 83 11 = (109 * 65536 + 97 * 256 + 120) then 1 else 0))] S σ τ Q
        refine i36e c_243_99 rfl (fun hc => ?_) (fun hc => ?_)
        · have t := iT t hc
          have ha15 : σ 83 9 = 2 ∧ τ 83 11 = (109 * 65536 + 97 * 256 + 120) := hc
          refine i1 c_243_102 (i38 c_243_104 rfl t)
        · have t := iF t hc
          have ha15 : ¬ (σ 83 9 = 2 ∧ τ 83 11 = (109 * 65536 + 97 * 256 + 120)) := hc
          refine i5 c_243_107 rfl (i43 (v := σ 83 9) c_243_108 (lo (c := 83) (kd := 112) (n := 0) rfl (by decide)) rfl (i1 c_243_111 ?_))
          refine i37 c_243_113 (rge_ K1 rfl) (by decide) rfl (fun hc => ?_) (fun hc => ?_)
          · have t := iF t hc
            have ha16 : ¬ ((σ 83 9) = 40) := hc
            refine i5 c_243_121 rfl (i43 (v := σ 83 9) c_243_122 (lo (c := 83) (kd := 112) (n := 0) rfl (by decide)) rfl (i1 c_243_125 ?_))
            refine i37 c_243_127 (rge_ K1 rfl) (by decide) rfl (fun hc => ?_) (fun hc => ?_)
            · have t := iF t hc
              have ha17 : ¬ ((σ 83 9) = 45) := hc
              refine i1 c_243_134 t
            · have t := iT t (Decidable.not_not.mp hc)
              have ha17 : (σ 83 9) = 45 := Decidable.not_not.mp hc
              refine i1 c_243_130 (i38 c_243_131 rfl t)
          · have t := iT t (Decidable.not_not.mp hc)
            have ha16 : (σ 83 9) = 40 := Decidable.not_not.mp hc
            refine i1 c_243_116 (i38 c_243_118 rfl t)
    · have t := iF t hc
      have ha9 : ¬ ((nmo (tk T3 n4 s5)) < 0) := hc
      obtain ⟨T18, t⟩ := t
      obtain ⟨n19, t⟩ := t
      obtain ⟨s20, t⟩ := t
      obtain ⟨p21, t⟩ := t
      obtain ⟨p22, t⟩ := t
      refine i5 c_243_46 rfl (i1 c_243_47 (i5 c_243_48 rfl ?_))
      refine i80 (As := []) (rest := [.int (wI 1), .ref 83]) c_243_49 mi_242 rfl rfl (Nat.le_of_ble_eq_true rfl) (Nat.le_of_ble_eq_true rfl) (lo (c := 83) (kd := 112) (n := 0) rfl (by decide)) (q_242 (T := T18) (n := n19) (s := s20) p21 p22 ?_)
      show wi (d + 8) 243 52 [.ref 83, .retAddr 0] [.int (wI (nmo (tk T18 n19 s20))), .int (wI 1), .ref 83] S σ τ Q
      obtain ⟨r23, t⟩ := t
      obtain ⟨p24, t⟩ := t
      refine i80 (As := [.int (wI 1), .int (wI (nmo (tk T18 n19 s20)))]) (rest := []) c_243_52 mi_238 rfl rfl (Nat.le_of_ble_eq_true rfl) (Nat.le_of_ble_eq_true rfl) (lo (c := 83) (kd := 112) (n := 0) rfl (by decide)) (q_238 (by decide) r23 p24 (fun σ125 q26 => ?_))
      have t := t σ125 q26
      show wi (d + 8) 243 55 [.ref 83, .retAddr 0] [] S σ125 τ Q
      obtain ⟨T27, t⟩ := t
      obtain ⟨n28, t⟩ := t
      obtain ⟨s29, t⟩ := t
      obtain ⟨p30, t⟩ := t
      obtain ⟨p31, t⟩ := t
      obtain ⟨p32, t⟩ := t
      refine i5 c_243_55 rfl ?_
      refine i80 (As := []) (rest := []) c_243_56 mi_231 rfl rfl (Nat.le_of_ble_eq_true rfl) (Nat.le_of_ble_eq_true rfl) (lo (c := 83) (kd := 112) (n := 0) rfl (by decide)) (q_231t (T := T27) (n := n28) (s := s29) p30 p31 p32 (fun σ133 τ134 q35 q36 => ?_))
      have t := t σ133 τ134 q35 q36
      show wi (d + 8) 243 59 [.ref 83, .retAddr 0] [] S σ133 τ134 Q
      obtain ⟨pl37, t⟩ := t
      obtain ⟨p38, t⟩ := t
      obtain ⟨p39, t⟩ := t
      obtain ⟨p40, t⟩ := t
      obtain ⟨p41, t⟩ := t
      obtain ⟨p42, t⟩ := t
      refine i5 c_243_59 rfl ?_
      refine i80 (As := []) (rest := []) c_243_60 mi_240 rfl rfl (Nat.le_of_ble_eq_true rfl) (Nat.le_of_ble_eq_true rfl) (lo (c := 83) (kd := 112) (n := 0) rfl (by decide)) (q_240 (pl := pl37) p38 p39 p40 p41 p42 (fun σ143 q44 => ?_))
      have t := t σ143 q44
      show wi (d + 8) 243 63 [.ref 83, .retAddr 0] [] S σ143 τ134 Q
      refine i1 c_243_63 ?_
      exact i90 c_243_64 t
  · have t := iT t (Decidable.not_not.mp hc)
    have ha2 : (σ 83 9) = 1 := Decidable.not_not.mp hc
    refine i5 c_243_8 rfl (i43 (v := σ 83 10) c_243_9 (lo (c := 83) (kd := 112) (n := 0) rfl (by decide)) rfl (i1 c_243_12 ?_))
    refine i37 c_243_15 (rge_ K1 rfl) (by decide) rfl (fun hc => ?_) (fun hc => ?_)
    · have t := iT t hc
      have ha45 : (σ 83 10) ≤ 9999 := hc
      obtain ⟨p46, t⟩ := t
      refine i5 c_243_20 rfl (i1 c_243_21 (i5 c_243_22 rfl (i43 (v := σ 83 10) c_243_23 (lo (c := 83) (kd := 112) (n := 0) rfl (by decide)) rfl ?_)))
      refine i80 (As := [.int (wI 0), .int (wI (σ 83 10))]) (rest := []) c_243_26 mi_238 rfl rfl (Nat.le_of_ble_eq_true rfl) (Nat.le_of_ble_eq_true rfl) (lo (c := 83) (kd := 112) (n := 0) rfl (by decide)) (q_238 (by decide) (rge_ K1 rfl) p46 (fun σ147 q48 => ?_))
      have t := t σ147 q48
      show wi (d + 8) 243 29 [.ref 83, .retAddr 0] [] S σ147 τ Q
      obtain ⟨T49, t⟩ := t
      obtain ⟨n50, t⟩ := t
      obtain ⟨s51, t⟩ := t
      obtain ⟨p52, t⟩ := t
      obtain ⟨p53, t⟩ := t
      obtain ⟨p54, t⟩ := t
      refine i5 c_243_29 rfl ?_
      refine i80 (As := []) (rest := []) c_243_30 mi_231 rfl rfl (Nat.le_of_ble_eq_true rfl) (Nat.le_of_ble_eq_true rfl) (lo (c := 83) (kd := 112) (n := 0) rfl (by decide)) (q_231t (T := T49) (n := n50) (s := s51) p52 p53 p54 (fun σ155 τ156 q57 q58 => ?_))
      have t := t σ155 τ156 q57 q58
      show wi (d + 8) 243 33 [.ref 83, .retAddr 0] [] S σ155 τ156 Q
      obtain ⟨pl59, t⟩ := t
      obtain ⟨p60, t⟩ := t
      obtain ⟨p61, t⟩ := t
      obtain ⟨p62, t⟩ := t
      obtain ⟨p63, t⟩ := t
      obtain ⟨p64, t⟩ := t
      refine i5 c_243_33 rfl ?_
      refine i80 (As := []) (rest := []) c_243_34 mi_240 rfl rfl (Nat.le_of_ble_eq_true rfl) (Nat.le_of_ble_eq_true rfl) (lo (c := 83) (kd := 112) (n := 0) rfl (by decide)) (q_240 (pl := pl59) p60 p61 p62 p63 p64 (fun σ165 q66 => ?_))
      have t := t σ165 q66
      show wi (d + 8) 243 37 [.ref 83, .retAddr 0] [] S σ165 τ156 Q
      refine i1 c_243_37 ?_
      exact i90 c_243_38 t
    · have t := iF t hc
      have ha45 : ¬ ((σ 83 10) ≤ 9999) := hc
      refine i1 c_243_18 ?_
      exact i90 c_243_19 t
set_option maxRecDepth 20000 in
theorem u_243_135 {d : Nat} {S : zS} {σ τ : zI} {Q : zQ} {y1 : Value} {s0 : Int} (t : (rg s0) ∧ if s0 = 0 then (Q (some (.int (wI 1))) S σ τ) else (if s0 ≤ 40 then (wi (d + 8) 243 163 [.ref 83, .int (wI s0)] [] S σ τ Q) else (∃ T4 : Int → Int, ∃ n5 : Int, ∃ s6 : Int, (TB T4 n5) ∧ (TR T4 n5 s6 σ τ) ∧ (s6 < n5) ∧ ∀ (σ110 : zI) (τ111 : zI), FK σ σ110 τ τ111 → TR T4 n5 (nx T4 n5 s6) σ110 τ111 → if (σ110 83 9) = 40 then (wi (d + 8) 243 163 [.ref 83, .int (wI s0)] [] S σ110 τ111 Q) else (Q (some (.int (wI 1))) S σ110 τ111)))) : wi (d + 8) 243 135 [.ref 83, y1] [.int (wI s0)] S σ τ Q := by
  obtain ⟨r1, t⟩ := t
  refine i6 (L' := [.ref 83, .int (wI s0)]) c_243_135 rfl (i3 c_243_136 rfl ?_)
  refine i36 c_243_137 r1 rfl (fun hc => ?_) (fun hc => ?_)
  · have t := iF t hc
    have ha2 : ¬ (s0 = 0) := hc
    refine i3 c_243_142 rfl (i1 c_243_143 ?_)
    refine i37 c_243_145 r1 (by decide) rfl (fun hc => ?_) (fun hc => ?_)
    · have t := iT t hc
      have ha3 : s0 ≤ 40 := hc
      exact t
    · have t := iF t hc
      have ha3 : ¬ (s0 ≤ 40) := hc
      obtain ⟨T4, t⟩ := t
      obtain ⟨n5, t⟩ := t
      obtain ⟨s6, t⟩ := t
      obtain ⟨p7, t⟩ := t
      obtain ⟨p8, t⟩ := t
      obtain ⟨p9, t⟩ := t
      refine i5 c_243_148 rfl ?_
      refine i80 (As := []) (rest := []) c_243_149 mi_231 rfl rfl (Nat.le_of_ble_eq_true rfl) (Nat.le_of_ble_eq_true rfl) (lo (c := 83) (kd := 112) (n := 0) rfl (by decide)) (q_231t (T := T4) (n := n5) (s := s6) p7 p8 p9 (fun σ110 τ111 q12 q13 => ?_))
      have t := t σ110 τ111 q12 q13
      show wi (d + 8) 243 152 [.ref 83, .int (wI s0)] [] S σ110 τ111 Q
      refine i5 c_243_152 rfl (wi_ok (fun K14 => ?_))
      refine i43 (v := σ110 83 9) c_243_153 (lo (c := 83) (kd := 112) (n := 0) rfl (by decide)) rfl (i1 c_243_156 ?_)
      refine i37 c_243_158 (rge_ K14 rfl) (by decide) rfl (fun hc => ?_) (fun hc => ?_)
      · have t := iT t hc
        have ha15 : (σ110 83 9) = 40 := hc
        exact t
      · have t := iF t hc
        have ha15 : ¬ ((σ110 83 9) = 40) := hc
        refine i1 c_243_161 ?_
        exact i90 c_243_162 t
  · have t := iT t (Decidable.not_not.mp hc)
    have ha2 : s0 = 0 := Decidable.not_not.mp hc
    refine i1 c_243_140 ?_
    exact i90 c_243_141 t
set_option maxRecDepth 20000 in
theorem u_243_163 {d : Nat} {S : zS} {σ τ : zI} {Q : zQ} {x1 : Int} (t : if (σ 83 17) = 8 then (Q (some (.int (wI 3))) S σ τ) else (∃ w3 : Int, wI w3 = wI ((σ 83 17) + 1) ∧ rg w3 ∧ (rg x1) ∧ (0 ≤ (uc σ 83 (u1 (σ 83) 17 w3)) 83 16 ∧ (uc σ 83 (u1 (σ 83) 17 w3)) 83 16 ≤ 150) ∧ ∃ T8 : Int → Int, ∃ n9 : Int, ∃ s10 : Int, (TB T8 n9) ∧ (TR T8 n9 s10 (uc (uc (uc σ 83 (u1 (σ 83) 17 w3)) 88 (u1 ((uc σ 83 (u1 (σ 83) 17 w3)) 88) ((uc σ 83 (u1 (σ 83) 17 w3)) 83 16) x1)) 83 (u1 ((uc σ 83 (u1 (σ 83) 17 w3)) 83) 16 ((uc σ 83 (u1 (σ 83) 17 w3)) 83 16 + 1))) τ) ∧ (s10 < n9) ∧ ∀ (σ114 : zI) (τ115 : zI), FK (uc (uc (uc σ 83 (u1 (σ 83) 17 w3)) 88 (u1 ((uc σ 83 (u1 (σ 83) 17 w3)) 88) ((uc σ 83 (u1 (σ 83) 17 w3)) 83 16) x1)) 83 (u1 ((uc σ 83 (u1 (σ 83) 17 w3)) 83) 16 ((uc σ 83 (u1 (σ 83) 17 w3)) 83 16 + 1))) σ114 τ τ115 → TR T8 n9 (nx T8 n9 s10) σ114 τ115 → Q (some (.int (wI 0))) S σ114 τ115)) : wi (d + 8) 243 163 [.ref 83, .int (wI x1)] [] S σ τ Q := by
  refine i5 c_243_163 rfl (wi_ok (fun K1 => ?_))
  refine i43 (v := σ 83 17) c_243_164 (lo (c := 83) (kd := 112) (n := 0) rfl (by decide)) rfl (i1 c_243_167 ?_)
  refine i37 c_243_169 (rge_ K1 rfl) (by decide) rfl (fun hc => ?_) (fun hc => ?_)
  · have t := iF t hc
    have ha2 : ¬ ((σ 83 17) = 8) := hc
    obtain ⟨w3, e4, r5, t⟩ := t
    obtain ⟨r6, t⟩ := t
    obtain ⟨p7, t⟩ := t
    refine i5 c_243_174 rfl (i33a c_243_175 (i43 (v := σ 83 17) c_243_176 (lo (c := 83) (kd := 112) (n := 0) rfl (by decide)) rfl (i1 c_243_179 (i10 c_243_180 (i46 (σ1 := uc σ 83 (u1 (σ 83) 17 w3)) c_243_181 (lo (c := 83) (kd := 112) (n := 0) rfl (by decide)) (by decide) e4 r5 (wr_ rfl rfl) (i5 c_243_184 rfl (i3 c_243_185 rfl ?_)))))))
    refine i80 (As := [.int (wI x1)]) (rest := []) c_243_186 mi_239 rfl rfl (Nat.le_of_ble_eq_true rfl) (Nat.le_of_ble_eq_true rfl) (lo (c := 83) (kd := 112) (n := 0) rfl (by decide)) (q_239 r6 p7 ?_)
    show wi (d + 8) 243 189 [.ref 83, .int (wI x1)] [] S (uc (uc (uc σ 83 (u1 (σ 83) 17 w3)) 88 (u1 ((uc σ 83 (u1 (σ 83) 17 w3)) 88) ((uc σ 83 (u1 (σ 83) 17 w3)) 83 16) x1)) 83 (u1 ((uc σ 83 (u1 (σ 83) 17 w3)) 83) 16 ((uc σ 83 (u1 (σ 83) 17 w3)) 83 16 + 1))) τ Q
    obtain ⟨T8, t⟩ := t
    obtain ⟨n9, t⟩ := t
    obtain ⟨s10, t⟩ := t
    obtain ⟨p11, t⟩ := t
    obtain ⟨p12, t⟩ := t
    obtain ⟨p13, t⟩ := t
    refine i5 c_243_189 rfl ?_
    refine i80 (As := []) (rest := []) c_243_190 mi_231 rfl rfl (Nat.le_of_ble_eq_true rfl) (Nat.le_of_ble_eq_true rfl) (lo (c := 83) (kd := 112) (n := 0) rfl (by decide)) (q_231t (T := T8) (n := n9) (s := s10) p11 p12 p13 (fun σ114 τ115 q16 q17 => ?_))
    have t := t σ114 τ115 q16 q17
    show wi (d + 8) 243 193 [.ref 83, .int (wI x1)] [] S σ114 τ115 Q
    refine i1 c_243_193 ?_
    exact i90 c_243_194 t
  · have t := iT t (Decidable.not_not.mp hc)
    have ha2 : (σ 83 17) = 8 := Decidable.not_not.mp hc
    refine i1 c_243_172 ?_
    exact i90 c_243_173 t
theorem q_243 {d : Nat} {S : zS} {σ τ : zI} {Q : zQ} {pl : List Int} {T : Int → Int} {n : Int} {s : Int} (p0 : TB T n) (p1 : TR T n s σ τ) (p2 : PIL σ pl) (p3 : pl.length ≤ 150) (p4 : EB σ) (p5 : σ 83 14 + pl.length ≤ 299) (p6 : 0 ≤ σ 83 17 ∧ σ 83 17 ≤ 8) (t : ∀ (r : Int) (σ1 : zI) (τ1 : zI), 0 ≤ r → r ≤ 3 → BO T n s pl σ τ r σ1 τ1 → Q (some (.int (wI r))) S σ1 τ1) : wc (d + 8) 243 [.ref 83] S σ τ Q := by
  have hs := p1.1
  obtain ⟨r1, r30, r33, sn, n2⟩ := rkA p0 hs
  have k9 := p1.2.2.2.2.1
  have w21 := TR_w p1 p0 (t := 21) (v := 109 * 65536 + 105 * 256 + 110) (by omega) (fun x => by rw [wcd_21]; omega)
  have w22 := TR_w p1 p0 (t := 22) (v := 109 * 65536 + 97 * 256 + 120) (by omega) (fun x => by rw [wcd_22]; omega)
  have bad : ∀ (r e : Int) (σ' τ' : zI), 1 ≤ r ∧ r ≤ 3 → FK σ σ' τ τ' → TR T n e σ' τ' → erV T n s (σ 83 17) r e → Q (some (.int (wI r))) S σ' τ' := fun r e σ' τ' hr fk tr er => t r σ' τ' (by omega) (by omega) (Or.inr (Or.inr ⟨by omega, e, er, PF_F fk, tr⟩))
  have at163 : ∀ (w e : Int) (σ' τ' : zI), rg w → FK σ σ' τ τ' → TR T n e σ' τ' → e < n → opV T n s w (nx T n e) → (σ 83 17 = 8 → erV T n s (σ 83 17) 3 e) → wi (d + 8) 243 163 [.ref 83, .int (wI w)] [] S σ' τ' Q := by
    intro w e σ' τ' hw fk tr he op er
    have f17 : σ' 83 17 = σ 83 17 := fk.2.1 17 (by omega)
    have f16 : σ' 83 16 = pl.length := by rw [fk.2.1 16 (by omega)]; exact p2.1
    have pi := PIL_F p2 fk
    refine u_243_163 (ifI (fun c => bad 3 e σ' τ' (by omega) fk tr (er (by omega))) (fun c => ⟨σ' 83 17 + 1, rfl, by omega, hw, ?_, ?_⟩))
    · rw [uc_s, u1_n (by omega)]; omega
    refine ⟨T, n, e, p0, ?_, he, fun σ3 τ3 fk3 tr3 => t 0 σ3 τ3 (by omega) (by omega) (Or.inr (Or.inl ⟨rfl, w, nx T n e, op, by omega, ?_, tr3, ?_, ?_, ?_⟩))⟩
    · refine TR_f tr ?_ (fun k hk => ?_) rfl
      · rw [uc_n (by decide), uc_n (by decide), uc_n (by decide)]
      · rw [uc_s, u1_n (by omega), uc_s, u1_n (by omega)]
    · refine PF_k (fun c h1 h2 => ?_) (fun k hk => ?_) (fun c hc => ?_) (fun k hk => ?_)
      · rw [fk3.1 c h1, uc_n h1, uc_n h2, uc_n h1, fk.1 c h1]
      · rw [fk3.2.1 k (by omega), uc_s, u1_n (by omega), uc_s, u1_n (by omega), fk.2.1 k (by omega)]
      · rw [fk3.2.2.1 c hc, fk.2.2.1 c hc]
      · rw [fk3.2.2.2 k hk, fk.2.2.2 k hk]
    · refine PIL_c pi ?_ ?_
      · rw [fk3.2.1 16 (by omega), uc_s, u1_s, uc_s, u1_n (by omega)]
      · rw [fk3.1 88 (by decide), uc_n (by decide), uc_s, uc_n (by decide), uc_s, u1_n (by omega)]
    · rw [fk3.2.1 17 (by omega), uc_s, u1_n (by omega), uc_s, u1_s, f17]
    · rw [fk3.2.1 18 (by omega), uc_s, u1_n (by omega), uc_s, u1_n (by omega), fk.2.1 18 (by omega)]
  have leaf : ∀ (o v : Int) (σ' σ2 σ3 τ2 : zI), EM σ σ' o v → FK σ' σ2 τ τ2 → TR T n (nx T n s) σ2 τ2 → WHo σ2 σ3 pl → lfV T n s (o, v) → Q (some (.int (wI 0))) S σ3 τ2 := by
    intro o v σ' σ2 σ3 τ2 em fk tr w lf
    refine t 0 σ3 τ2 (by omega) (by omega) (Or.inl ⟨rfl, (o, v), lf, ?_, TR_wh tr w, w.2.1, ?_, w.2.2.2.1⟩)
    · exact PF_t (em.1 τ) (PF_t (PF_F fk) (w.1 τ2))
    · rw [w.2.2.1, fk.2.1 17 (by omega), em.2.2 17 (by omega)]
  have room : ∀ (o v : Int) (σ' σ2 τ2 : zI), EM σ σ' o v → FK σ' σ2 τ τ2 → PIL σ2 pl ∧ pl.length ≤ 150 ∧ EB σ2 ∧ σ2 83 14 + pl.length ≤ 300 ∧ (0 ≤ σ2 83 17 ∧ σ2 83 17 ≤ 1000) := by
    intro o v σ' σ2 τ2 em fk
    have e14 := em14 em
    have f14 : σ2 83 14 = σ 83 14 + 1 := by rw [fk.2.1 14 (by omega)]; exact e14
    have f17 : σ2 83 17 = σ 83 17 := by rw [fk.2.1 17 (by omega), em.2.2 17 (by omega)]
    exact ⟨PIL_F (PIL_em p2 em) fk, p3, EB_f p4 (by rw [fk.2.1 12 (by omega), em.2.2 12 (by omega)]) (by have := p4.2; omega), by omega, by omega⟩
  have at135 : ∀ w : Int, (w = 0 ∧ tk T n s ≠ 33 ∧ tk T n s ≠ 30 ∧ (tk T n s < 17 ∨ 22 < tk T n s) ∧ tk T n s ≠ 2) ∨ (w = 40 ∧ tk T n s = 33) ∨ (w = 2 ∧ tk T n s = 30) ∨ (w = tk T n s + 20 ∧ (tk T n s = 21 ∨ tk T n s = 22)) → wi (d + 8) 243 135 [.ref 83, .retAddr 0] [.int (wI w)] S σ τ Q := by
    intro w hw
    refine u_243_135 ⟨by omega, ifI (fun c => bad 1 s σ τ (by omega) FK_0 p1 ?_) (fun c => ifI (fun c2 => at163 w s σ τ (by omega) FK_0 p1 (sn.mpr (by omega)) ?_ (fun o8 => ?_)) (fun c2 => ⟨T, n, s, p0, p1, sn.mpr (by omega), fun σ2 τ2 fk tr => ?_⟩))⟩
    · exact Or.inr (Or.inr (Or.inr (Or.inr ⟨by omega, by omega, by omega, by omega, rfl, rfl⟩)))
    · by_cases h : tk T n s = 33
      · exact Or.inl ⟨by omega, h, rfl⟩
      · exact Or.inr (Or.inl ⟨by omega, by omega, rfl⟩)
    · exact Or.inr (Or.inr (Or.inr (Or.inl ⟨o8, by omega, rfl, rfl⟩)))
    · obtain ⟨_, _, q33, qn, _⟩ := rkA p0 tr.1
      rw [tr.2.2.2.2.1]
      refine ifI (fun c3 => at163 w (nx T n s) σ2 τ2 (by omega) fk tr (qn.mpr (by have := q33.mp c3; omega)) ?_ (fun o8 => ?_)) (fun c3 => bad 1 (nx T n s) σ2 τ2 (by omega) fk tr ?_)
      · exact Or.inr (Or.inr ⟨by omega, by omega, q33.mp c3, rfl⟩)
      · exact Or.inr (Or.inr (Or.inl ⟨o8, by omega, q33.mp c3, rfl, rfl⟩))
      · exact Or.inr (Or.inl ⟨by omega, fun z => c3 (q33.mpr z), rfl, rfl⟩)
  refine wc_of mi_243 rfl (u_243_0 ?_)
  refine ifI (fun e => ?_) (fun e => ?_)
  · have e2 : tk T n s = 2 := r1.mp (by rw [← k9]; exact e)
    have e10 : σ 83 10 = nm T n s := p1.2.2.2.2.2.1 (n2 e2).1 (n2 e2).2
    rw [e10]
    refine ifI (fun c => ⟨p4, fun σ' em => ⟨T, n, s, p0, TR_em p1 em, (n2 e2).1, fun σ2 τ2 fk tr => ?_⟩⟩) (fun c => bad 2 s σ τ (by omega) FK_0 p1 (Or.inl ⟨e2, by omega, rfl, rfl⟩))
    obtain ⟨a1, a2, a3, a4, a5⟩ := room _ _ _ _ _ em fk
    exact ⟨pl, a1, a2, a3, a4, a5, fun σ3 w => leaf _ _ _ _ _ _ em fk tr w (Or.inl ⟨e2, c, rfl⟩)⟩
  · have ne2 : tk T n s ≠ 2 := fun z => e (by rw [k9]; exact r1.mpr z)
    have nb : rg (nmo (tk T n s)) := by unfold nmo; split <;> omega
    refine ⟨T, n, s, p0, p1, nb, ifI (fun c => ?_) (fun c => ?_)⟩
    · have no : ¬ (17 ≤ tk T n s ∧ tk T n s ≤ 20) := fun z => by unfold nmo at c; rw [if_pos z] at c; omega
      refine ⟨by decide, by decide, ifI (fun c1 => at135 41 (Or.inr (Or.inr (Or.inr (by have := w21.mp c1; omega))))) (fun c1 => ⟨by decide, by decide, ifI (fun c2 => at135 42 (Or.inr (Or.inr (Or.inr (by have := w22.mp c2; omega))))) (fun c2 => ?_)⟩)⟩
      have n21 : tk T n s ≠ 21 := fun z => c1 (w21.mpr z)
      have n22 : tk T n s ≠ 22 := fun z => c2 (w22.mpr z)
      rw [k9]
      refine ifI (fun c3 => at135 40 (Or.inr (Or.inl ⟨rfl, r33.mp c3⟩))) (fun c3 => ifI (fun c4 => at135 2 (Or.inr (Or.inr (Or.inl ⟨rfl, r30.mp c4⟩)))) (fun c4 => at135 0 (Or.inl ⟨rfl, fun z => c3 (r33.mpr z), fun z => c4 (r30.mpr z), by omega, ne2⟩)))
    · have yes : 17 ≤ tk T n s ∧ tk T n s ≤ 20 := by
        refine Decidable.byContradiction (fun z => c ?_)
        unfold nmo
        rw [if_neg z]; omega
      have ev : nmo (tk T n s) = tk T n s - 16 := by unfold nmo; rw [if_pos yes]
      refine ⟨T, n, s, p0, p1, nb, p4, fun σ' em => ?_⟩
      rw [ev] at em
      refine ⟨T, n, s, p0, TR_em p1 em, sn.mpr (by omega), fun σ2 τ2 fk tr => ?_⟩
      obtain ⟨a1, a2, a3, a4, a5⟩ := room _ _ _ _ _ em fk
      exact ⟨pl, a1, a2, a3, a4, a5, fun σ3 w => leaf _ _ _ _ _ _ em fk tr w (Or.inr ⟨yes, rfl⟩)⟩
/-- the sign behind a pair -/
def pc (x : Int) : List (Int × Int) := if 40 < x then [(if x = 43 then 7 else 8, 0)] else []
section BHS
variable (T : Int → Int) (n s : Int)
/-- what a sign behind a ONE comes to -/
def BH (pl : List Int) (σ τ : zI) (r : Int) (σ1 τ1 : zI) : Prop := (∃ l, r = 0 ∧ ((l = 3 ∧ (tk T n s = 29 ∨ tk T n s = 30)) ∨ (l = 5 ∧ (tk T n s = 31 ∨ tk T n s = 32))) ∧ PF σ σ1 τ τ1 (eSt l pl) ∧ TR T n (nx T n s) σ1 τ1 ∧ PIL σ1 ((tk T n s - 26) :: ds l pl) ∧ σ1 83 17 = σ 83 17 ∧ σ1 83 18 = 0) ∨ ∃ x ρ, ds 3 pl = x :: ρ ∧ ((tk T n s = 35 ∧ (x = 41 ∨ x = 42) ∧ r = 0 ∧ PF σ σ1 τ τ1 (eSt 3 pl) ∧ TR T n (nx T n s) σ1 τ1 ∧ PIL σ1 ((x + 2) :: ρ) ∧ σ1 83 17 = σ 83 17 ∧ σ1 83 18 = 0) ∨ (((tk T n s = 35 ∧ x ≠ 41 ∧ x ≠ 42) ∨ (tk T n s = 34 ∧ (x = 41 ∨ x = 42))) ∧ r = 1 ∧ PF σ σ1 τ τ1 (eSt 3 pl) ∧ TR T n s σ1 τ1) ∨ (tk T n s = 34 ∧ x ≠ 41 ∧ x ≠ 42 ∧ r = 0 ∧ PF σ σ1 τ τ1 (eSt 3 pl ++ (pc x ++ eM ρ)) ∧ TR T n (nx T n s) σ1 τ1 ∧ PIL σ1 (dm ρ) ∧ σ1 83 17 = σ 83 17 - 1 - (eM ρ).length ∧ σ1 83 18 = 1))
end BHS
theorem hpar_ds : ∀ pl : List Int, hpar pl = true → ∃ x ρ, ds 3 pl = x :: ρ
  | [], h => by cases h
  | x :: t, h => by
    unfold ds
    by_cases c : x < 40 ∧ 3 ≤ x
    · rw [if_pos c]
      have e : (decide (40 ≤ x) || hpar t) = true := h
      rw [Bool.or_eq_true, decide_eq_true_iff] at e
      exact hpar_ds t (e.resolve_left (by omega))
    · rw [if_neg c]
      exact ⟨x, t, rfl⟩
theorem rkB {T : Int → Int} {n s : Int} (hT : TB T n) (hs : 0 ≤ s ∧ s ≤ n) : (rk T n s = 43 ↔ tk T n s = 29) ∧ (rk T n s = 45 ↔ tk T n s = 30) ∧ (rk T n s = 42 ↔ tk T n s = 31) ∧ (rk T n s = 47 ↔ tk T n s = 32) ∧ (rk T n s = 41 ↔ tk T n s = 34) ∧ (rk T n s = 44 ↔ tk T n s = 35) ∧ (s < n ↔ tk T n s ≠ 1) ∧ (0 ≤ rk T n s ∧ rk T n s ≤ 255) := by
  obtain ⟨⟨r0, r1, r23, r24, r25, r26, r27, r28, r29, r30, r31, r32, r33, r34, r35, r36⟩, rw1, rw2, sn, n2, b1, b2⟩ := rk_tk hT hs
  exact ⟨r29, r30, r31, r32, r34, r35, sn, b2⟩
/-- one less on the pile -/
theorem PIL_p {σ σ1 : zI} {pl : List Int} {x : Int} (h : PIL σ (x :: pl)) (e16 : σ1 83 16 = σ 83 16 - 1) (e88 : σ1 88 = σ 88) : PIL σ1 pl := by
  have h0 := h.1
  have hl : ((x :: pl).length : Int) = (pl.length : Int) + 1 := by rw [List.length_cons]; omega
  exact ⟨by omega, by rw [e88]; exact h.2.2⟩
-- method 246: MillTownModel.behindOne()I
theorem c_246_0 : pg_cd 246 0 = (5, 1, 0, 0, 0) := by decide +kernel
theorem c_246_1 : pg_cd 246 1 = (43, 12, 144, 9, 0) := by decide +kernel
theorem c_246_4 : pg_cd 246 4 = (6, 1, 0, 1, 0) := by decide +kernel
theorem c_246_5 : pg_cd 246 5 = (3, 1, 0, 1, 0) := by decide +kernel
theorem c_246_6 : pg_cd 246 6 = (1, 2, 0, 0, 43) := by decide +kernel
theorem c_246_8 : pg_cd 246 8 = (37, 3, 0, 0, 9) := by decide +kernel
theorem c_246_11 : pg_cd 246 11 = (3, 1, 0, 1, 0) := by decide +kernel
theorem c_246_12 : pg_cd 246 12 = (1, 2, 0, 0, 45) := by decide +kernel
theorem c_246_14 : pg_cd 246 14 = (37, 3, 0, 1, 31) := by decide +kernel
theorem c_246_17 : pg_cd 246 17 = (5, 1, 0, 0, 0) := by decide +kernel
theorem c_246_18 : pg_cd 246 18 = (1, 1, 0, 0, 3) := by decide +kernel
theorem c_246_19 : pg_cd 246 19 = (80, 241, 213, 0, 0) := by decide +kernel
theorem c_246_22 : pg_cd 246 22 = (5, 1, 0, 0, 0) := by decide +kernel
theorem c_246_23 : pg_cd 246 23 = (3, 1, 0, 1, 0) := by decide +kernel
theorem c_246_24 : pg_cd 246 24 = (1, 2, 0, 0, 43) := by decide +kernel
theorem c_246_26 : pg_cd 246 26 = (37, 3, 0, 1, 7) := by decide +kernel
theorem c_246_29 : pg_cd 246 29 = (1, 1, 0, 0, 3) := by decide +kernel
theorem c_246_30 : pg_cd 246 30 = (38, 3, 0, 0, 4) := by decide +kernel
theorem c_246_33 : pg_cd 246 33 = (1, 1, 0, 0, 4) := by decide +kernel
theorem c_246_34 : pg_cd 246 34 = (80, 239, 206, 0, 0) := by decide +kernel
theorem c_246_37 : pg_cd 246 37 = (5, 1, 0, 0, 0) := by decide +kernel
theorem c_246_38 : pg_cd 246 38 = (1, 1, 0, 0, 0) := by decide +kernel
theorem c_246_39 : pg_cd 246 39 = (47, 12, 180, 18, 0) := by decide +kernel
theorem c_246_42 : pg_cd 246 42 = (38, 3, 0, 0, 166) := by decide +kernel
theorem c_246_45 : pg_cd 246 45 = (3, 1, 0, 1, 0) := by decide +kernel
theorem c_246_46 : pg_cd 246 46 = (1, 2, 0, 0, 42) := by decide +kernel
theorem c_246_48 : pg_cd 246 48 = (37, 3, 0, 0, 9) := by decide +kernel
theorem c_246_51 : pg_cd 246 51 = (3, 1, 0, 1, 0) := by decide +kernel
theorem c_246_52 : pg_cd 246 52 = (1, 2, 0, 0, 47) := by decide +kernel
theorem c_246_54 : pg_cd 246 54 = (37, 3, 0, 1, 32) := by decide +kernel
theorem c_246_57 : pg_cd 246 57 = (5, 1, 0, 0, 0) := by decide +kernel
theorem c_246_58 : pg_cd 246 58 = (1, 1, 0, 0, 5) := by decide +kernel
theorem c_246_59 : pg_cd 246 59 = (80, 241, 213, 0, 0) := by decide +kernel
theorem c_246_62 : pg_cd 246 62 = (5, 1, 0, 0, 0) := by decide +kernel
theorem c_246_63 : pg_cd 246 63 = (3, 1, 0, 1, 0) := by decide +kernel
theorem c_246_64 : pg_cd 246 64 = (1, 2, 0, 0, 42) := by decide +kernel
theorem c_246_66 : pg_cd 246 66 = (37, 3, 0, 1, 7) := by decide +kernel
theorem c_246_69 : pg_cd 246 69 = (1, 1, 0, 0, 5) := by decide +kernel
theorem c_246_70 : pg_cd 246 70 = (38, 3, 0, 0, 5) := by decide +kernel
theorem c_246_73 : pg_cd 246 73 = (1, 2, 0, 0, 6) := by decide +kernel
theorem c_246_75 : pg_cd 246 75 = (80, 239, 206, 0, 0) := by decide +kernel
theorem c_246_78 : pg_cd 246 78 = (5, 1, 0, 0, 0) := by decide +kernel
theorem c_246_79 : pg_cd 246 79 = (1, 1, 0, 0, 0) := by decide +kernel
theorem c_246_80 : pg_cd 246 80 = (47, 12, 180, 18, 0) := by decide +kernel
theorem c_246_83 : pg_cd 246 83 = (38, 3, 0, 0, 125) := by decide +kernel
theorem c_246_86 : pg_cd 246 86 = (5, 1, 0, 0, 0) := by decide +kernel
theorem c_246_87 : pg_cd 246 87 = (1, 1, 0, 0, 3) := by decide +kernel
theorem c_246_88 : pg_cd 246 88 = (80, 241, 213, 0, 0) := by decide +kernel
theorem c_246_91 : pg_cd 246 91 = (5, 1, 0, 0, 0) := by decide +kernel
theorem c_246_92 : pg_cd 246 92 = (45, 12, 30, 15, 0) := by decide +kernel
theorem c_246_95 : pg_cd 246 95 = (5, 1, 0, 0, 0) := by decide +kernel
theorem c_246_96 : pg_cd 246 96 = (43, 12, 177, 16, 0) := by decide +kernel
theorem c_246_99 : pg_cd 246 99 = (1, 1, 0, 0, 1) := by decide +kernel
theorem c_246_100 : pg_cd 246 100 = (11, 1, 0, 0, 0) := by decide +kernel
theorem c_246_101 : pg_cd 246 101 = (50, 1, 0, 0, 0) := by decide +kernel
theorem c_246_102 : pg_cd 246 102 = (6, 1, 0, 2, 0) := by decide +kernel
theorem c_246_103 : pg_cd 246 103 = (3, 1, 0, 1, 0) := by decide +kernel
theorem c_246_104 : pg_cd 246 104 = (1, 2, 0, 0, 44) := by decide +kernel
theorem c_246_106 : pg_cd 246 106 = (37, 3, 0, 1, 40) := by decide +kernel
theorem c_246_109 : pg_cd 246 109 = (3, 1, 0, 2, 0) := by decide +kernel
theorem c_246_110 : pg_cd 246 110 = (1, 2, 0, 0, 41) := by decide +kernel
theorem c_246_112 : pg_cd 246 112 = (37, 3, 0, 0, 11) := by decide +kernel
theorem c_246_115 : pg_cd 246 115 = (3, 1, 0, 2, 0) := by decide +kernel
theorem c_246_116 : pg_cd 246 116 = (1, 2, 0, 0, 42) := by decide +kernel
theorem c_246_118 : pg_cd 246 118 = (37, 3, 0, 0, 5) := by decide +kernel
theorem c_246_121 : pg_cd 246 121 = (1, 1, 0, 0, 1) := by decide +kernel
theorem c_246_122 : pg_cd 246 122 = (90, 0, 0, 0, 0) := by decide +kernel
theorem c_246_123 : pg_cd 246 123 = (5, 1, 0, 0, 0) := by decide +kernel
theorem c_246_124 : pg_cd 246 124 = (45, 12, 30, 15, 0) := by decide +kernel
theorem c_246_127 : pg_cd 246 127 = (5, 1, 0, 0, 0) := by decide +kernel
theorem c_246_128 : pg_cd 246 128 = (43, 12, 177, 16, 0) := by decide +kernel
theorem c_246_131 : pg_cd 246 131 = (1, 1, 0, 0, 1) := by decide +kernel
theorem c_246_132 : pg_cd 246 132 = (11, 1, 0, 0, 0) := by decide +kernel
theorem c_246_133 : pg_cd 246 133 = (34, 1, 0, 0, 0) := by decide +kernel
theorem c_246_134 : pg_cd 246 134 = (50, 1, 0, 0, 0) := by decide +kernel
theorem c_246_135 : pg_cd 246 135 = (1, 1, 0, 0, 2) := by decide +kernel
theorem c_246_136 : pg_cd 246 136 = (10, 1, 0, 0, 0) := by decide +kernel
theorem c_246_137 : pg_cd 246 137 = (54, 1, 0, 0, 0) := by decide +kernel
theorem c_246_138 : pg_cd 246 138 = (5, 1, 0, 0, 0) := by decide +kernel
theorem c_246_139 : pg_cd 246 139 = (1, 1, 0, 0, 0) := by decide +kernel
theorem c_246_140 : pg_cd 246 140 = (47, 12, 180, 18, 0) := by decide +kernel
theorem c_246_143 : pg_cd 246 143 = (38, 3, 0, 0, 65) := by decide +kernel
theorem c_246_146 : pg_cd 246 146 = (3, 1, 0, 2, 0) := by decide +kernel
theorem c_246_147 : pg_cd 246 147 = (1, 2, 0, 0, 41) := by decide +kernel
theorem c_246_149 : pg_cd 246 149 = (37, 3, 0, 0, 9) := by decide +kernel
theorem c_246_152 : pg_cd 246 152 = (3, 1, 0, 2, 0) := by decide +kernel
theorem c_246_153 : pg_cd 246 153 = (1, 2, 0, 0, 42) := by decide +kernel
theorem c_246_155 : pg_cd 246 155 = (37, 3, 0, 1, 5) := by decide +kernel
theorem c_246_158 : pg_cd 246 158 = (1, 1, 0, 0, 1) := by decide +kernel
theorem c_246_159 : pg_cd 246 159 = (90, 0, 0, 0, 0) := by decide +kernel
theorem c_246_160 : pg_cd 246 160 = (5, 1, 0, 0, 0) := by decide +kernel
theorem c_246_161 : pg_cd 246 161 = (33, 1, 0, 0, 0) := by decide +kernel
theorem c_246_162 : pg_cd 246 162 = (43, 12, 177, 16, 0) := by decide +kernel
theorem c_246_165 : pg_cd 246 165 = (1, 1, 0, 0, 1) := by decide +kernel
theorem c_246_166 : pg_cd 246 166 = (11, 1, 0, 0, 0) := by decide +kernel
theorem c_246_167 : pg_cd 246 167 = (46, 12, 177, 16, 0) := by decide +kernel
theorem c_246_170 : pg_cd 246 170 = (5, 1, 0, 0, 0) := by decide +kernel
theorem c_246_171 : pg_cd 246 171 = (33, 1, 0, 0, 0) := by decide +kernel
theorem c_246_172 : pg_cd 246 172 = (43, 12, 184, 17, 0) := by decide +kernel
theorem c_246_175 : pg_cd 246 175 = (1, 1, 0, 0, 1) := by decide +kernel
theorem c_246_176 : pg_cd 246 176 = (11, 1, 0, 0, 0) := by decide +kernel
theorem c_246_177 : pg_cd 246 177 = (46, 12, 184, 17, 0) := by decide +kernel
theorem c_246_180 : pg_cd 246 180 = (3, 1, 0, 2, 0) := by decide +kernel
theorem c_246_181 : pg_cd 246 181 = (1, 2, 0, 0, 40) := by decide +kernel
theorem c_246_183 : pg_cd 246 183 = (37, 3, 0, 5, 21) := by decide +kernel
theorem c_246_186 : pg_cd 246 186 = (5, 1, 0, 0, 0) := by decide +kernel
theorem c_246_187 : pg_cd 246 187 = (3, 1, 0, 2, 0) := by decide +kernel
theorem c_246_188 : pg_cd 246 188 = (1, 2, 0, 0, 43) := by decide +kernel
theorem c_246_190 : pg_cd 246 190 = (37, 3, 0, 1, 8) := by decide +kernel
theorem c_246_193 : pg_cd 246 193 = (1, 2, 0, 0, 7) := by decide +kernel
theorem c_246_195 : pg_cd 246 195 = (38, 3, 0, 0, 5) := by decide +kernel
theorem c_246_198 : pg_cd 246 198 = (1, 2, 0, 0, 8) := by decide +kernel
theorem c_246_200 : pg_cd 246 200 = (1, 1, 0, 0, 0) := by decide +kernel
theorem c_246_201 : pg_cd 246 201 = (80, 238, 187, 0, 0) := by decide +kernel
theorem c_246_204 : pg_cd 246 204 = (5, 1, 0, 0, 0) := by decide +kernel
theorem c_246_205 : pg_cd 246 205 = (80, 240, 199, 0, 0) := by decide +kernel
theorem c_246_208 : pg_cd 246 208 = (5, 1, 0, 0, 0) := by decide +kernel
theorem c_246_209 : pg_cd 246 209 = (80, 231, 168, 0, 0) := by decide +kernel
theorem c_246_212 : pg_cd 246 212 = (1, 1, 0, 0, 0) := by decide +kernel
theorem c_246_213 : pg_cd 246 213 = (90, 0, 0, 0, 0) := by decide +kernel
theorem mi_246 : pg_mc 246 = 12 ∧ pg_na 246 = 0 ∧ pg_mx 246 = 3 := by decide +kernel
set_option maxRecDepth 20000 in
theorem u_246_0 {d : Nat} {S : zS} {σ τ : zI} {Q : zQ} (t : if (σ 83 9) = 43 then (wi (d + 8) 246 17 [.ref 83, .int (wI (σ 83 9)), .retAddr 0] [] S σ τ Q) else (if (σ 83 9) = 45 then (wi (d + 8) 246 17 [.ref 83, .int (wI (σ 83 9)), .retAddr 0] [] S σ τ Q) else (if (σ 83 9) = 42 then (wi (d + 8) 246 57 [.ref 83, .int (wI (σ 83 9)), .retAddr 0] [] S σ τ Q) else (if (σ 83 9) = 47 then (wi (d + 8) 246 57 [.ref 83, .int (wI (σ 83 9)), .retAddr 0] [] S σ τ Q) else (∃ pl6 : List Int, (PIL σ pl6) ∧ (pl6.length ≤ 150) ∧ (EB σ) ∧ (σ 83 14 + pl6.length ≤ 300) ∧ ∀ (σ111 : zI), SE σ σ111 3 pl6 → (0 ≤ (σ111 83 16) - 1 ∧ (σ111 83 16) - 1 < 160) ∧ if (σ 83 9) = 44 then (if (σ111 88 ((σ111 83 16) - 1)) = 41 then (wi (d + 8) 246 123 [.ref 83, .int (wI (σ 83 9)), .int (wI (σ111 88 ((σ111 83 16) - 1)))] [] S σ111 τ Q) else (if (σ111 88 ((σ111 83 16) - 1)) = 42 then (wi (d + 8) 246 123 [.ref 83, .int (wI (σ 83 9)), .int (wI (σ111 88 ((σ111 83 16) - 1)))] [] S σ111 τ Q) else (Q (some (.int (wI 1))) S σ111 τ))) else (if (σ111 88 ((σ111 83 16) - 1)) = 41 then (wi (d + 8) 246 158 [.ref 83, .int (wI (σ 83 9)), .int (wI (σ111 88 ((σ111 83 16) - 1)))] [] S σ111 τ Q) else (if (σ111 88 ((σ111 83 16) - 1)) = 42 then (wi (d + 8) 246 158 [.ref 83, .int (wI (σ 83 9)), .int (wI (σ111 88 ((σ111 83 16) - 1)))] [] S σ111 τ Q) else (∃ w18 : Int, wI w18 = wI ((σ111 83 16) - 1) ∧ rg w18 ∧ ∃ w22 : Int, wI w22 = wI ((σ111 83 17) - 1) ∧ rg w22 ∧ if (σ111 88 ((σ111 83 16) - 1)) ≤ 40 then (∃ pl26 : List Int, (PIL (uc σ111 83 (u1 (u1 (σ111 83) 16 w18) 17 w22)) pl26) ∧ (pl26.length ≤ 150) ∧ (EB (uc σ111 83 (u1 (u1 (σ111 83) 16 w18) 17 w22))) ∧ ((uc σ111 83 (u1 (u1 (σ111 83) 16 w18) 17 w22)) 83 14 + pl26.length ≤ 300) ∧ (0 ≤ (uc σ111 83 (u1 (u1 (σ111 83) 16 w18) 17 w22)) 83 17 ∧ (uc σ111 83 (u1 (u1 (σ111 83) 16 w18) 17 w22)) 83 17 ≤ 1000) ∧ ∀ (σ132 : zI), WHo (uc σ111 83 (u1 (u1 (σ111 83) 16 w18) 17 w22)) σ132 pl26 → wi (d + 8) 246 208 [.ref 83, .int (wI (σ 83 9)), .int (wI (σ111 88 ((σ111 83 16) - 1)))] [] S σ132 τ Q) else (if (σ111 88 ((σ111 83 16) - 1)) = 43 then (wi (d + 8) 246 200 [.ref 83, .int (wI (σ 83 9)), .int (wI (σ111 88 ((σ111 83 16) - 1)))] [.int (wI 7), .ref 83] S (uc σ111 83 (u1 (u1 (σ111 83) 16 w18) 17 w22)) τ Q) else (wi (d + 8) 246 200 [.ref 83, .int (wI (σ 83 9)), .int (wI (σ111 88 ((σ111 83 16) - 1)))] [.int (wI 8), .ref 83] S (uc σ111 83 (u1 (u1 (σ111 83) 16 w18) 17 w22)) τ Q)))))))))) : wi (d + 8) 246 0 [.ref 83, .retAddr 0, .retAddr 0] [] S σ τ Q := by
  refine i5 c_246_0 rfl (wi_ok (fun K1 => ?_))
  refine i43 (v := σ 83 9) c_246_1 (lo (c := 83) (kd := 112) (n := 0) rfl (by decide)) rfl (i6 (L' := [.ref 83, .int (wI (σ 83 9)), .retAddr 0]) c_246_4 rfl (i3 c_246_5 rfl (i1 c_246_6 ?_)))
  refine i37 c_246_8 (rge_ K1 rfl) (by decide) rfl (fun hc => ?_) (fun hc => ?_)
  · have t := iT t hc
    have ha2 : (σ 83 9) = 43 := hc
    exact t
  · have t := iF t hc
    have ha2 : ¬ ((σ 83 9) = 43) := hc
    refine i3 c_246_11 rfl (i1 c_246_12 ?_)
    refine i37 c_246_14 (rge_ K1 rfl) (by decide) rfl (fun hc => ?_) (fun hc => ?_)
    · have t := iF t hc
      have ha3 : ¬ ((σ 83 9) = 45) := hc
      refine i3 c_246_45 rfl (i1 c_246_46 ?_)
      refine i37 c_246_48 (rge_ K1 rfl) (by decide) rfl (fun hc => ?_) (fun hc => ?_)
      · have t := iT t hc
        have ha4 : (σ 83 9) = 42 := hc
        exact t
      · have t := iF t hc
        have ha4 : ¬ ((σ 83 9) = 42) := hc
        refine i3 c_246_51 rfl (i1 c_246_52 ?_)
        refine i37 c_246_54 (rge_ K1 rfl) (by decide) rfl (fun hc => ?_) (fun hc => ?_)
        · have t := iF t hc
          have ha5 : ¬ ((σ 83 9) = 47) := hc
          obtain ⟨pl6, t⟩ := t
          obtain ⟨p7, t⟩ := t
          obtain ⟨p8, t⟩ := t
          obtain ⟨p9, t⟩ := t
          obtain ⟨p10, t⟩ := t
          refine i5 c_246_86 rfl (i1 c_246_87 ?_)
          refine i80 (As := [.int (wI 3)]) (rest := []) c_246_88 mi_241 rfl rfl (Nat.le_of_ble_eq_true rfl) (Nat.le_of_ble_eq_true rfl) (lo (c := 83) (kd := 112) (n := 0) rfl (by decide)) (q_241 (pl := pl6) (by decide) p7 p8 p9 p10 (fun σ111 q12 => ?_))
          have t := t σ111 q12
          show wi (d + 8) 246 91 [.ref 83, .int (wI (σ 83 9)), .retAddr 0] [] S σ111 τ Q
          refine i5 c_246_91 rfl (i45 c_246_92 (lo (c := 83) (kd := 112) (n := 0) rfl (by decide)) (lro (c := 83) (k := 15) (j := 88) (by decide)) (i5 c_246_95 rfl (wi_ok (fun K13 => ?_))))
          obtain ⟨r14, t⟩ := t
          refine i43 (v := σ111 83 16) c_246_96 (lo (c := 83) (kd := 112) (n := 0) rfl (by decide)) rfl (i1 c_246_99 (i11 c_246_100 (i50 (v := σ111 88 ((σ111 83 16) - 1)) c_246_101 (lo (c := 88) (kd := 0) (n := 160) rfl (by decide)) (by decide) r14 rfl (i6 (L' := [.ref 83, .int (wI (σ 83 9)), .int (wI (σ111 88 ((σ111 83 16) - 1)))]) c_246_102 rfl (i3 c_246_103 rfl (i1 c_246_104 ?_))))))
          refine i37 c_246_106 (rge_ K1 rfl) (by decide) rfl (fun hc => ?_) (fun hc => ?_)
          · have t := iF t hc
            have ha15 : ¬ ((σ 83 9) = 44) := hc
            refine i3 c_246_146 rfl (i1 c_246_147 ?_)
            refine i37 c_246_149 (rge_ K13 rfl) (by decide) rfl (fun hc => ?_) (fun hc => ?_)
            · have t := iT t hc
              have ha16 : (σ111 88 ((σ111 83 16) - 1)) = 41 := hc
              exact t
            · have t := iF t hc
              have ha16 : ¬ ((σ111 88 ((σ111 83 16) - 1)) = 41) := hc
              refine i3 c_246_152 rfl (i1 c_246_153 ?_)
              refine i37 c_246_155 (rge_ K13 rfl) (by decide) rfl (fun hc => ?_) (fun hc => ?_)
              · have t := iF t hc
                have ha17 : ¬ ((σ111 88 ((σ111 83 16) - 1)) = 42) := hc
                obtain ⟨w18, e19, r20, t⟩ := t
                refine i5 c_246_160 rfl (i33a c_246_161 (i43 (v := σ111 83 16) c_246_162 (lo (c := 83) (kd := 112) (n := 0) rfl (by decide)) rfl (i1 c_246_165 (i11 c_246_166 (i46 (σ1 := uc σ111 83 (u1 (σ111 83) 16 w18)) c_246_167 (lo (c := 83) (kd := 112) (n := 0) rfl (by decide)) (by decide) e19 r20 (wr_ rfl rfl) (i5 c_246_170 rfl (i33a c_246_171 (wi_ok (fun K21 => ?_)))))))))
                obtain ⟨w22, e23, r24, t⟩ := t
                refine i43 (v := σ111 83 17) c_246_172 (lo (c := 83) (kd := 112) (n := 0) rfl (by decide)) ((congrFun (uc_s _ _ _) _).trans (u1_n (by decide))) (i1 c_246_175 (i11 c_246_176 (i46 (σ1 := uc σ111 83 (u1 (u1 (σ111 83) 16 w18) 17 w22)) c_246_177 (lo (c := 83) (kd := 112) (n := 0) rfl (by decide)) (by decide) e23 r24 (wr_ (uc_s _ _ _) (uc_uc _ _ _ _)) (i3 c_246_180 rfl (i1 c_246_181 ?_)))))
                refine i37 c_246_183 (rge_ K13 rfl) (by decide) rfl (fun hc => ?_) (fun hc => ?_)
                · have t := iT t hc
                  have ha25 : (σ111 88 ((σ111 83 16) - 1)) ≤ 40 := hc
                  obtain ⟨pl26, t⟩ := t
                  obtain ⟨p27, t⟩ := t
                  obtain ⟨p28, t⟩ := t
                  obtain ⟨p29, t⟩ := t
                  obtain ⟨p30, t⟩ := t
                  obtain ⟨p31, t⟩ := t
                  refine i5 c_246_204 rfl ?_
                  refine i80 (As := []) (rest := []) c_246_205 mi_240 rfl rfl (Nat.le_of_ble_eq_true rfl) (Nat.le_of_ble_eq_true rfl) (lo (c := 83) (kd := 112) (n := 0) rfl (by decide)) (q_240 (pl := pl26) p27 p28 p29 p30 p31 (fun σ132 q33 => ?_))
                  have t := t σ132 q33
                  show wi (d + 8) 246 208 [.ref 83, .int (wI (σ 83 9)), .int (wI (σ111 88 ((σ111 83 16) - 1)))] [] S σ132 τ Q
                  exact t
                · have t := iF t hc
                  have ha25 : ¬ ((σ111 88 ((σ111 83 16) - 1)) ≤ 40) := hc
                  refine i5 c_246_186 rfl (i3 c_246_187 rfl (i1 c_246_188 ?_))
                  refine i37 c_246_190 (rge_ K13 rfl) (by decide) rfl (fun hc => ?_) (fun hc => ?_)
                  · have t := iF t hc
                    have ha34 : ¬ ((σ111 88 ((σ111 83 16) - 1)) = 43) := hc
                    refine i1 c_246_198 t
                  · have t := iT t (Decidable.not_not.mp hc)
                    have ha34 : (σ111 88 ((σ111 83 16) - 1)) = 43 := Decidable.not_not.mp hc
                    refine i1 c_246_193 (i38 c_246_195 rfl t)
              · have t := iT t (Decidable.not_not.mp hc)
                have ha17 : (σ111 88 ((σ111 83 16) - 1)) = 42 := Decidable.not_not.mp hc
                exact t
          · have t := iT t (Decidable.not_not.mp hc)
            have ha15 : (σ 83 9) = 44 := Decidable.not_not.mp hc
            refine i3 c_246_109 rfl (i1 c_246_110 ?_)
            refine i37 c_246_112 (rge_ K13 rfl) (by decide) rfl (fun hc => ?_) (fun hc => ?_)
            · have t := iT t hc
              have ha35 : (σ111 88 ((σ111 83 16) - 1)) = 41 := hc
              exact t
            · have t := iF t hc
              have ha35 : ¬ ((σ111 88 ((σ111 83 16) - 1)) = 41) := hc
              refine i3 c_246_115 rfl (i1 c_246_116 ?_)
              refine i37 c_246_118 (rge_ K13 rfl) (by decide) rfl (fun hc => ?_) (fun hc => ?_)
              · have t := iT t hc
                have ha36 : (σ111 88 ((σ111 83 16) - 1)) = 42 := hc
                exact t
              · have t := iF t hc
                have ha36 : ¬ ((σ111 88 ((σ111 83 16) - 1)) = 42) := hc
                refine i1 c_246_121 ?_
                exact i90 c_246_122 t
        · have t := iT t (Decidable.not_not.mp hc)
          have ha5 : (σ 83 9) = 47 := Decidable.not_not.mp hc
          exact t
    · have t := iT t (Decidable.not_not.mp hc)
      have ha3 : (σ 83 9) = 45 := Decidable.not_not.mp hc
      exact t
set_option maxRecDepth 20000 in
theorem u_246_17 {d : Nat} {S : zS} {σ τ : zI} {Q : zQ} {x1 : Int} {y2 : Value} (t : ∃ pl1 : List Int, (PIL σ pl1) ∧ (pl1.length ≤ 150) ∧ (EB σ) ∧ (σ 83 14 + pl1.length ≤ 300) ∧ ∀ (σ16 : zI), SE σ σ16 3 pl1 → (rg x1) ∧ if x1 = 43 then (wi (d + 8) 246 34 [.ref 83, .int (wI x1), y2] [.int (wI 3), .ref 83] S σ16 τ Q) else (wi (d + 8) 246 34 [.ref 83, .int (wI x1), y2] [.int (wI 4), .ref 83] S σ16 τ Q)) : wi (d + 8) 246 17 [.ref 83, .int (wI x1), y2] [] S σ τ Q := by
  obtain ⟨pl1, t⟩ := t
  obtain ⟨p2, t⟩ := t
  obtain ⟨p3, t⟩ := t
  obtain ⟨p4, t⟩ := t
  obtain ⟨p5, t⟩ := t
  refine i5 c_246_17 rfl (i1 c_246_18 ?_)
  refine i80 (As := [.int (wI 3)]) (rest := []) c_246_19 mi_241 rfl rfl (Nat.le_of_ble_eq_true rfl) (Nat.le_of_ble_eq_true rfl) (lo (c := 83) (kd := 112) (n := 0) rfl (by decide)) (q_241 (pl := pl1) (by decide) p2 p3 p4 p5 (fun σ16 q7 => ?_))
  have t := t σ16 q7
  show wi (d + 8) 246 22 [.ref 83, .int (wI x1), y2] [] S σ16 τ Q
  obtain ⟨r8, t⟩ := t
  refine i5 c_246_22 rfl (i3 c_246_23 rfl (i1 c_246_24 ?_))
  refine i37 c_246_26 r8 (by decide) rfl (fun hc => ?_) (fun hc => ?_)
  · have t := iF t hc
    have ha9 : ¬ (x1 = 43) := hc
    refine i1 c_246_33 t
  · have t := iT t (Decidable.not_not.mp hc)
    have ha9 : x1 = 43 := Decidable.not_not.mp hc
    refine i1 c_246_29 (i38 c_246_30 rfl t)
set_option maxRecDepth 20000 in
theorem u_246_34 {d : Nat} {S : zS} {σ τ : zI} {Q : zQ} {x1 : Int} {y2 : Value} {s1 : Int} (t : (rg s1) ∧ (0 ≤ σ 83 16 ∧ σ 83 16 ≤ 150) ∧ wi (d + 8) 246 208 [.ref 83, .int (wI x1), y2] [] S (uc (uc (uc σ 88 (u1 (σ 88) (σ 83 16) s1)) 83 (u1 (σ 83) 16 (σ 83 16 + 1))) 83 (u1 ((uc (uc σ 88 (u1 (σ 88) (σ 83 16) s1)) 83 (u1 (σ 83) 16 (σ 83 16 + 1))) 83) 18 0)) τ Q) : wi (d + 8) 246 34 [.ref 83, .int (wI x1), y2] [.int (wI s1), .ref 83] S σ τ Q := by
  obtain ⟨r1, t⟩ := t
  obtain ⟨p2, t⟩ := t
  refine i80 (As := [.int (wI s1)]) (rest := []) c_246_34 mi_239 rfl rfl (Nat.le_of_ble_eq_true rfl) (Nat.le_of_ble_eq_true rfl) (lo (c := 83) (kd := 112) (n := 0) rfl (by decide)) (q_239 r1 p2 ?_)
  show wi (d + 8) 246 37 [.ref 83, .int (wI x1), y2] [] S (uc (uc σ 88 (u1 (σ 88) (σ 83 16) s1)) 83 (u1 (σ 83) 16 (σ 83 16 + 1))) τ Q
  refine i5 c_246_37 rfl (i1 c_246_38 (i47 (σ1 := uc (uc (uc σ 88 (u1 (σ 88) (σ 83 16) s1)) 83 (u1 (σ 83) 16 (σ 83 16 + 1))) 83 (u1 ((uc (uc σ 88 (u1 (σ 88) (σ 83 16) s1)) 83 (u1 (σ 83) 16 (σ 83 16 + 1))) 83) 18 0)) c_246_39 (lo (c := 83) (kd := 112) (n := 0) rfl (by decide)) (by decide) rfl (by decide) (wr_ rfl rfl) (i38 c_246_42 rfl t)))
set_option maxRecDepth 20000 in
theorem u_246_57 {d : Nat} {S : zS} {σ τ : zI} {Q : zQ} {x1 : Int} {y2 : Value} (t : ∃ pl1 : List Int, (PIL σ pl1) ∧ (pl1.length ≤ 150) ∧ (EB σ) ∧ (σ 83 14 + pl1.length ≤ 300) ∧ ∀ (σ16 : zI), SE σ σ16 5 pl1 → (rg x1) ∧ if x1 = 42 then (wi (d + 8) 246 75 [.ref 83, .int (wI x1), y2] [.int (wI 5), .ref 83] S σ16 τ Q) else (wi (d + 8) 246 75 [.ref 83, .int (wI x1), y2] [.int (wI 6), .ref 83] S σ16 τ Q)) : wi (d + 8) 246 57 [.ref 83, .int (wI x1), y2] [] S σ τ Q := by
  obtain ⟨pl1, t⟩ := t
  obtain ⟨p2, t⟩ := t
  obtain ⟨p3, t⟩ := t
  obtain ⟨p4, t⟩ := t
  obtain ⟨p5, t⟩ := t
  refine i5 c_246_57 rfl (i1 c_246_58 ?_)
  refine i80 (As := [.int (wI 5)]) (rest := []) c_246_59 mi_241 rfl rfl (Nat.le_of_ble_eq_true rfl) (Nat.le_of_ble_eq_true rfl) (lo (c := 83) (kd := 112) (n := 0) rfl (by decide)) (q_241 (pl := pl1) (by decide) p2 p3 p4 p5 (fun σ16 q7 => ?_))
  have t := t σ16 q7
  show wi (d + 8) 246 62 [.ref 83, .int (wI x1), y2] [] S σ16 τ Q
  obtain ⟨r8, t⟩ := t
  refine i5 c_246_62 rfl (i3 c_246_63 rfl (i1 c_246_64 ?_))
  refine i37 c_246_66 r8 (by decide) rfl (fun hc => ?_) (fun hc => ?_)
  · have t := iF t hc
    have ha9 : ¬ (x1 = 42) := hc
    refine i1 c_246_73 t
  · have t := iT t (Decidable.not_not.mp hc)
    have ha9 : x1 = 42 := Decidable.not_not.mp hc
    refine i1 c_246_69 (i38 c_246_70 rfl t)
set_option maxRecDepth 20000 in
theorem u_246_75 {d : Nat} {S : zS} {σ τ : zI} {Q : zQ} {x1 : Int} {y2 : Value} {s1 : Int} (t : (rg s1) ∧ (0 ≤ σ 83 16 ∧ σ 83 16 ≤ 150) ∧ wi (d + 8) 246 208 [.ref 83, .int (wI x1), y2] [] S (uc (uc (uc σ 88 (u1 (σ 88) (σ 83 16) s1)) 83 (u1 (σ 83) 16 (σ 83 16 + 1))) 83 (u1 ((uc (uc σ 88 (u1 (σ 88) (σ 83 16) s1)) 83 (u1 (σ 83) 16 (σ 83 16 + 1))) 83) 18 0)) τ Q) : wi (d + 8) 246 75 [.ref 83, .int (wI x1), y2] [.int (wI s1), .ref 83] S σ τ Q := by
  obtain ⟨r1, t⟩ := t
  obtain ⟨p2, t⟩ := t
  refine i80 (As := [.int (wI s1)]) (rest := []) c_246_75 mi_239 rfl rfl (Nat.le_of_ble_eq_true rfl) (Nat.le_of_ble_eq_true rfl) (lo (c := 83) (kd := 112) (n := 0) rfl (by decide)) (q_239 r1 p2 ?_)
  show wi (d + 8) 246 78 [.ref 83, .int (wI x1), y2] [] S (uc (uc σ 88 (u1 (σ 88) (σ 83 16) s1)) 83 (u1 (σ 83) 16 (σ 83 16 + 1))) τ Q
  refine i5 c_246_78 rfl (i1 c_246_79 (i47 (σ1 := uc (uc (uc σ 88 (u1 (σ 88) (σ 83 16) s1)) 83 (u1 (σ 83) 16 (σ 83 16 + 1))) 83 (u1 ((uc (uc σ 88 (u1 (σ 88) (σ 83 16) s1)) 83 (u1 (σ 83) 16 (σ 83 16 + 1))) 83) 18 0)) c_246_80 (lo (c := 83) (kd := 112) (n := 0) rfl (by decide)) (by decide) rfl (by decide) (wr_ rfl rfl) (i38 c_246_83 rfl t)))
set_option maxRecDepth 20000 in
theorem u_246_123 {d : Nat} {S : zS} {σ τ : zI} {Q : zQ} {x1 : Int} {x2 : Int} (t : (0 ≤ (σ 83 16) - 1 ∧ (σ 83 16) - 1 < 160) ∧ ∃ w3 : Int, wI w3 = wI ((σ 88 ((σ 83 16) - 1)) + 2) ∧ rg w3 ∧ wi (d + 8) 246 208 [.ref 83, .int (wI x1), .int (wI x2)] [] S (uc (uc σ 88 (u1 (σ 88) ((σ 83 16) - 1) w3)) 83 (u1 (σ 83) 18 0)) τ Q) : wi (d + 8) 246 123 [.ref 83, .int (wI x1), .int (wI x2)] [] S σ τ Q := by
  refine i5 c_246_123 rfl (i45 c_246_124 (lo (c := 83) (kd := 112) (n := 0) rfl (by decide)) (lro (c := 83) (k := 15) (j := 88) (by decide)) (i5 c_246_127 rfl (wi_ok (fun K1 => ?_))))
  obtain ⟨r2, t⟩ := t
  obtain ⟨w3, e4, r5, t⟩ := t
  refine i43 (v := σ 83 16) c_246_128 (lo (c := 83) (kd := 112) (n := 0) rfl (by decide)) rfl (i1 c_246_131 (i11 c_246_132 (i34a c_246_133 (i50 (v := σ 88 ((σ 83 16) - 1)) c_246_134 (lo (c := 88) (kd := 0) (n := 160) rfl (by decide)) (by decide) r2 rfl (i1 c_246_135 (i10 c_246_136 (i54 (σ1 := uc σ 88 (u1 (σ 88) ((σ 83 16) - 1) w3)) c_246_137 (lo (c := 88) (kd := 0) (n := 160) rfl (by decide)) (by decide) r2 (by decide) e4 r5 (wr_ rfl rfl) (i5 c_246_138 rfl (i1 c_246_139 (i47 (σ1 := uc (uc σ 88 (u1 (σ 88) ((σ 83 16) - 1) w3)) 83 (u1 (σ 83) 18 0)) c_246_140 (lo (c := 83) (kd := 112) (n := 0) rfl (by decide)) (by decide) rfl (by decide) (wr_ (uc_ns rfl (by decide)) rfl) (i38 c_246_143 rfl t)))))))))))
set_option maxRecDepth 20000 in
theorem u_246_158 {d : Nat} {S : zS} {σ τ : zI} {Q : zQ} {x1 : Int} {x2 : Int} (t : Q (some (.int (wI 1))) S σ τ) : wi (d + 8) 246 158 [.ref 83, .int (wI x1), .int (wI x2)] [] S σ τ Q := by
  refine i1 c_246_158 ?_
  exact i90 c_246_159 t
set_option maxRecDepth 20000 in
theorem u_246_200 {d : Nat} {S : zS} {σ τ : zI} {Q : zQ} {x1 : Int} {x2 : Int} {s1 : Int} (t : (rg s1) ∧ (EB σ) ∧ ∀ (σ13 : zI), EM σ σ13 s1 0 → ∃ pl5 : List Int, (PIL σ13 pl5) ∧ (pl5.length ≤ 150) ∧ (EB σ13) ∧ (σ13 83 14 + pl5.length ≤ 300) ∧ (0 ≤ σ13 83 17 ∧ σ13 83 17 ≤ 1000) ∧ ∀ (σ111 : zI), WHo σ13 σ111 pl5 → wi (d + 8) 246 208 [.ref 83, .int (wI x1), .int (wI x2)] [] S σ111 τ Q) : wi (d + 8) 246 200 [.ref 83, .int (wI x1), .int (wI x2)] [.int (wI s1), .ref 83] S σ τ Q := by
  obtain ⟨r1, t⟩ := t
  obtain ⟨p2, t⟩ := t
  refine i1 c_246_200 ?_
  refine i80 (As := [.int (wI s1), .int (wI 0)]) (rest := []) c_246_201 mi_238 rfl rfl (Nat.le_of_ble_eq_true rfl) (Nat.le_of_ble_eq_true rfl) (lo (c := 83) (kd := 112) (n := 0) rfl (by decide)) (q_238 r1 (by decide) p2 (fun σ13 q4 => ?_))
  have t := t σ13 q4
  show wi (d + 8) 246 204 [.ref 83, .int (wI x1), .int (wI x2)] [] S σ13 τ Q
  obtain ⟨pl5, t⟩ := t
  obtain ⟨p6, t⟩ := t
  obtain ⟨p7, t⟩ := t
  obtain ⟨p8, t⟩ := t
  obtain ⟨p9, t⟩ := t
  obtain ⟨p10, t⟩ := t
  refine i5 c_246_204 rfl ?_
  refine i80 (As := []) (rest := []) c_246_205 mi_240 rfl rfl (Nat.le_of_ble_eq_true rfl) (Nat.le_of_ble_eq_true rfl) (lo (c := 83) (kd := 112) (n := 0) rfl (by decide)) (q_240 (pl := pl5) p6 p7 p8 p9 p10 (fun σ111 q12 => ?_))
  have t := t σ111 q12
  show wi (d + 8) 246 208 [.ref 83, .int (wI x1), .int (wI x2)] [] S σ111 τ Q
  exact t
set_option maxRecDepth 20000 in
theorem u_246_208 {d : Nat} {S : zS} {σ τ : zI} {Q : zQ} {x1 : Int} {y2 : Value} (t : ∃ T1 : Int → Int, ∃ n2 : Int, ∃ s3 : Int, (TB T1 n2) ∧ (TR T1 n2 s3 σ τ) ∧ (s3 < n2) ∧ ∀ (σ17 : zI) (τ18 : zI), FK σ σ17 τ τ18 → TR T1 n2 (nx T1 n2 s3) σ17 τ18 → Q (some (.int (wI 0))) S σ17 τ18) : wi (d + 8) 246 208 [.ref 83, .int (wI x1), y2] [] S σ τ Q := by
  obtain ⟨T1, t⟩ := t
  obtain ⟨n2, t⟩ := t
  obtain ⟨s3, t⟩ := t
  obtain ⟨p4, t⟩ := t
  obtain ⟨p5, t⟩ := t
  obtain ⟨p6, t⟩ := t
  refine i5 c_246_208 rfl ?_
  refine i80 (As := []) (rest := []) c_246_209 mi_231 rfl rfl (Nat.le_of_ble_eq_true rfl) (Nat.le_of_ble_eq_true rfl) (lo (c := 83) (kd := 112) (n := 0) rfl (by decide)) (q_231t (T := T1) (n := n2) (s := s3) p4 p5 p6 (fun σ17 τ18 q9 q10 => ?_))
  have t := t σ17 τ18 q9 q10
  show wi (d + 8) 246 212 [.ref 83, .int (wI x1), y2] [] S σ17 τ18 Q
  refine i1 c_246_212 ?_
  exact i90 c_246_213 t
theorem q_246 {d : Nat} {S : zS} {σ τ : zI} {Q : zQ} {pl : List Int} {T : Int → Int} {n : Int} {s : Int} (p0 : TB T n) (p1 : TR T n s σ τ) (p2 : PIL σ pl) (p3 : pl.length ≤ 150) (p4 : EB σ) (p5 : σ 83 14 + pl.length ≤ 299) (p6 : 0 ≤ σ 83 17 ∧ σ 83 17 ≤ 8) (p7 : gon (tk T n s) pl) (p8 : hpar pl = true → 1 ≤ σ 83 17) (t : ∀ (r : Int) (σ1 : zI) (τ1 : zI), 0 ≤ r → r ≤ 3 → BH T n s pl σ τ r σ1 τ1 → Q (some (.int (wI r))) S σ1 τ1) : wc (d + 8) 246 [.ref 83] S σ τ Q := by
  obtain ⟨r29, r30, r31, r32, r34, r35, sn, rb⟩ := rkB p0 p1.1
  have k9 := p1.2.2.2.2.1
  have rg9 : rg (σ 83 9) := by rw [k9]; omega
  have sl : s < n := sn.mpr (by have := p7; unfold gon at this; omega)
  have at208 : ∀ (x1 : Int) (y2 : Value) (σ' : zI), TR T n s σ' τ → (∀ σ2 τ2, FK σ' σ2 τ τ2 → TR T n (nx T n s) σ2 τ2 → Q (some (.int (wI 0))) S σ2 τ2) → wi (d + 8) 246 208 [.ref 83, .int (wI x1), y2] [] S σ' τ Q := fun x1 y2 σ' tr k => u_246_208 ⟨T, n, s, p0, tr, sl, k⟩
  have opx : ∀ (l x1 : Int) (y2 : Value) (σ1 : zI), SE σ σ1 l pl → ((l = 3 ∧ (tk T n s = 29 ∨ tk T n s = 30)) ∨ (l = 5 ∧ (tk T n s = 31 ∨ tk T n s = 32))) → wi (d + 8) 246 208 [.ref 83, .int (wI x1), y2] [] S (uc (uc (uc σ1 88 (u1 (σ1 88) (σ1 83 16) (tk T n s - 26))) 83 (u1 (σ1 83) 16 (σ1 83 16 + 1))) 83 (u1 ((uc (uc σ1 88 (u1 (σ1 88) (σ1 83 16) (tk T n s - 26))) 83 (u1 (σ1 83) 16 (σ1 83 16 + 1))) 83) 18 0)) τ Q := by
    intro l x1 y2 σ1 se hl
    refine at208 x1 y2 _ (TR_f (TR_se p1 se) ?_ (fun k hk => ?_) rfl) (fun σ2 τ2 fk tr => t 0 σ2 τ2 (by omega) (by omega) (Or.inl ⟨l, rfl, hl, ?_, tr, ?_, ?_, ?_⟩))
    · rw [uc_n (by decide), uc_n (by decide), uc_n (by decide)]
    · rw [uc_s, u1_n (by omega), uc_s, u1_n (by omega)]
    · refine PF_n (se.1 τ) (PF_k (fun c h1 h2 => ?_) (fun k hk => ?_) (fun c hc => fk.2.2.1 c hc) (fun k hk => fk.2.2.2 k hk))
      · rw [fk.1 c h1, uc_n h1, uc_n h1, uc_n h2]
      · rw [fk.2.1 k (by omega), uc_s, u1_n (by omega), uc_s, u1_n (by omega)]
    · refine PIL_c se.2.1 ?_ ?_
      · rw [fk.2.1 16 (by omega), uc_s, u1_n (by omega), uc_s, u1_s]
      · rw [fk.1 88 (by decide), uc_n (by decide), uc_n (by decide), uc_s]
    · rw [fk.2.1 17 (by omega), uc_s, u1_n (by omega), uc_s, u1_n (by omega), se.2.2.2 17 (by omega)]
    · rw [fk.2.1 18 (by omega), uc_s, u1_s]
  have b16 : ∀ (l : Int) (σ1 : zI), SE σ σ1 l pl → 0 ≤ σ1 83 16 ∧ σ1 83 16 ≤ 150 := fun l σ1 se => by
    have := ds_l l pl
    have := se.2.1.1
    omega
  have room : σ 83 14 + pl.length ≤ 300 := by omega
  have at34 : ∀ (w x1 : Int) (y2 : Value) (σ1 : zI), SE σ σ1 3 pl → (w = tk T n s - 26 ∧ (tk T n s = 29 ∨ tk T n s = 30)) → wi (d + 8) 246 34 [.ref 83, .int (wI x1), y2] [.int (wI w), .ref 83] S σ1 τ Q := by
    intro w x1 y2 σ1 se hw
    refine u_246_34 ⟨by omega, b16 3 σ1 se, ?_⟩
    rw [hw.1]
    exact opx 3 x1 y2 σ1 se (Or.inl ⟨rfl, hw.2⟩)
  have at75 : ∀ (w x1 : Int) (y2 : Value) (σ1 : zI), SE σ σ1 5 pl → (w = tk T n s - 26 ∧ (tk T n s = 31 ∨ tk T n s = 32)) → wi (d + 8) 246 75 [.ref 83, .int (wI x1), y2] [.int (wI w), .ref 83] S σ1 τ Q := by
    intro w x1 y2 σ1 se hw
    refine u_246_75 ⟨by omega, b16 5 σ1 se, ?_⟩
    rw [hw.1]
    exact opx 5 x1 y2 σ1 se (Or.inr ⟨rfl, hw.2⟩)
  have at17 : ∀ y2 : Value, (tk T n s = 29 ∨ tk T n s = 30) → wi (d + 8) 246 17 [.ref 83, .int (wI (σ 83 9)), y2] [] S σ τ Q := by
    intro y2 h
    refine u_246_17 ⟨pl, p2, p3, p4, room, fun σ1 se => ⟨rg9, ifI (fun e => at34 3 _ _ σ1 se ?_) (fun e => at34 4 _ _ σ1 se ?_)⟩⟩
    · have := r29.mp (by rw [← k9]; exact e); omega
    · have : tk T n s ≠ 29 := fun z => e (by rw [k9]; exact r29.mpr z)
      omega
  have at57 : ∀ y2 : Value, (tk T n s = 31 ∨ tk T n s = 32) → wi (d + 8) 246 57 [.ref 83, .int (wI (σ 83 9)), y2] [] S σ τ Q := by
    intro y2 h
    refine u_246_57 ⟨pl, p2, p3, p4, room, fun σ1 se => ⟨rg9, ifI (fun e => at75 5 _ _ σ1 se ?_) (fun e => at75 6 _ _ σ1 se ?_)⟩⟩
    · have := r31.mp (by rw [← k9]; exact e); omega
    · have : tk T n s ≠ 31 := fun z => e (by rw [k9]; exact r31.mpr z)
      omega
  refine wc_of mi_246 rfl (u_246_0 (ifI (fun e => at17 _ (Or.inl (r29.mp (by rw [← k9]; exact e)))) (fun e1 => ifI (fun e => at17 _ (Or.inr (r30.mp (by rw [← k9]; exact e)))) (fun e2 => ifI (fun e => at57 _ (Or.inl (r31.mp (by rw [← k9]; exact e)))) (fun e3 => ifI (fun e => at57 _ (Or.inr (r32.mp (by rw [← k9]; exact e)))) (fun e4 => ?_))))))
  have n1 : tk T n s ≠ 29 := fun z => e1 (by rw [k9]; exact r29.mpr z)
  have n2 : tk T n s ≠ 30 := fun z => e2 (by rw [k9]; exact r30.mpr z)
  have n3 : tk T n s ≠ 31 := fun z => e3 (by rw [k9]; exact r31.mpr z)
  have n4 : tk T n s ≠ 32 := fun z => e4 (by rw [k9]; exact r32.mpr z)
  have g5 : (tk T n s = 34 ∨ tk T n s = 35) ∧ hpar pl = true := by
    rcases p7 with z | z | z | z | z
    · exact absurd z n1
    · exact absurd z n2
    · exact absurd z n3
    · exact absurd z n4
    · exact z
  clear n1 n2 n3 n4
  have o1 := p8 g5.2
  obtain ⟨x, ρ, hd⟩ := hpar_ds pl g5.2
  refine ⟨pl, p2, p3, p4, room, fun σ1 se => ?_⟩
  have pi := se.2.1
  rw [hd] at pi
  have hl : ((x :: ρ).length : Int) = (ρ.length : Int) + 1 := by rw [List.length_cons]; omega
  have l1 : (ρ.length : Int) + 1 + (eSt 3 pl).length = pl.length := by have := ds_l 3 pl; rw [hd] at this; omega
  have e16 : σ1 83 16 - 1 = ρ.length := by have := pi.1; omega
  have e17 : σ1 83 17 = σ 83 17 := se.2.2.2 17 (by omega)
  have e14 : σ1 83 14 = σ 83 14 + (eSt 3 pl).length := (se.1 τ).1.1
  have e12 : σ1 83 12 = σ 83 12 := se.2.2.2 12 (by omega)
  have ex : σ1 88 (ρ.length : Int) = x := pi.2.1
  have tr1 := TR_se p1 se
  rw [e16, ex, k9]
  refine ⟨by omega, ifI (fun ec => ?_) (fun ec => ?_)⟩
  · have t35 := r35.mp ec
    have at123 : (x = 41 ∨ x = 42) → wi (d + 8) 246 123 [.ref 83, .int (wI (rk T n s)), .int (wI x)] [] S σ1 τ Q := by
      intro hx
      refine u_246_123 ?_
      rw [e16, ex]
      refine ⟨by omega, x + 2, rfl, by omega, at208 _ _ _ (TR_f tr1 ?_ (fun k hk => ?_) rfl) (fun σ2 τ2 fk tr => t 0 σ2 τ2 (by omega) (by omega) (Or.inr ⟨x, ρ, hd, Or.inl ⟨t35, hx, rfl, ?_, tr, ?_, ?_, ?_⟩⟩))⟩
      · rw [uc_n (by decide), uc_n (by decide)]
      · rw [uc_s, u1_n (by omega)]
      · refine PF_n (se.1 τ) (PF_k (fun c h1 h2 => ?_) (fun k hk => ?_) (fun c hc => fk.2.2.1 c hc) (fun k hk => fk.2.2.2 k hk))
        · rw [fk.1 c h1, uc_n h1, uc_n h2]
        · rw [fk.2.1 k (by omega), uc_s, u1_n (by omega)]
      · have f88 : σ2 88 = u1 (σ1 88) ρ.length (x + 2) := by rw [fk.1 88 (by decide), uc_n (by decide), uc_s]
        refine ⟨?_, ?_, PLs_f ρ (fun k k0 k1 => ?_) pi.2.2⟩
        · rw [fk.2.1 16 (by omega), uc_s, u1_n (by omega), List.length_cons]; omega
        · rw [f88, u1_s]
        · rw [f88, u1_n (by omega)]
      · rw [fk.2.1 17 (by omega), uc_s, u1_n (by omega), e17]
      · rw [fk.2.1 18 (by omega), uc_s, u1_s]
    exact ifI (fun c => at123 (Or.inl c)) (fun c1 => ifI (fun c => at123 (Or.inr c)) (fun c2 => t 1 σ1 τ (by omega) (by omega) (Or.inr ⟨x, ρ, hd, Or.inr (Or.inl ⟨Or.inl ⟨t35, c1, c2⟩, rfl, se.1 τ, tr1⟩)⟩)))
  · have t34 : tk T n s = 34 := g5.1.resolve_right (fun z => ec (r35.mpr z))
    have at158 : (x = 41 ∨ x = 42) → wi (d + 8) 246 158 [.ref 83, .int (wI (rk T n s)), .int (wI x)] [] S σ1 τ Q := fun hx => u_246_158 (t 1 σ1 τ (by omega) (by omega) (Or.inr ⟨x, ρ, hd, Or.inr (Or.inl ⟨Or.inr ⟨t34, hx⟩, rfl, se.1 τ, tr1⟩)⟩))
    refine ifI (fun c => at158 (Or.inl c)) (fun c1 => ifI (fun c => at158 (Or.inr c)) (fun c2 => ⟨(ρ.length : Int), rfl, by omega, σ1 83 17 - 1, rfl, by omega, ?_⟩))
    have q : ∀ k, k ≠ 16 → k ≠ 17 → (uc σ1 83 (u1 (u1 (σ1 83) 16 ρ.length) 17 (σ1 83 17 - 1))) 83 k = σ1 83 k := fun k h1 h2 => by rw [uc_s, u1_n h2, u1_n h1]
    have q17 : (uc σ1 83 (u1 (u1 (σ1 83) 16 ρ.length) 17 (σ1 83 17 - 1))) 83 17 = σ 83 17 - 1 := by rw [uc_s, u1_s, e17]
    have pj : PIL (uc σ1 83 (u1 (u1 (σ1 83) 16 ρ.length) 17 (σ1 83 17 - 1))) ρ := PIL_p pi (by rw [uc_s, u1_n (by omega), u1_s]; omega) (uc_n (by decide))
    have tr2 : TR T n s (uc σ1 83 (u1 (u1 (σ1 83) 16 ρ.length) 17 (σ1 83 17 - 1))) τ := TR_f tr1 (uc_n (by decide)) (fun k hk => q k (by omega) (by omega)) rfl
    have pf2 : ∀ τ, PF σ (uc σ1 83 (u1 (u1 (σ1 83) 16 ρ.length) 17 (σ1 83 17 - 1))) τ τ (eSt 3 pl) := fun τ => PF_n (se.1 τ) (PF_u (fun k hk => by rw [u1_n (by omega), u1_n (by omega)]))
    generalize (uc σ1 83 (u1 (u1 (σ1 83) 16 ρ.length) 17 (σ1 83 17 - 1))) = σ2 at q q17 pj tr2 pf2 ⊢
    have fin : ∀ (L : List (Int × Int)) (σ3 σ4 : zI), (∀ τ, PF σ2 σ3 τ τ L) → L = pc x → TR T n s σ3 τ → σ3 83 17 = σ 83 17 - 1 → WHo σ3 σ4 ρ → wi (d + 8) 246 208 [.ref 83, .int (wI (rk T n s)), .int (wI x)] [] S σ4 τ Q := by
      intro L σ3 σ4 pf hL tr3 h17 w
      refine at208 _ _ _ (TR_wh tr3 w) (fun σ5 τ5 fk tr => t 0 σ5 τ5 (by omega) (by omega) (Or.inr ⟨x, ρ, hd, Or.inr (Or.inr ⟨t34, c1, c2, rfl, ?_, tr, PIL_F w.2.1 fk, ?_, ?_⟩)⟩))
      · rw [← hL]
        exact PF_n (PF_t (pf2 τ) (PF_t (pf τ) (w.1 τ))) (PF_F fk)
      · rw [fk.2.1 17 (by omega), w.2.2.1, h17]
      · rw [fk.2.1 18 (by omega), w.2.2.2.1]
    have EB2 : EB σ2 := EB_f p4 (by rw [q 12 (by omega) (by omega), e12]) (by rw [q 14 (by omega) (by omega), e14]; have := p4.2; omega)
    have q14 := q 14 (by omega) (by omega)
    refine ifI (fun c => ⟨ρ, pj, by omega, EB2, by omega, by omega, fun σ3 w => fin [] σ2 σ3 (fun τ => PF_0) (by unfold pc; rw [if_neg (by omega)]) tr2 q17 w⟩) (fun c => ?_)
    have at200 : ∀ o : Int, o = (if x = 43 then 7 else 8) → rg o → wi (d + 8) 246 200 [.ref 83, .int (wI (rk T n s)), .int (wI x)] [.int (wI o), .ref 83] S σ2 τ Q := by
      intro o ho ro
      refine u_246_200 ⟨ro, EB2, fun σ3 em => ?_⟩
      have m14 := em14 em
      have m17 : σ3 83 17 = σ 83 17 - 1 := by rw [em.2.2 17 (by omega)]; exact q17
      exact ⟨ρ, PIL_em pj em, by omega, EB_f EB2 (em.2.2 12 (by omega)) (by have := p4.2; omega), by omega, by omega, fun σ4 w => fin [(o, 0)] σ3 σ4 em.1 (by unfold pc; rw [if_pos (by omega), ho]) (TR_em tr2 em) m17 w⟩
    exact ifI (fun c3 => at200 7 (if_pos c3).symm (by omega)) (fun c3 => at200 8 (if_neg c3).symm (by omega))
