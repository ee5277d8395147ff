/-! ===== the class: PAY, what counted (segments printed by wip/whole, contracts own work) ===== -/
/-! bits as numbers -/
def zbt (z k : Int) : Bool := bt (wI z) k.toNat
theorem wI_nI {k : Int} (h : 0 ≤ k) : wI k = nI k.toNat := by
  have : ((k.toNat : Nat) : Int) = k := Int.toNat_of_nonneg h
  rw [show nI k.toNat = wI (k.toNat : Int) from wI_ofNat _, this]
theorem bt_1 (i : Nat) : bt 1 i = decide (i = 0) := by
  rcases Nat.lt_or_ge i 32 with h | h
  · exact (by decide +kernel : ∀ i, i < 32 → bt 1 i = decide (i = 0)) i h
  · rw [b_big h, decide_eq_false (by omega)]
theorem and1 (x : Int32) : x &&& 1 = if bt x 0 = true then 1 else 0 := by
  refine b_ext (fun i hi => ?_)
  rw [b_and, bt_1]
  by_cases h : i = 0
  · subst h
    cases e : bt x 0
    · rfl
    · rfl
  · rw [decide_eq_false h, Bool.and_false]
    split
    · rw [bt_1, decide_eq_false h]
    · rw [b_0]
theorem zand1 (x : Int) : zand x 1 = if bt (wI x) 0 = true then 1 else 0 := by
  unfold zand
  rw [show wI 1 = 1 from rfl, and1]
  split <;> rfl
theorem zus1 {z k : Int} (h : 0 ≤ k ∧ k < 32) : zand (zush z k) 1 = if zbt z k = true then 1 else 0 := by
  have e : bt (wI (zush z k)) 0 = zbt z k := by
    unfold zush zbt
    rw [wI_toInt, wI_nI h.1, b_ushr _ (by omega)]
    rfl
  rw [zand1, e]
theorem zsh1 {z k : Int} (h : 0 ≤ k ∧ k < 32) : zand (zshr z k) 1 = if zbt z k = true then 1 else 0 := by
  have e : bt (wI (zshr z k)) 0 = zbt z k := by
    unfold zshr zbt
    rw [wI_toInt, wI_nI h.1, b_sshr _ (by omega) _ (by omega), if_pos (by omega)]
    rfl
  rw [zand1, e]
theorem zor_bt {z c k : Int} (h : 0 ≤ k ∧ k < 32) (hc : 0 ≤ c ∧ c < 32) : zbt (zor z (zshl 1 c)) k = (zbt z k || decide (k = c)) := by
  unfold zbt zor zshl
  rw [wI_toInt, wI_toInt, b_or, wI_nI hc.1, b_shl _ (by omega) _ (by omega), show wI 1 = 1 from rfl, bt_1]
  congr 1
  by_cases e : k = c
  · subst e; simp
  · rw [decide_eq_false e]
    by_cases l : c.toNat ≤ k.toNat
    · rw [decide_eq_true l, decide_eq_false (by omega)]; rfl
    · rw [decide_eq_false l]; rfl
theorem zbt_0 (k : Int) : zbt 0 k = false := by unfold zbt; rw [show wI 0 = 0 from rfl, b_0]
/-- a place of FRACTIONS of the class -/
def CP (b τ : zI) (x : Int × Int) : Prop := τ 56 0 = x.1 ∧ τ 57 0 = x.2 ∧ frN x.1 x.2 ∧ ∀ c, c ≠ 56 → c ≠ 57 → τ c = b c
/-- whether a CLAUSE counts in a pass -/
def r_in (a : Int → Int) (text kind prices c : Int) : Bool := if prices = 0 then (!decide (a (5500 + 840 * text + 1 + 8 * c) = 1) && r_cts a text (5500 + 840 * text + 1 + 8 * c) kind) else decide (a (5500 + 840 * text + 1 + 8 * c) = 1)
def r_pq (a : Int → Int) (text kind prices n : Int) : Int × Int := if prices = 0 then r_p2 a text kind n else r_p1 a text kind n
theorem r_pq_s {a : Int → Int} {text kind prices n : Int} (h : 0 ≤ n) : r_pq a text kind prices (n + 1) = if r_in a text kind prices n = true then fr2 (if a (5500 + 840 * text + 1 + 8 * n) = 3 ∨ a (5500 + 840 * text + 1 + 8 * n) = 5 then 4 else 3) (r_pq a text kind prices n).1 (r_pq a text kind prices n).2 (r_vl a text kind (5500 + 840 * text + 1 + 8 * n)).1 (r_vl a text kind (5500 + 840 * text + 1 + 8 * n)).2 else r_pq a text kind prices n := by
  unfold r_pq r_in
  by_cases e : prices = 0
  · simp only [if_pos e]
    rw [r_p2_s h]
    by_cases e2 : a (5500 + 840 * text + 1 + 8 * n) = 1
    · rw [if_neg (fun q => q.1 e2), if_neg (by simp [e2])]
    · by_cases e3 : r_cts a text (5500 + 840 * text + 1 + 8 * n) kind = true
      · rw [if_pos ⟨e2, e3⟩]
        refine (if_pos ?_).symm
        rw [e3, decide_eq_false e2]
        rfl
      · rw [if_neg (fun q => e3 q.2)]
        refine (if_neg ?_).symm
        rw [Bool.eq_false_iff.mpr e3, Bool.and_false]
        decide
  · simp only [if_neg e]
    rw [r_p1_s h]
    by_cases e2 : a (5500 + 840 * text + 1 + 8 * n) = 1
    · rw [if_pos e2, if_pos (by simp [e2]), if_neg (by omega)]
    · rw [if_neg e2, if_neg (by simp [e2])]
theorem TX_f {σ σ' : zI} {x : Nat} {a : Int → Int} {n : Int} (h : TX σ x a n) (hf : ∀ c, x ≤ c → c ≤ x + 3 → σ' c = σ c) : TX σ' x a n := by
  unfold TX at *
  rw [hf x (by omega) (by omega), hf (x + 1) (by omega) (by omega), hf (x + 2) (by omega) (by omega), hf (x + 3) (by omega) (by omega)]
  exact h
theorem RX_f {S : zS} {σ σ' : zI} {a : Int → Int} (h : RX S σ a) (hf : ∀ c, 100 ≤ c → σ' c = σ c) : RX S σ' a := ⟨h.1, fun n n0 n1 => by
  obtain ⟨x, h1, h2, h3⟩ := h.2 n n0 n1
  exact ⟨x, h1, h2, TX_f h3 (fun c hc _ => hf c (by have := oT_b h2; omega))⟩⟩
theorem CRs_v {u l : Int → Int} {a kv : Int → Int} {B i : Int} {n : Nat} (h : CRs u l (cl_ (evN a kv B n i ([], [])))) (w : wzN a B n i 0 0 1 0) : u 1 = (vlN a kv B n i).1 ∧ l 1 = (vlN a kv B n i).2 ∧ frN (vlN a kv B n i).1 (vlN a kv B n i).2 := by
  have l1 := (evN_len (kv := kv) (s := ([], [])) w).1
  have l2 := (evN_len (kv := kv) (s := ([], [])) w).2
  unfold vlN
  obtain ⟨x, t, e⟩ := len1 (l := (evN a kv B n i ([], [])).1) (by omega)
  unfold cl_ at h
  rw [e] at l1 h ⊢
  have e2 : (evN a kv B n i ([], [])).2 = [] := List.length_eq_zero_iff.mp (by omega)
  rw [e2] at h
  rw [List.length_cons] at l1
  have : t = [] := List.length_eq_zero_iff.mp (by omega)
  subst this
  exact h.1
theorem CRs_t {u l : Int → Int} {a kv : Int → Int} {B i : Int} {n : Nat} (h : CRs u l (cl_ (evN a kv B n i ([], [])))) (w : wzN a B n i 0 0 0 1) : u 1 = b1_ (trN a kv B n i) := by
  have l1 := (evN_len (kv := kv) (s := ([], [])) w).1
  have l2 := (evN_len (kv := kv) (s := ([], [])) w).2
  unfold trN
  obtain ⟨x, t, e⟩ := len1 (l := (evN a kv B n i ([], [])).2) (by omega)
  unfold cl_ at h
  rw [e] at l2 h ⊢
  have e2 : (evN a kv B n i ([], [])).1 = [] := List.length_eq_zero_iff.mp (by omega)
  rw [e2] at h
  rw [List.length_cons] at l2
  have : t = [] := List.length_eq_zero_iff.mp (by omega)
  subst this
  exact h.1.1
-- method 20: MillTown$Law.count(LMillTown$Text;LMillTown$Rows;IZ)V
theorem c_20_0 : pg_cd 20 0 = (1, 1, 0, 0, 0) := by decide +kernel
theorem c_20_1 : pg_cd 20 1 = (6, 2, 0, 5, 0) := by decide +kernel
theorem c_20_3 : pg_cd 20 3 = (3, 2, 0, 5, 0) := by decide +kernel
theorem c_20_5 : pg_cd 20 5 = (5, 1, 0, 1, 0) := by decide +kernel
theorem c_20_6 : pg_cd 20 6 = (45, 7, 33, 0, 0) := by decide +kernel
theorem c_20_9 : pg_cd 20 9 = (43, 4, 37, 2, 0) := by decide +kernel
theorem c_20_12 : pg_cd 20 12 = (37, 3, 0, 3, 196) := by decide +kernel
theorem c_20_15 : pg_cd 20 15 = (5, 1, 0, 1, 0) := by decide +kernel
theorem c_20_16 : pg_cd 20 16 = (45, 7, 33, 0, 0) := by decide +kernel
theorem c_20_19 : pg_cd 20 19 = (3, 2, 0, 5, 0) := by decide +kernel
theorem c_20_21 : pg_cd 20 21 = (1, 1, 0, 0, 0) := by decide +kernel
theorem c_20_22 : pg_cd 20 22 = (80, 55, 47, 0, 0) := by decide +kernel
theorem c_20_25 : pg_cd 20 25 = (6, 2, 0, 6, 0) := by decide +kernel
theorem c_20_27 : pg_cd 20 27 = (5, 1, 0, 1, 0) := by decide +kernel
theorem c_20_28 : pg_cd 20 28 = (45, 7, 33, 0, 0) := by decide +kernel
theorem c_20_31 : pg_cd 20 31 = (3, 2, 0, 5, 0) := by decide +kernel
theorem c_20_33 : pg_cd 20 33 = (1, 2, 0, 0, 6) := by decide +kernel
theorem c_20_35 : pg_cd 20 35 = (80, 55, 47, 0, 0) := by decide +kernel
theorem c_20_38 : pg_cd 20 38 = (6, 2, 0, 7, 0) := by decide +kernel
theorem c_20_40 : pg_cd 20 40 = (3, 2, 0, 4, 0) := by decide +kernel
theorem c_20_42 : pg_cd 20 42 = (36, 3, 0, 0, 13) := by decide +kernel
theorem c_20_45 : pg_cd 20 45 = (3, 2, 0, 6, 0) := by decide +kernel
theorem c_20_47 : pg_cd 20 47 = (1, 1, 0, 0, 3) := by decide +kernel
theorem c_20_48 : pg_cd 20 48 = (37, 3, 0, 1, 7) := by decide +kernel
theorem c_20_51 : pg_cd 20 51 = (1, 1, 0, 0, 1) := by decide +kernel
theorem c_20_52 : pg_cd 20 52 = (38, 3, 0, 0, 4) := by decide +kernel
theorem c_20_55 : pg_cd 20 55 = (1, 1, 0, 0, 0) := by decide +kernel
theorem c_20_56 : pg_cd 20 56 = (6, 2, 0, 8, 0) := by decide +kernel
theorem c_20_58 : pg_cd 20 58 = (3, 2, 0, 4, 0) := by decide +kernel
theorem c_20_60 : pg_cd 20 60 = (36, 3, 0, 1, 41) := by decide +kernel
theorem c_20_63 : pg_cd 20 63 = (3, 2, 0, 6, 0) := by decide +kernel
theorem c_20_65 : pg_cd 20 65 = (1, 1, 0, 0, 4) := by decide +kernel
theorem c_20_66 : pg_cd 20 66 = (37, 3, 0, 1, 35) := by decide +kernel
theorem c_20_69 : pg_cd 20 69 = (5, 1, 0, 2, 0) := by decide +kernel
theorem c_20_70 : pg_cd 20 70 = (3, 1, 0, 3, 0) := by decide +kernel
theorem c_20_71 : pg_cd 20 71 = (1, 1, 0, 0, 4) := by decide +kernel
theorem c_20_72 : pg_cd 20 72 = (80, 55, 47, 0, 0) := by decide +kernel
theorem c_20_75 : pg_cd 20 75 = (5, 1, 0, 1, 0) := by decide +kernel
theorem c_20_76 : pg_cd 20 76 = (45, 7, 33, 0, 0) := by decide +kernel
theorem c_20_79 : pg_cd 20 79 = (3, 2, 0, 5, 0) := by decide +kernel
theorem c_20_81 : pg_cd 20 81 = (1, 1, 0, 0, 1) := by decide +kernel
theorem c_20_82 : pg_cd 20 82 = (80, 55, 47, 0, 0) := by decide +kernel
theorem c_20_85 : pg_cd 20 85 = (20, 1, 0, 0, 0) := by decide +kernel
theorem c_20_86 : pg_cd 20 86 = (1, 1, 0, 0, 1) := by decide +kernel
theorem c_20_87 : pg_cd 20 87 = (13, 1, 0, 0, 0) := by decide +kernel
theorem c_20_88 : pg_cd 20 88 = (36, 3, 0, 0, 7) := by decide +kernel
theorem c_20_91 : pg_cd 20 91 = (1, 1, 0, 0, 1) := by decide +kernel
theorem c_20_92 : pg_cd 20 92 = (38, 3, 0, 0, 4) := by decide +kernel
theorem c_20_95 : pg_cd 20 95 = (1, 1, 0, 0, 0) := by decide +kernel
theorem c_20_96 : pg_cd 20 96 = (6, 2, 0, 8, 0) := by decide +kernel
theorem c_20_98 : pg_cd 20 98 = (38, 3, 0, 0, 51) := by decide +kernel
theorem c_20_101 : pg_cd 20 101 = (3, 2, 0, 4, 0) := by decide +kernel
theorem c_20_103 : pg_cd 20 103 = (36, 3, 0, 1, 46) := by decide +kernel
theorem c_20_106 : pg_cd 20 106 = (3, 2, 0, 6, 0) := by decide +kernel
theorem c_20_108 : pg_cd 20 108 = (1, 1, 0, 0, 5) := by decide +kernel
theorem c_20_109 : pg_cd 20 109 = (37, 3, 0, 1, 40) := by decide +kernel
theorem c_20_112 : pg_cd 20 112 = (5, 1, 0, 0, 0) := by decide +kernel
theorem c_20_113 : pg_cd 20 113 = (5, 1, 0, 1, 0) := by decide +kernel
theorem c_20_114 : pg_cd 20 114 = (5, 1, 0, 1, 0) := by decide +kernel
theorem c_20_115 : pg_cd 20 115 = (45, 7, 33, 0, 0) := by decide +kernel
theorem c_20_118 : pg_cd 20 118 = (3, 2, 0, 5, 0) := by decide +kernel
theorem c_20_120 : pg_cd 20 120 = (1, 1, 0, 0, 5) := by decide +kernel
theorem c_20_121 : pg_cd 20 121 = (80, 55, 47, 0, 0) := by decide +kernel
theorem c_20_124 : pg_cd 20 124 = (3, 2, 0, 7, 0) := by decide +kernel
theorem c_20_126 : pg_cd 20 126 = (5, 1, 0, 2, 0) := by decide +kernel
theorem c_20_127 : pg_cd 20 127 = (3, 1, 0, 3, 0) := by decide +kernel
theorem c_20_128 : pg_cd 20 128 = (80, 21, 97, 0, 0) := by decide +kernel
theorem c_20_131 : pg_cd 20 131 = (5, 1, 0, 0, 0) := by decide +kernel
theorem c_20_132 : pg_cd 20 132 = (45, 1, 17, 1, 0) := by decide +kernel
theorem c_20_135 : pg_cd 20 135 = (1, 1, 0, 0, 1) := by decide +kernel
theorem c_20_136 : pg_cd 20 136 = (52, 1, 0, 0, 0) := by decide +kernel
theorem c_20_137 : pg_cd 20 137 = (2, 1, 0, 0, 0) := by decide +kernel
theorem c_20_138 : pg_cd 20 138 = (28, 1, 0, 0, 0) := by decide +kernel
theorem c_20_139 : pg_cd 20 139 = (36, 3, 0, 0, 7) := by decide +kernel
theorem c_20_142 : pg_cd 20 142 = (1, 1, 0, 0, 1) := by decide +kernel
theorem c_20_143 : pg_cd 20 143 = (38, 3, 0, 0, 4) := by decide +kernel
theorem c_20_146 : pg_cd 20 146 = (1, 1, 0, 0, 0) := by decide +kernel
theorem c_20_147 : pg_cd 20 147 = (6, 2, 0, 8, 0) := by decide +kernel
theorem c_20_149 : pg_cd 20 149 = (3, 2, 0, 8, 0) := by decide +kernel
theorem c_20_151 : pg_cd 20 151 = (36, 3, 0, 0, 51) := by decide +kernel
theorem c_20_154 : pg_cd 20 154 = (5, 1, 0, 0, 0) := by decide +kernel
theorem c_20_155 : pg_cd 20 155 = (5, 1, 0, 1, 0) := by decide +kernel
theorem c_20_156 : pg_cd 20 156 = (3, 2, 0, 7, 0) := by decide +kernel
theorem c_20_158 : pg_cd 20 158 = (5, 1, 0, 1, 0) := by decide +kernel
theorem c_20_159 : pg_cd 20 159 = (45, 7, 33, 0, 0) := by decide +kernel
theorem c_20_162 : pg_cd 20 162 = (3, 2, 0, 5, 0) := by decide +kernel
theorem c_20_164 : pg_cd 20 164 = (1, 2, 0, 0, 7) := by decide +kernel
theorem c_20_166 : pg_cd 20 166 = (80, 55, 47, 0, 0) := by decide +kernel
theorem c_20_169 : pg_cd 20 169 = (5, 1, 0, 2, 0) := by decide +kernel
theorem c_20_170 : pg_cd 20 170 = (3, 1, 0, 3, 0) := by decide +kernel
theorem c_20_171 : pg_cd 20 171 = (80, 21, 97, 0, 0) := by decide +kernel
theorem c_20_174 : pg_cd 20 174 = (5, 1, 0, 0, 0) := by decide +kernel
theorem c_20_175 : pg_cd 20 175 = (5, 1, 0, 1, 0) := by decide +kernel
theorem c_20_176 : pg_cd 20 176 = (45, 7, 33, 0, 0) := by decide +kernel
theorem c_20_179 : pg_cd 20 179 = (3, 2, 0, 5, 0) := by decide +kernel
theorem c_20_181 : pg_cd 20 181 = (1, 1, 0, 0, 4) := by decide +kernel
theorem c_20_182 : pg_cd 20 182 = (80, 55, 47, 0, 0) := by decide +kernel
theorem c_20_185 : pg_cd 20 185 = (1, 1, 0, 0, 0) := by decide +kernel
theorem c_20_186 : pg_cd 20 186 = (80, 22, 101, 0, 0) := by decide +kernel
theorem c_20_189 : pg_cd 20 189 = (5, 1, 0, 0, 0) := by decide +kernel
theorem c_20_190 : pg_cd 20 190 = (33, 1, 0, 0, 0) := by decide +kernel
theorem c_20_191 : pg_cd 20 191 = (43, 1, 80, 3, 0) := by decide +kernel
theorem c_20_194 : pg_cd 20 194 = (1, 1, 0, 0, 1) := by decide +kernel
theorem c_20_195 : pg_cd 20 195 = (3, 2, 0, 5, 0) := by decide +kernel
theorem c_20_197 : pg_cd 20 197 = (18, 1, 0, 0, 0) := by decide +kernel
theorem c_20_198 : pg_cd 20 198 = (14, 1, 0, 0, 0) := by decide +kernel
theorem c_20_199 : pg_cd 20 199 = (46, 1, 80, 3, 0) := by decide +kernel
theorem c_20_202 : pg_cd 20 202 = (9, 3, 0, 5, 1) := by decide +kernel
theorem c_20_205 : pg_cd 20 205 = (38, 3, 0, 0, (-202)) := by decide +kernel
theorem c_20_208 : pg_cd 20 208 = (94, 0, 0, 0, 0) := by decide +kernel
theorem mi_20 : pg_mc 20 = 1 ∧ pg_na 20 = 4 ∧ pg_mx 20 = 9 := by decide +kernel
set_option maxRecDepth 20000 in
theorem u_20_0 {d : Nat} {S : zS} {σ τ : zI} {Q : zQ} {x1 : Nat} {x2 : Nat} {x3 : Int} {x4 : Int} (hx1 : oT S x1) (hx2 : tw x2) (t : wi (d + 10) 20 3 [.ref 54, .ref x1, .ref (x2 + 1), .int (wI x3), .int (wI x4), .int (wI 0), .retAddr 0, .retAddr 0, .retAddr 0] [] S σ τ Q) : wi (d + 10) 20 0 [.ref 54, .ref x1, .ref (x2 + 1), .int (wI x3), .int (wI x4), .retAddr 0, .retAddr 0, .retAddr 0, .retAddr 0] [] S σ τ Q := by
  refine i1 c_20_0 (i6 (L' := [.ref 54, .ref x1, .ref (x2 + 1), .int (wI x3), .int (wI x4), .int (wI 0), .retAddr 0, .retAddr 0, .retAddr 0]) c_20_1 rfl t)
set_option maxRecDepth 20000 in
theorem u_20_3 {d : Nat} {S : zS} {σ τ : zI} {Q : zQ} {x1 : Nat} {x2 : Nat} {x3 : Int} {x4 : Int} {x5 : Int} {y6 : Value} {y7 : Value} {y8 : Value} (hx1 : oT S x1) (hx2 : tw x2) (t : (rg x5) ∧ if (σ (x1 + 1) 2) ≤ x5 then (Q none S σ τ) else ((oW S σ (x1 + 1) 8 192) ∧ (rg x4) ∧ if x4 = 0 then (wi (d + 10) 20 55 [.ref 54, .ref x1, .ref (x2 + 1), .int (wI x3), .int (wI x4), .int (wI x5), .int (wI (rt_ (σ (x1 + 1) 2) (σ (x1 + 2)) 8 0 x5)), .int (wI (rt_ (σ (x1 + 1) 2) (σ (x1 + 2)) 8 6 x5)), y8] [] S σ τ Q) else (if (rt_ (σ (x1 + 1) 2) (σ (x1 + 2)) 8 0 x5) = 3 then (wi (d + 10) 20 56 [.ref 54, .ref x1, .ref (x2 + 1), .int (wI x3), .int (wI x4), .int (wI x5), .int (wI (rt_ (σ (x1 + 1) 2) (σ (x1 + 2)) 8 0 x5)), .int (wI (rt_ (σ (x1 + 1) 2) (σ (x1 + 2)) 8 6 x5)), y8] [.int (wI 1)] S σ τ Q) else (wi (d + 10) 20 55 [.ref 54, .ref x1, .ref (x2 + 1), .int (wI x3), .int (wI x4), .int (wI x5), .int (wI (rt_ (σ (x1 + 1) 2) (σ (x1 + 2)) 8 0 x5)), .int (wI (rt_ (σ (x1 + 1) 2) (σ (x1 + 2)) 8 6 x5)), y8] [] S σ τ Q)))) : wi (d + 10) 20 3 [.ref 54, .ref x1, .ref (x2 + 1), .int (wI x3), .int (wI x4), .int (wI x5), y6, y7, y8] [] S σ τ Q := by
  refine i3 c_20_3 rfl (i5 c_20_5 rfl (i45 c_20_6 (fun _ => oT_0 hx1) (fun _ => oT_r0 hx1) (wi_ok (fun K1 => ?_))))
  obtain ⟨r2, t⟩ := t
  refine i43 (v := σ (x1 + 1) 2) c_20_9 (fun _ => oT_1 hx1) rfl ?_
  refine i37 c_20_12 r2 (rge_ K1 rfl) rfl (fun hc => ?_) (fun hc => ?_)
  · have t := iT t hc
    have ha3 : (σ (x1 + 1) 2) ≤ x5 := hc
    exact i94 c_20_208 t
  · have t := iF t hc
    have ha3 : ¬ ((σ (x1 + 1) 2) ≤ x5) := hc
    obtain ⟨o4, t⟩ := t
    refine i5 c_20_15 rfl (i45 c_20_16 (fun _ => oT_0 hx1) (fun _ => oT_r0 hx1) (i3 c_20_19 rfl (i1 c_20_21 ?_)))
    refine i80 (As := [.int (wI x5), .int (wI 0)]) (rest := []) c_20_22 mi_55 rfl rfl (Nat.le_of_ble_eq_true rfl) (Nat.le_of_ble_eq_true rfl) (fun _ => oT_1 hx1) (q_at (fun _ => o4) r2 (by decide) ?_)
    show wi (d + 10) 20 25 [.ref 54, .ref x1, .ref (x2 + 1), .int (wI x3), .int (wI x4), .int (wI x5), y6, y7, y8] [.int (wI (rt_ (σ (x1 + 1) 2) (σ (x1 + 2)) 8 0 x5))] S σ τ Q
    refine i6 (L' := [.ref 54, .ref x1, .ref (x2 + 1), .int (wI x3), .int (wI x4), .int (wI x5), .int (wI (rt_ (σ (x1 + 1) 2) (σ (x1 + 2)) 8 0 x5)), y7, y8]) c_20_25 rfl (i5 c_20_27 rfl (i45 c_20_28 (fun _ => oT_0 hx1) (fun _ => oT_r0 hx1) (i3 c_20_31 rfl (i1 c_20_33 ?_))))
    refine i80 (As := [.int (wI x5), .int (wI 6)]) (rest := []) c_20_35 mi_55 rfl rfl (Nat.le_of_ble_eq_true rfl) (Nat.le_of_ble_eq_true rfl) (fun _ => oT_1 hx1) (q_at (fun _ => o4) r2 (by decide) ?_)
    show wi (d + 10) 20 38 [.ref 54, .ref x1, .ref (x2 + 1), .int (wI x3), .int (wI x4), .int (wI x5), .int (wI (rt_ (σ (x1 + 1) 2) (σ (x1 + 2)) 8 0 x5)), y7, y8] [.int (wI (rt_ (σ (x1 + 1) 2) (σ (x1 + 2)) 8 6 x5))] S σ τ Q
    obtain ⟨r5, t⟩ := t
    refine i6 (L' := [.ref 54, .ref x1, .ref (x2 + 1), .int (wI x3), .int (wI x4), .int (wI x5), .int (wI (rt_ (σ (x1 + 1) 2) (σ (x1 + 2)) 8 0 x5)), .int (wI (rt_ (σ (x1 + 1) 2) (σ (x1 + 2)) 8 6 x5)), y8]) c_20_38 rfl (i3 c_20_40 rfl ?_)
    refine i36 c_20_42 r5 rfl (fun hc => ?_) (fun hc => ?_)
    · have t := iT t hc
      have ha6 : x4 = 0 := hc
      exact t
    · have t := iF t hc
      have ha6 : ¬ (x4 = 0) := hc
      refine i3 c_20_45 rfl (i1 c_20_47 ?_)
      refine i37 c_20_48 (rg_rt_ (fun k => kO_r K1 _ k) _ _ _ _) (by decide) rfl (fun hc => ?_) (fun hc => ?_)
      · have t := iF t hc
        have ha7 : ¬ ((rt_ (σ (x1 + 1) 2) (σ (x1 + 2)) 8 0 x5) = 3) := hc
        exact t
      · have t := iT t (Decidable.not_not.mp hc)
        have ha7 : (rt_ (σ (x1 + 1) 2) (σ (x1 + 2)) 8 0 x5) = 3 := Decidable.not_not.mp hc
        refine i1 c_20_51 (i38 c_20_52 rfl t)
set_option maxRecDepth 20000 in
theorem u_20_55 {d : Nat} {S : zS} {σ τ : zI} {Q : zQ} {x1 : Nat} {x2 : Nat} {x3 : Int} {x4 : Int} {x5 : Int} {x6 : Int} {x7 : Int} {y8 : Value} (hx1 : oT S x1) (hx2 : tw x2) (t : wi (d + 10) 20 56 [.ref 54, .ref x1, .ref (x2 + 1), .int (wI x3), .int (wI x4), .int (wI x5), .int (wI x6), .int (wI x7), y8] [.int (wI 0)] S σ τ Q) : wi (d + 10) 20 55 [.ref 54, .ref x1, .ref (x2 + 1), .int (wI x3), .int (wI x4), .int (wI x5), .int (wI x6), .int (wI x7), y8] [] S σ τ Q := by
  refine i1 c_20_55 t
set_option maxRecDepth 20000 in
theorem u_20_56 {d : Nat} {S : zS} {σ τ : zI} {Q : zQ} {x1 : Nat} {x2 : Nat} {x3 : Int} {x4 : Int} {x5 : Int} {x6 : Int} {x7 : Int} {y8 : Value} {s0 : Int} (hx1 : oT S x1) (hx2 : tw x2) (t : (rg x4) ∧ if x4 = 0 then ((rg x6) ∧ if x6 = 4 then ((rg x3) ∧ (oW S σ (x1 + 1) 8 192) ∧ (rg x5) ∧ if (zand (zush (rt_ (σ (x2 + 1) 2) (σ (x2 + 2)) 6 4 x3) (rt_ (σ (x1 + 1) 2) (σ (x1 + 2)) 8 1 x5)) 1) = 0 then (wi (d + 10) 20 96 [.ref 54, .ref x1, .ref (x2 + 1), .int (wI x3), .int (wI x4), .int (wI x5), .int (wI x6), .int (wI x7), .int (wI s0)] [.int (wI 0)] S σ τ Q) else (wi (d + 10) 20 96 [.ref 54, .ref x1, .ref (x2 + 1), .int (wI x3), .int (wI x4), .int (wI x5), .int (wI x6), .int (wI x7), .int (wI s0)] [.int (wI 1)] S σ τ Q)) else (wi (d + 10) 20 101 [.ref 54, .ref x1, .ref (x2 + 1), .int (wI x3), .int (wI x4), .int (wI x5), .int (wI x6), .int (wI x7), .int (wI s0)] [] S σ τ Q)) else (wi (d + 10) 20 101 [.ref 54, .ref x1, .ref (x2 + 1), .int (wI x3), .int (wI x4), .int (wI x5), .int (wI x6), .int (wI x7), .int (wI s0)] [] S σ τ Q)) : wi (d + 10) 20 56 [.ref 54, .ref x1, .ref (x2 + 1), .int (wI x3), .int (wI x4), .int (wI x5), .int (wI x6), .int (wI x7), y8] [.int (wI s0)] S σ τ Q := by
  obtain ⟨r1, t⟩ := t
  refine i6 (L' := [.ref 54, .ref x1, .ref (x2 + 1), .int (wI x3), .int (wI x4), .int (wI x5), .int (wI x6), .int (wI x7), .int (wI s0)]) c_20_56 rfl (i3 c_20_58 rfl ?_)
  refine i36 c_20_60 r1 rfl (fun hc => ?_) (fun hc => ?_)
  · have t := iF t hc
    have ha2 : ¬ (x4 = 0) := hc
    exact t
  · have t := iT t (Decidable.not_not.mp hc)
    have ha2 : x4 = 0 := Decidable.not_not.mp hc
    obtain ⟨r3, t⟩ := t
    refine i3 c_20_63 rfl (i1 c_20_65 ?_)
    refine i37 c_20_66 r3 (by decide) rfl (fun hc => ?_) (fun hc => ?_)
    · have t := iF t hc
      have ha4 : ¬ (x6 = 4) := hc
      exact t
    · have t := iT t (Decidable.not_not.mp hc)
      have ha4 : x6 = 4 := Decidable.not_not.mp hc
      obtain ⟨r5, t⟩ := t
      refine i5 c_20_69 rfl (i3 c_20_70 rfl (i1 c_20_71 (wi_ok (fun K6 => ?_))))
      refine i80 (As := [.int (wI x3), .int (wI 4)]) (rest := []) c_20_72 mi_55 rfl rfl (Nat.le_of_ble_eq_true rfl) (Nat.le_of_ble_eq_true rfl) (lo (lyt_1 hx2) (by have := tw_b hx2; omega)) (q_at (ow_kinds hx2) r5 (by decide) ?_)
      show wi (d + 10) 20 75 [.ref 54, .ref x1, .ref (x2 + 1), .int (wI x3), .int (wI x4), .int (wI x5), .int (wI x6), .int (wI x7), .int (wI s0)] [.int (wI (rt_ (σ (x2 + 1) 2) (σ (x2 + 2)) 6 4 x3))] S σ τ Q
      obtain ⟨o7, t⟩ := t
      obtain ⟨r8, t⟩ := t
      refine i5 c_20_75 rfl (i45 c_20_76 (fun _ => oT_0 hx1) (fun _ => oT_r0 hx1) (i3 c_20_79 rfl (i1 c_20_81 ?_)))
      refine i80 (As := [.int (wI x5), .int (wI 1)]) (rest := [.int (wI (rt_ (σ (x2 + 1) 2) (σ (x2 + 2)) 6 4 x3))]) c_20_82 mi_55 rfl rfl (Nat.le_of_ble_eq_true rfl) (Nat.le_of_ble_eq_true rfl) (fun _ => oT_1 hx1) (q_at (fun _ => o7) r8 (by decide) ?_)
      show wi (d + 10) 20 85 [.ref 54, .ref x1, .ref (x2 + 1), .int (wI x3), .int (wI x4), .int (wI x5), .int (wI x6), .int (wI x7), .int (wI s0)] [.int (wI (rt_ (σ (x1 + 1) 2) (σ (x1 + 2)) 8 1 x5)), .int (wI (rt_ (σ (x2 + 1) 2) (σ (x2 + 2)) 6 4 x3))] S σ τ Q
      refine i20 c_20_85 (i1 c_20_86 (i13 c_20_87 ?_))
      refine i36 c_20_88 (rg_toInt _) rfl (fun hc => ?_) (fun hc => ?_)
      · have t := iT t hc
        have ha9 : (zand (zush (rt_ (σ (x2 + 1) 2) (σ (x2 + 2)) 6 4 x3) (rt_ (σ (x1 + 1) 2) (σ (x1 + 2)) 8 1 x5)) 1) = 0 := hc
        refine i1 c_20_95 t
      · have t := iF t hc
        have ha9 : ¬ ((zand (zush (rt_ (σ (x2 + 1) 2) (σ (x2 + 2)) 6 4 x3) (rt_ (σ (x1 + 1) 2) (σ (x1 + 2)) 8 1 x5)) 1) = 0) := hc
        refine i1 c_20_91 (i38 c_20_92 rfl t)
set_option maxRecDepth 20000 in
theorem u_20_96 {d : Nat} {S : zS} {σ τ : zI} {Q : zQ} {x1 : Nat} {x2 : Nat} {x3 : Int} {x4 : Int} {x5 : Int} {x6 : Int} {x7 : Int} {x8 : Int} {s0 : Int} (hx1 : oT S x1) (hx2 : tw x2) (t : wi (d + 10) 20 149 [.ref 54, .ref x1, .ref (x2 + 1), .int (wI x3), .int (wI x4), .int (wI x5), .int (wI x6), .int (wI x7), .int (wI s0)] [] S σ τ Q) : wi (d + 10) 20 96 [.ref 54, .ref x1, .ref (x2 + 1), .int (wI x3), .int (wI x4), .int (wI x5), .int (wI x6), .int (wI x7), .int (wI x8)] [.int (wI s0)] S σ τ Q := by
  refine i6 (L' := [.ref 54, .ref x1, .ref (x2 + 1), .int (wI x3), .int (wI x4), .int (wI x5), .int (wI x6), .int (wI x7), .int (wI s0)]) c_20_96 rfl (i38 c_20_98 rfl t)
set_option maxRecDepth 20000 in
theorem u_20_101 {d : Nat} {S : zS} {σ τ : zI} {Q : zQ} {x1 : Nat} {x2 : Nat} {x3 : Int} {x4 : Int} {x5 : Int} {x6 : Int} {x7 : Int} {x8 : Int} (hx1 : oT S x1) (hx2 : tw x2) (t : (rg x4) ∧ if x4 = 0 then ((rg x6) ∧ if x6 = 5 then ((oW S σ (x1 + 1) 8 192) ∧ (rg x5) ∧ ∃ a8 : Int → Int, ∃ n9 : Int, ∃ m110 : Int, ∃ b111 : Int, (RT σ x2 a8) ∧ (TX σ x1 a8 n9) ∧ (jv_K a8) ∧ (0 ≤ (rt_ (σ (x1 + 1) 2) (σ (x1 + 2)) 8 5 x5) ∧ (rt_ (σ (x1 + 1) 2) (σ (x1 + 2)) 8 5 x5) ≤ x7 ∧ x7 ≤ σ x1 2) ∧ (0 ≤ x3 ∧ x3 ≤ 5) ∧ (wzN a8 (5500 + 840 * n9 + 200) (x7 - (rt_ (σ (x1 + 1) 2) (σ (x1 + 2)) 8 5 x5)).toNat (rt_ (σ (x1 + 1) 2) (σ (x1 + 2)) 8 5 x5) 0 0 m110 b111) ∧ ∀ (τ118 : zI), Fr9 τ τ118 → CRs (τ118 56) (τ118 57) (cl_ (evN a8 (fun v => a8 (20 + 8 * x3 + v)) (5500 + 840 * n9 + 200) (x7 - (rt_ (σ (x1 + 1) 2) (σ (x1 + 2)) 8 5 x5)).toNat (rt_ (σ (x1 + 1) 2) (σ (x1 + 2)) 8 5 x5) ([], []))) → if (τ118 56 1) = 0 then (wi (d + 10) 20 147 [.ref 54, .ref x1, .ref (x2 + 1), .int (wI x3), .int (wI x4), .int (wI x5), .int (wI x6), .int (wI x7), .int (wI x8)] [.int (wI 0)] S σ τ118 Q) else (wi (d + 10) 20 147 [.ref 54, .ref x1, .ref (x2 + 1), .int (wI x3), .int (wI x4), .int (wI x5), .int (wI x6), .int (wI x7), .int (wI x8)] [.int (wI 1)] S σ τ118 Q)) else (wi (d + 10) 20 149 [.ref 54, .ref x1, .ref (x2 + 1), .int (wI x3), .int (wI x4), .int (wI x5), .int (wI x6), .int (wI x7), .int (wI x8)] [] S σ τ Q)) else (wi (d + 10) 20 149 [.ref 54, .ref x1, .ref (x2 + 1), .int (wI x3), .int (wI x4), .int (wI x5), .int (wI x6), .int (wI x7), .int (wI x8)] [] S σ τ Q)) : wi (d + 10) 20 101 [.ref 54, .ref x1, .ref (x2 + 1), .int (wI x3), .int (wI x4), .int (wI x5), .int (wI x6), .int (wI x7), .int (wI x8)] [] S σ τ Q := by
  obtain ⟨r1, t⟩ := t
  refine i3 c_20_101 rfl ?_
  refine i36 c_20_103 r1 rfl (fun hc => ?_) (fun hc => ?_)
  · have t := iF t hc
    have ha2 : ¬ (x4 = 0) := hc
    exact t
  · have t := iT t (Decidable.not_not.mp hc)
    have ha2 : x4 = 0 := Decidable.not_not.mp hc
    obtain ⟨r3, t⟩ := t
    refine i3 c_20_106 rfl (i1 c_20_108 ?_)
    refine i37 c_20_109 r3 (by decide) rfl (fun hc => ?_) (fun hc => ?_)
    · have t := iF t hc
      have ha4 : ¬ (x6 = 5) := hc
      exact t
    · have t := iT t (Decidable.not_not.mp hc)
      have ha4 : x6 = 5 := Decidable.not_not.mp hc
      obtain ⟨o5, t⟩ := t
      obtain ⟨r6, t⟩ := t
      refine i5 c_20_112 rfl (i5 c_20_113 rfl (i5 c_20_114 rfl (i45 c_20_115 (fun _ => oT_0 hx1) (fun _ => oT_r0 hx1) (i3 c_20_118 rfl (i1 c_20_120 (wi_ok (fun K7 => ?_)))))))
      refine i80 (As := [.int (wI x5), .int (wI 5)]) (rest := [.ref x1, .ref 54]) c_20_121 mi_55 rfl rfl (Nat.le_of_ble_eq_true rfl) (Nat.le_of_ble_eq_true rfl) (fun _ => oT_1 hx1) (q_at (fun _ => o5) r6 (by decide) ?_)
      show wi (d + 10) 20 124 [.ref 54, .ref x1, .ref (x2 + 1), .int (wI x3), .int (wI x4), .int (wI x5), .int (wI x6), .int (wI x7), .int (wI x8)] [.int (wI (rt_ (σ (x1 + 1) 2) (σ (x1 + 2)) 8 5 x5)), .ref x1, .ref 54] S σ τ Q
      obtain ⟨a8, t⟩ := t
      obtain ⟨n9, t⟩ := t
      obtain ⟨m110, t⟩ := t
      obtain ⟨b111, t⟩ := t
      obtain ⟨p12, t⟩ := t
      obtain ⟨p13, t⟩ := t
      obtain ⟨p14, t⟩ := t
      obtain ⟨p15, t⟩ := t
      obtain ⟨p16, t⟩ := t
      obtain ⟨p17, t⟩ := t
      refine i3 c_20_124 rfl (i5 c_20_126 rfl (i3 c_20_127 rfl ?_))
      refine i80 (As := [.ref x1, .int (wI (rt_ (σ (x1 + 1) 2) (σ (x1 + 2)) 8 5 x5)), .int (wI x7), .ref (x2 + 1), .int (wI x3)]) (rest := []) c_20_128 mi_21 rfl rfl (Nat.le_of_ble_eq_true rfl) (Nat.le_of_ble_eq_true rfl) (lo (c := 54) (kd := 101) (n := 0) rfl (by decide)) (q_21 (a := a8) (n := n9) (m1 := m110) (b1 := b111) hx1 hx2 p12 p13 p14 p15 p16 p17 (fun τ118 q19 q20 => ?_))
      have t := t τ118 q19 q20
      show wi (d + 10) 20 131 [.ref 54, .ref x1, .ref (x2 + 1), .int (wI x3), .int (wI x4), .int (wI x5), .int (wI x6), .int (wI x7), .int (wI x8)] [] S σ τ118 Q
      refine i5 c_20_131 rfl (i45 c_20_132 (lo (c := 54) (kd := 101) (n := 0) rfl (by decide)) (lro (c := 54) (k := 1) (j := 56) (by decide)) (i1 c_20_135 (wi_ok (fun K21 => ?_))))
      refine i52 (v := τ118 56 1) c_20_136 (lo (c := 56) (kd := 1) (n := 64) rfl (by decide)) (by decide) (by decide) rfl (i2 c_20_137 (i28 c_20_138 ?_))
      refine i36l c_20_139 (rje_ K21 rfl) (by decide) rfl (fun hc => ?_) (fun hc => ?_)
      · have t := iT t hc
        have ha22 : (τ118 56 1) = 0 := hc
        refine i1 c_20_146 t
      · have t := iF t hc
        have ha22 : ¬ ((τ118 56 1) = 0) := hc
        refine i1 c_20_142 (i38 c_20_143 rfl t)
set_option maxRecDepth 20000 in
theorem u_20_147 {d : Nat} {S : zS} {σ τ : zI} {Q : zQ} {x1 : Nat} {x2 : Nat} {x3 : Int} {x4 : Int} {x5 : Int} {x6 : Int} {x7 : Int} {x8 : Int} {s0 : Int} (hx1 : oT S x1) (hx2 : tw x2) (t : wi (d + 10) 20 149 [.ref 54, .ref x1, .ref (x2 + 1), .int (wI x3), .int (wI x4), .int (wI x5), .int (wI x6), .int (wI x7), .int (wI s0)] [] S σ τ Q) : wi (d + 10) 20 147 [.ref 54, .ref x1, .ref (x2 + 1), .int (wI x3), .int (wI x4), .int (wI x5), .int (wI x6), .int (wI x7), .int (wI x8)] [.int (wI s0)] S σ τ Q := by
  refine i6 (L' := [.ref 54, .ref x1, .ref (x2 + 1), .int (wI x3), .int (wI x4), .int (wI x5), .int (wI x6), .int (wI x7), .int (wI s0)]) c_20_147 rfl t
set_option maxRecDepth 20000 in
theorem u_20_149 {d : Nat} {S : zS} {σ τ : zI} {Q : zQ} {x1 : Nat} {x2 : Nat} {x3 : Int} {x4 : Int} {x5 : Int} {x6 : Int} {x7 : Int} {x8 : Int} (hx1 : oT S x1) (hx2 : tw x2) (t : (rg x8) ∧ if x8 = 0 then (wi (d + 10) 20 202 [.ref 54, .ref x1, .ref (x2 + 1), .int (wI x3), .int (wI x4), .int (wI x5), .int (wI x6), .int (wI x7), .int (wI x8)] [] S σ τ Q) else ((oW S σ (x1 + 1) 8 192) ∧ (rg x5) ∧ ∃ a6 : Int → Int, ∃ n7 : Int, ∃ m18 : Int, ∃ b19 : Int, (RT σ x2 a6) ∧ (TX σ x1 a6 n7) ∧ (jv_K a6) ∧ (0 ≤ x7 ∧ x7 ≤ (rt_ (σ (x1 + 1) 2) (σ (x1 + 2)) 8 7 x5) ∧ (rt_ (σ (x1 + 1) 2) (σ (x1 + 2)) 8 7 x5) ≤ σ x1 2) ∧ (0 ≤ x3 ∧ x3 ≤ 5) ∧ (wzN a6 (5500 + 840 * n7 + 200) ((rt_ (σ (x1 + 1) 2) (σ (x1 + 2)) 8 7 x5) - x7).toNat x7 0 0 m18 b19) ∧ ∀ (τ116 : zI), Fr9 τ τ116 → CRs (τ116 56) (τ116 57) (cl_ (evN a6 (fun v => a6 (20 + 8 * x3 + v)) (5500 + 840 * n7 + 200) ((rt_ (σ (x1 + 1) 2) (σ (x1 + 2)) 8 7 x5) - x7).toNat x7 ([], []))) → ∃ o20 : Int, ((0 : Int) ≤ 0 ∧ 0 < (63 : Int)) ∧ (frN (τ116 56 0) (τ116 57 0)) ∧ (frN (τ116 56 (0 + 1)) (τ116 57 (0 + 1))) ∧ (((3 : Int) ≤ o20 ∧ o20 ≤ 8 ∨ 10 ≤ o20 ∧ o20 ≤ 15 ∨ o20 = 21 ∨ o20 = 22) ∧ (rt_ (σ (x1 + 1) 2) (σ (x1 + 2)) 8 4 x5) * 10000 = stE o20 0) ∧ (21 ≤ o20 → (0 ≤ τ116 56 0 ∧ τ116 56 0 ≤ 1) ∧ (0 ≤ τ116 56 (0 + 1) ∧ τ116 56 (0 + 1) ≤ 1)) ∧ wi (d + 10) 20 202 [.ref 54, .ref x1, .ref (x2 + 1), .int (wI x3), .int (wI x4), .int (wI x5), .int (wI x6), .int (wI x7), .int (wI x8)] [] S (uc σ 54 (u1 (σ 54) 3 (zor (σ 54 3) (zshl 1 x5)))) (uc (uc τ116 56 (u1 ((τ116 56)) 0 (jn o20 ((τ116 56) 0) (τ116 57 0) ((τ116 56) (0 + 1)) (τ116 57 (0 + 1))).1)) 57 (u1 ((τ116 57)) 0 (jn o20 (τ116 56 0) ((τ116 57) 0) (τ116 56 (0 + 1)) ((τ116 57) (0 + 1))).2)) Q)) : wi (d + 10) 20 149 [.ref 54, .ref x1, .ref (x2 + 1), .int (wI x3), .int (wI x4), .int (wI x5), .int (wI x6), .int (wI x7), .int (wI x8)] [] S σ τ Q := by
  obtain ⟨r1, t⟩ := t
  refine i3 c_20_149 rfl ?_
  refine i36 c_20_151 r1 rfl (fun hc => ?_) (fun hc => ?_)
  · have t := iT t hc
    have ha2 : x8 = 0 := hc
    exact t
  · have t := iF t hc
    have ha2 : ¬ (x8 = 0) := hc
    obtain ⟨o3, t⟩ := t
    obtain ⟨r4, t⟩ := t
    refine i5 c_20_154 rfl (i5 c_20_155 rfl (i3 c_20_156 rfl (i5 c_20_158 rfl (i45 c_20_159 (fun _ => oT_0 hx1) (fun _ => oT_r0 hx1) (i3 c_20_162 rfl (i1 c_20_164 (wi_ok (fun K5 => ?_))))))))
    refine i80 (As := [.int (wI x5), .int (wI 7)]) (rest := [.int (wI x7), .ref x1, .ref 54]) c_20_166 mi_55 rfl rfl (Nat.le_of_ble_eq_true rfl) (Nat.le_of_ble_eq_true rfl) (fun _ => oT_1 hx1) (q_at (fun _ => o3) r4 (by decide) ?_)
    show wi (d + 10) 20 169 [.ref 54, .ref x1, .ref (x2 + 1), .int (wI x3), .int (wI x4), .int (wI x5), .int (wI x6), .int (wI x7), .int (wI x8)] [.int (wI (rt_ (σ (x1 + 1) 2) (σ (x1 + 2)) 8 7 x5)), .int (wI x7), .ref x1, .ref 54] S σ τ Q
    obtain ⟨a6, t⟩ := t
    obtain ⟨n7, t⟩ := t
    obtain ⟨m18, t⟩ := t
    obtain ⟨b19, t⟩ := t
    obtain ⟨p10, t⟩ := t
    obtain ⟨p11, t⟩ := t
    obtain ⟨p12, t⟩ := t
    obtain ⟨p13, t⟩ := t
    obtain ⟨p14, t⟩ := t
    obtain ⟨p15, t⟩ := t
    refine i5 c_20_169 rfl (i3 c_20_170 rfl ?_)
    refine i80 (As := [.ref x1, .int (wI x7), .int (wI (rt_ (σ (x1 + 1) 2) (σ (x1 + 2)) 8 7 x5)), .ref (x2 + 1), .int (wI x3)]) (rest := []) c_20_171 mi_21 rfl rfl (Nat.le_of_ble_eq_true rfl) (Nat.le_of_ble_eq_true rfl) (lo (c := 54) (kd := 101) (n := 0) rfl (by decide)) (q_21 (a := a6) (n := n7) (m1 := m18) (b1 := b19) hx1 hx2 p10 p11 p12 p13 p14 p15 (fun τ116 q17 q18 => ?_))
    have t := t τ116 q17 q18
    show wi (d + 10) 20 174 [.ref 54, .ref x1, .ref (x2 + 1), .int (wI x3), .int (wI x4), .int (wI x5), .int (wI x6), .int (wI x7), .int (wI x8)] [] S σ τ116 Q
    refine i5 c_20_174 rfl (i5 c_20_175 rfl (i45 c_20_176 (fun _ => oT_0 hx1) (fun _ => oT_r0 hx1) (i3 c_20_179 rfl (i1 c_20_181 (wi_ok (fun K19 => ?_))))))
    refine i80 (As := [.int (wI x5), .int (wI 4)]) (rest := [.ref 54]) c_20_182 mi_55 rfl rfl (Nat.le_of_ble_eq_true rfl) (Nat.le_of_ble_eq_true rfl) (fun _ => oT_1 hx1) (q_at (fun _ => o3) r4 (by decide) ?_)
    show wi (d + 10) 20 185 [.ref 54, .ref x1, .ref (x2 + 1), .int (wI x3), .int (wI x4), .int (wI x5), .int (wI x6), .int (wI x7), .int (wI x8)] [.int (wI (rt_ (σ (x1 + 1) 2) (σ (x1 + 2)) 8 4 x5)), .ref 54] S σ τ116 Q
    obtain ⟨o20, t⟩ := t
    obtain ⟨p21, t⟩ := t
    obtain ⟨p22, t⟩ := t
    obtain ⟨p23, t⟩ := t
    obtain ⟨p24, t⟩ := t
    obtain ⟨p25, t⟩ := t
    refine i1 c_20_185 ?_
    refine i80 (As := [.int (wI (rt_ (σ (x1 + 1) 2) (σ (x1 + 2)) 8 4 x5)), .int (wI 0)]) (rest := []) c_20_186 mi_22 rfl rfl (Nat.le_of_ble_eq_true rfl) (Nat.le_of_ble_eq_true rfl) (lo (c := 54) (kd := 101) (n := 0) rfl (by decide)) (q_22 (o := o20) p21 p22 p23 p24 p25 ?_)
    show wi (d + 10) 20 189 [.ref 54, .ref x1, .ref (x2 + 1), .int (wI x3), .int (wI x4), .int (wI x5), .int (wI x6), .int (wI x7), .int (wI x8)] [] S σ (uc (uc τ116 56 (u1 ((τ116 56)) 0 (jn o20 ((τ116 56) 0) (τ116 57 0) ((τ116 56) (0 + 1)) (τ116 57 (0 + 1))).1)) 57 (u1 ((τ116 57)) 0 (jn o20 (τ116 56 0) ((τ116 57) 0) (τ116 56 (0 + 1)) ((τ116 57) (0 + 1))).2)) Q
    refine i5 c_20_189 rfl (i33a c_20_190 (wi_ok (fun K26 => ?_)))
    refine i43 (v := σ 54 3) c_20_191 (lo (c := 54) (kd := 101) (n := 0) rfl (by decide)) rfl (i1 c_20_194 (i3 c_20_195 rfl (i18 c_20_197 (i14 c_20_198 (i46 (σ1 := uc σ 54 (u1 (σ 54) 3 (zor (σ 54 3) (zshl 1 x5)))) c_20_199 (lo (c := 54) (kd := 101) (n := 0) rfl (by decide)) (by decide) rfl (rg_toInt _) (wr_ rfl rfl) t)))))
set_option maxRecDepth 20000 in
theorem u_20_202 {d : Nat} {S : zS} {σ τ : zI} {Q : zQ} {x1 : Nat} {x2 : Nat} {x3 : Int} {x4 : Int} {x5 : Int} {x6 : Int} {x7 : Int} {x8 : Int} (hx1 : oT S x1) (hx2 : tw x2) (t : wi (d + 10) 20 3 [.ref 54, .ref x1, .ref (x2 + 1), .int (wI x3), .int (wI x4), .int (wI (x5 + 1)), .int (wI x6), .int (wI x7), .int (wI x8)] [] S σ τ Q) : wi (d + 10) 20 202 [.ref 54, .ref x1, .ref (x2 + 1), .int (wI x3), .int (wI x4), .int (wI x5), .int (wI x6), .int (wI x7), .int (wI x8)] [] S σ τ Q := by
  refine i9 (L' := [.ref 54, .ref x1, .ref (x2 + 1), .int (wI x3), .int (wI x4), .int (wI (x5 + 1)), .int (wI x6), .int (wI x7), .int (wI x8)]) c_20_202 rfl rfl (i38 c_20_205 rfl t)
set_option maxHeartbeats 8000000 in
theorem q_20 {d : Nat} {S : zS} {σ τ : zI} {Q : zQ} {x : Nat} {tn : Nat} {kind : Int} {prices : Int} {a : Int → Int} {n : Int} {b0 : zI} (hx : oT S x) (htn : tw tn) (p0 : RT σ tn a) (p1 : TX σ x a n) (p2 : jv_K a) (p3 : jv_T a) (p4 : jv_E a) (p5 : 0 ≤ n ∧ n < a 5) (p6 : 0 ≤ kind ∧ kind ≤ 5) (p7 : prices = (0 : Int) ∨ prices = (1 : Int)) (p8 : CP b0 τ (r_pq a n kind prices 0)) (t : ∀ (W : Int) (τ1 : zI), (∀ k, 0 ≤ k → k < 24 → zbt W k = (zbt (σ 54 3) k || (decide (k < a (5500 + 840 * n)) && r_in a n kind prices k))) → CP b0 τ1 (r_pq a n kind prices (a (5500 + 840 * n))) → Q none S (uc σ 54 (u1 (σ 54) 3 W)) τ1) : wc (d + 10) 20 [.ref 54, .ref x, .ref (tn + 1), .int (wI kind), .int (wI prices)] S σ τ Q := by
  have ow := TX_w p1 hx p3 p5.1 p5.2
  have jt := p3 n p5.1 p5.2
  have je := p4 n p5.1 p5.2
  have cn := p1.2.1
  have tb := tw_b htn
  have xb := oT_b hx
  generalize hN : a (5500 + 840 * n) = N at *
  have key : ∀ c, 0 ≤ c → c ≤ N → ∀ (W : Int) (τ' : zI) (y6 y7 y8 : Value), (∀ k, 0 ≤ k → k < 24 → zbt W k = (zbt (σ 54 3) k || (decide (k < c) && r_in a n kind prices k))) → CP b0 τ' (r_pq a n kind prices c) → wi (d + 10) 20 3 [.ref 54, .ref x, .ref (tn + 1), .int (wI kind), .int (wI prices), .int (wI c), y6, y7, y8] [] S (uc σ 54 (u1 (σ 54) 3 W)) τ' Q := by
    refine lp_up (fun c c0 c1 ih => ?_)
    intro W τ' y6 y7 y8 hW hp
    have s1 : (uc σ 54 (u1 (σ 54) 3 W)) (x + 1) = σ (x + 1) := uc_n (by omega)
    have s2 : (uc σ 54 (u1 (σ 54) 3 W)) (x + 2) = σ (x + 2) := uc_n (by omega)
    have s0 : (uc σ 54 (u1 (σ 54) 3 W)) x = σ x := uc_n (by omega)
    have k1 : (uc σ 54 (u1 (σ 54) 3 W)) (tn + 1) = σ (tn + 1) := uc_n (by omega)
    have k2 : (uc σ 54 (u1 (σ 54) 3 W)) (tn + 2) = σ (tn + 2) := uc_n (by omega)
    have ow' : oW S (uc σ 54 (u1 (σ 54) 3 W)) (x + 1) 8 192 := oWl ow (by omega)
    have rt' : RT (uc σ 54 (u1 (σ 54) 3 W)) tn a := RT_σ (fun c h1 h2 => uc_n (by omega)) p0
    have tx' : TX (uc σ 54 (u1 (σ 54) 3 W)) x a n := TX_f p1 (fun c h1 h2 => uc_n (by omega))
    refine u_20_3 hx htn ?_
    rw [s1, cn]
    refine ⟨by omega, ?_⟩
    refine ifI (fun e => ?_) (fun e => ?_)
    · have : c = N := by omega
      subst this
      exact t W τ' (fun k k0 k1 => hW k k0 k1) hp
    have ih := ih (by omega)
    clear t
    have tc := p1.2.2.1 c c0 (by omega)
    have jc := jt.2 c c0 (by omega)
    have ec := je c c0 (by omega)
    have le := p1.2.2.2.2.2.2 c c0 (by omega)
    rw [r_pq_s c0] at ih
    have hi : r_in a n kind prices c = if prices = 0 then (!decide (a (5500 + 840 * n + 1 + 8 * c) = 1) && r_cts a n (5500 + 840 * n + 1 + 8 * c) kind) else decide (a (5500 + 840 * n + 1 + 8 * c) = 1) := rfl
    generalize hCe : (5500 + 840 * n + 1 + 8 * c) = C_ at *
    obtain ⟨t0, t7, tn_, t5, t4⟩ := tc
    have r0 : rt_ N (σ (x + 2)) 8 0 c = srt (a C_) := by rw [rt8 ⟨c0, by omega⟩]; exact t0
    have r6 : Unit → a C_ ≤ 5 → rt_ N (σ (x + 2)) 8 6 c = a (C_ + 6) := fun _ h => by rw [rt8 ⟨c0, by omega⟩]; exact (t5 h).2.1
    have r7 : Unit → a C_ ≤ 5 → rt_ N (σ (x + 2)) 8 7 c = a (C_ + 7) := fun _ h => by rw [rt8 ⟨c0, by omega⟩]; exact (t5 h).2.2
    have r4 : Unit → a C_ ≤ 5 → rt_ N (σ (x + 2)) 8 4 c = if a C_ = 3 ∨ a C_ = 5 then 30 else 29 := fun _ h => by rw [rt8 ⟨c0, by omega⟩]; exact (t5 h).1
    have r1 : Unit → a C_ = 2 ∨ a C_ = 3 → rt_ N (σ (x + 2)) 8 1 c = a (C_ + 1) := fun _ h => by rw [rt8 ⟨c0, by omega⟩]; exact tn_ (by omega)
    have r5 : Unit → a C_ = 4 ∨ a C_ = 5 → rt_ N (σ (x + 2)) 8 5 c = a (C_ + 4) := fun _ h => by rw [rt8 ⟨c0, by omega⟩]; exact (t4 h).1
    have sr1 := srt1 jc.1
    have j1 := jc.2.1
    have b1 := jc.1
    have sr4 : srt (a C_) = 4 ↔ a C_ = 2 ∨ a C_ = 3 := by
      unfold srt
      repeat' split
      all_goals omega
    have sr5 : srt (a C_) = 5 ↔ a C_ = 4 ∨ a C_ = 5 := by
      unfold srt
      repeat' split
      all_goals omega
    have bs : 3 ≤ srt (a C_) ∧ srt (a C_) ≤ 9 := by
      unfold srt
      repeat' split
      all_goals omega
    have ec' := fun (_ : Unit) => ec
    have t4' := fun (_ : Unit) => t4
    have le' := fun (_ : Unit) => le
    have j1' := fun (_ : Unit) => j1
    have nb := jt.1
    clear ec t4 t5 t7 tn_ le j1 jc jt je
    have no : r_in a n kind prices c = false → ∀ (τ2 : zI) (x6 x7 x8 : Int), CP b0 τ2 (r_pq a n kind prices c) → wi (d + 10) 20 202 [.ref 54, .ref x, .ref (tn + 1), .int (wI kind), .int (wI prices), .int (wI c), .int (wI x6), .int (wI x7), .int (wI x8)] [] S (uc σ 54 (u1 (σ 54) 3 W)) τ2 Q := fun h τ2 x6 x7 x8 h2 => by
      rw [if_neg (by rw [h]; decide)] at ih
      refine u_20_202 hx htn (ih W τ2 _ _ _ (fun k k0 k1 => ?_) h2)
      rw [hW k k0 k1]
      congr 1
      by_cases e : k = c
      · subst e; rw [h, Bool.and_false, Bool.and_false]
      · rw [show decide (k < c + 1) = decide (k < c) by simp only [decide_eq_decide]; omega]
    have yes : r_in a n kind prices c = true → ∀ (τ2 : zI) (x6 x8 : Int), x8 = 1 → CP b0 τ2 (r_pq a n kind prices c) → wi (d + 10) 20 149 [.ref 54, .ref x, .ref (tn + 1), .int (wI kind), .int (wI prices), .int (wI c), .int (wI x6), .int (wI (rt_ N (σ (x + 2)) 8 6 c)), .int (wI x8)] [] S (uc σ 54 (u1 (σ 54) 3 W)) τ2 Q := fun h τ2 x6 x8 h8 h2 => by
      have s5 : a C_ ≤ 5 := by
        rw [hi] at h
        split at h
        · rw [Bool.and_eq_true] at h
          have h := h.2
          unfold r_cts at h
          split at h
          · omega
          · split at h
            · omega
            · cases h
        · have := of_decide_eq_true h; omega
      have ec1 := (ec' ()).1 s5
      rw [if_pos h] at ih
      subst h8
      refine u_20_149 hx htn ⟨by omega, ?_⟩
      rw [if_neg (by decide), s1, s2, s0, cn, r6 () s5, r7 () s5, r4 () s5]
      refine ⟨ow', by omega, a, n, 1, 0, rt', tx', p2, ⟨ec1.1.1, ec1.1.2.1, le' () s5⟩, p6, ec1.2, fun τ3 f3 c3 => ?_⟩
      have v := CRs_v c3 ec1.2
      have h1 : τ3 56 0 = (r_pq a n kind prices c).1 := by rw [f3.2.1]; exact h2.1
      have h3 : τ3 57 0 = (r_pq a n kind prices c).2 := by rw [f3.2.2]; exact h2.2.1
      rw [show (0 : Int) + 1 = 1 from rfl, h1, h3, v.1, v.2.1]
      refine ⟨if a C_ = 3 ∨ a C_ = 5 then 4 else 3, by omega, h2.2.2.1, v.2.2, ⟨by split <;> omega, by split <;> rfl⟩, fun h => by split at h <;> omega, ?_⟩
      rw [uc_s, u1_u1, uc_uc, u1_s]
      refine u_20_202 hx htn (ih _ _ _ _ _ (fun k k0 k1 => ?_) ?_)
      · rw [zor_bt (by omega) (by omega), hW k k0 k1, Bool.or_assoc]
        congr 1
        by_cases e : k = c
        · subst e
          rw [h, decide_eq_true (show k < k + 1 by omega), decide_eq_true rfl, Bool.or_true]
          rfl
        · rw [show decide (k < c + 1) = decide (k < c) by simp only [decide_eq_decide]; omega, decide_eq_false e, Bool.or_false]
      · have hj : ∀ o, (o = 3 ∨ o = 4) → ∀ p q r s, jn o p q r s = fr2 o p q r s := fun o ho p q r s => by unfold jn; rw [if_pos (by omega)]
        have ho : (if a C_ = 3 ∨ a C_ = 5 then (4 : Int) else 3) = 3 ∨ (if a C_ = 3 ∨ a C_ = 5 then (4 : Int) else 3) = 4 := by split <;> omega
        unfold CP
        rw [i56_, i57_, u1_s, u1_s, hj _ ho]
        exact ⟨rfl, rfl, fr2_n _ _ _ _ _, fun c_ x1_ x2_ => by rw [uc_n x2_, uc_n x1_, f3.1 c_ x1_ x2_]; exact h2.2.2.2 c_ x1_ x2_⟩
    have fin : ∀ z, (z = 0 ∧ r_in a n kind prices c = false ∨ z = 1 ∧ r_in a n kind prices c = true) → ∀ (τ2 : zI) (x6 : Int), CP b0 τ2 (r_pq a n kind prices c) → wi (d + 10) 20 149 [.ref 54, .ref x, .ref (tn + 1), .int (wI kind), .int (wI prices), .int (wI c), .int (wI x6), .int (wI (rt_ N (σ (x + 2)) 8 6 c)), .int (wI z)] [] S (uc σ 54 (u1 (σ 54) 3 W)) τ2 Q := fun z hz τ2 x6 h2 => by
      rcases hz with ⟨e, h⟩ | ⟨e, h⟩
      · subst e
        refine u_20_149 hx htn ⟨by omega, ?_⟩
        rw [if_pos rfl]
        exact no h _ _ _ _ h2
      · exact yes h _ _ _ e h2
    clear no yes ih
    refine ⟨ow', by omega, ?_⟩
    rw [s2, r0]
    have pr : ¬ prices = 0 → (wi (d + 10) 20 56 [.ref 54, .ref x, .ref (tn + 1), .int (wI kind), .int (wI prices), .int (wI c), .int (wI (srt (a C_))), .int (wI (rt_ N (σ (x + 2)) 8 6 c)), y8] [.int (wI (if a C_ = 1 then 1 else 0))] S (uc σ 54 (u1 (σ 54) 3 W)) τ' Q) := fun e => by
      refine u_20_56 hx htn ⟨by omega, ?_⟩
      rw [if_neg e]
      refine u_20_101 hx htn ⟨by omega, ?_⟩
      rw [if_neg e]
      refine fin _ ?_ _ _ hp
      rw [hi, if_neg e]
      by_cases e2 : a C_ = 1
      · rw [if_pos e2, decide_eq_true e2]; exact Or.inr ⟨rfl, rfl⟩
      · rw [if_neg e2, decide_eq_false e2]; exact Or.inl ⟨rfl, rfl⟩
    refine ifI (fun e0 => ?_) (fun e0 => ?_)
    · clear pr
      rw [hi, if_pos e0] at fin
      refine u_20_55 hx htn (u_20_56 hx htn ⟨by omega, ?_⟩)
      rw [if_pos e0]
      refine ⟨by omega, ?_⟩
      refine ifI (fun e4 => ?_) (fun e4 => ?_)
      · have q4 := sr4.mp e4
        have jn_ := j1' () q4
        have hv : r_cts a n C_ kind = decide (zand (zshr (a (20 + 8 * kind + 5)) (a (C_ + 1))) 1 = 1) := by unfold r_cts; rw [if_pos q4]
        rw [k1, k2, s1, s2, cn, vK4 p0 p6, r1 () q4, zus1 (by omega)]
        rw [hv, zsh1 (by omega), decide_eq_false (show ¬ a C_ = 1 by omega)] at fin
        refine ⟨by omega, ow', by omega, ?_⟩
        refine ifI (fun e5 => u_20_96 hx htn (fin 0 (Or.inl ⟨rfl, ?_⟩) _ _ hp)) (fun e5 => u_20_96 hx htn (fin 1 (Or.inr ⟨rfl, ?_⟩) _ _ hp))
        · split at e5
          · omega
          · next h => rw [if_neg h]; rfl
        · split at e5
          · next h => rw [if_pos h]; rfl
          · omega
      · refine u_20_101 hx htn ⟨by omega, ?_⟩
        rw [if_pos e0]
        refine ⟨by omega, ?_⟩
        refine ifI (fun e5 => ?_) (fun e5 => ?_)
        · have q5 := sr5.mp e5
          have ec2 := (ec' ()).2 q5
          have e56 := (t4' () q5).2
          have hv : r_cts a n C_ kind = trN a (fun v => a (20 + 8 * kind + v)) (5500 + 840 * n + 200) (a (C_ + 5) - a (C_ + 4)).toNat (a (C_ + 4)) := by unfold r_cts; rw [if_neg (by omega), if_pos q5]
          have bl := (ec' ()).1 (by omega)
          have bl2 := le' () (by omega)
          have w2 := ec2.2
          rw [e56] at w2 hv
          rw [hv, decide_eq_false (show ¬ a C_ = 1 by omega)] at fin
          rw [r6 () (by omega)] at fin ⊢
          rw [s1, s2, s0, cn, r5 () q5]
          refine ⟨ow', by omega, a, n, 0, 1, rt', tx', p2, ⟨by omega, by omega, by omega⟩, p6, w2, fun τ3 f3 c3 => ?_⟩
          have v := CRs_t c3 w2
          have hp3 : CP b0 τ3 (r_pq a n kind prices c) := ⟨by rw [f3.2.1]; exact hp.1, by rw [f3.2.2]; exact hp.2.1, hp.2.2.1, fun c_ x1_ x2_ => by rw [f3.1 c_ x1_ x2_]; exact hp.2.2.2 c_ x1_ x2_⟩
          rw [v]
          generalize trN a (fun v => a (20 + 8 * kind + v)) (5500 + 840 * n + 200) (a (C_ + 6) - a (C_ + 4)).toNat (a (C_ + 4)) = B at *
          refine ifI (fun e6 => u_20_147 hx htn (fin 0 (Or.inl ⟨rfl, ?_⟩) _ _ hp3)) (fun e6 => u_20_147 hx htn (fin 1 (Or.inr ⟨rfl, ?_⟩) _ _ hp3))
          · cases B
            · rfl
            · simp at e6
          · cases B
            · simp at e6
            · rfl
        · refine fin 0 (Or.inl ⟨rfl, ?_⟩) _ _ hp
          have hv : r_cts a n C_ kind = false := by unfold r_cts; rw [if_neg (fun h => e4 (sr4.mpr h)), if_neg (fun h => e5 (sr5.mpr h))]
          rw [hv, Bool.and_false]
    · have pr := pr e0
      refine ifI (fun e3 => ?_) (fun e3 => ?_)
      · rw [if_pos (sr1.mp e3)] at pr; exact pr
      · rw [if_neg (fun h => e3 (sr1.mpr h))] at pr; exact u_20_55 hx htn pr
  refine wc_of mi_20 rfl (u_20_0 hx htn ?_)
  have := key 0 (by omega) (by omega) (σ 54 3) τ (.retAddr 0) (.retAddr 0) (.retAddr 0) (fun k k0 k1 => by rw [decide_eq_false (show ¬ k < 0 by omega), Bool.false_and, Bool.or_false]) p8
  rw [u1_id, uc_id] at this
  exact this
/-- what payAt leaves: which CLAUSES counted, as bits -/
def Wc (σ : zI) (a : Int → Int) (kind mill week known : Int) : Prop := σ 54 4 = r_fc a 1 mill week known ∧ ∀ k, 0 ≤ k → k < 24 → zbt (σ 54 3) k = (if r_fc a 1 mill week known < 0 then false else if (r_fr a (a (5012 + 8 * r_fc a 1 mill week known)) kind).2 = 0 then false else decide (k < a (5500 + 840 * a (5012 + 8 * r_fc a 1 mill week known))) && r_is a (a (5012 + 8 * r_fc a 1 mill week known)) kind k)
def F54 (σ σ1 τ τ1 : zI) : Prop := (∀ c, c ≠ 54 → σ1 c = σ c) ∧ (∀ k, k < 3 ∨ 4 < k → σ1 54 k = σ 54 k) ∧ ∀ c, c ≠ 56 → c ≠ 57 → τ1 c = τ c
theorem r_in_is (a : Int → Int) (text kind c : Int) : (r_in a text kind 1 c || r_in a text kind 0 c) = r_is a text kind c := by
  unfold r_in r_is
  rw [if_neg (by decide), if_pos rfl]
  cases decide (a (5500 + 840 * text + 1 + 8 * c) = 1) <;> simp
-- method 19: MillTown$Law.payAt(LMillTown$Town;IIII)I
theorem c_19_0 : pg_cd 19 0 = (5, 1, 0, 0, 0) := by decide +kernel
theorem c_19_1 : pg_cd 19 1 = (1, 1, 0, 0, 0) := by decide +kernel
theorem c_19_2 : pg_cd 19 2 = (46, 1, 80, 3, 0) := by decide +kernel
theorem c_19_5 : pg_cd 19 5 = (5, 1, 0, 0, 0) := by decide +kernel
theorem c_19_6 : pg_cd 19 6 = (5, 1, 0, 0, 0) := by decide +kernel
theorem c_19_7 : pg_cd 19 7 = (5, 1, 0, 1, 0) := by decide +kernel
theorem c_19_8 : pg_cd 19 8 = (1, 1, 0, 0, 3) := by decide +kernel
theorem c_19_9 : pg_cd 19 9 = (3, 1, 0, 3, 0) := by decide +kernel
theorem c_19_10 : pg_cd 19 10 = (3, 2, 0, 4, 0) := by decide +kernel
theorem c_19_12 : pg_cd 19 12 = (3, 2, 0, 5, 0) := by decide +kernel
theorem c_19_14 : pg_cd 19 14 = (80, 12, 55, 0, 0) := by decide +kernel
theorem c_19_17 : pg_cd 19 17 = (46, 1, 24, 4, 0) := by decide +kernel
theorem c_19_20 : pg_cd 19 20 = (5, 1, 0, 0, 0) := by decide +kernel
theorem c_19_21 : pg_cd 19 21 = (5, 1, 0, 1, 0) := by decide +kernel
theorem c_19_22 : pg_cd 19 22 = (45, 8, 42, 7, 0) := by decide +kernel
theorem c_19_25 : pg_cd 19 25 = (5, 1, 0, 0, 0) := by decide +kernel
theorem c_19_26 : pg_cd 19 26 = (43, 1, 24, 4, 0) := by decide +kernel
theorem c_19_29 : pg_cd 19 29 = (1, 1, 0, 0, 0) := by decide +kernel
theorem c_19_30 : pg_cd 19 30 = (80, 55, 47, 0, 0) := by decide +kernel
theorem c_19_33 : pg_cd 19 33 = (80, 10, 29, 0, 0) := by decide +kernel
theorem c_19_36 : pg_cd 19 36 = (8, 2, 0, 6, 0) := by decide +kernel
theorem c_19_38 : pg_cd 19 38 = (5, 2, 0, 6, 0) := by decide +kernel
theorem c_19_40 : pg_cd 19 40 = (40, 3, 0, 0, 5) := by decide +kernel
theorem c_19_43 : pg_cd 19 43 = (1, 1, 0, 0, 0) := by decide +kernel
theorem c_19_44 : pg_cd 19 44 = (90, 0, 0, 0, 0) := by decide +kernel
theorem c_19_45 : pg_cd 19 45 = (5, 1, 0, 0, 0) := by decide +kernel
theorem c_19_46 : pg_cd 19 46 = (45, 1, 17, 1, 0) := by decide +kernel
theorem c_19_49 : pg_cd 19 49 = (1, 1, 0, 0, 0) := by decide +kernel
theorem c_19_50 : pg_cd 19 50 = (2, 1, 0, 0, 0) := by decide +kernel
theorem c_19_51 : pg_cd 19 51 = (56, 1, 0, 0, 0) := by decide +kernel
theorem c_19_52 : pg_cd 19 52 = (5, 1, 0, 0, 0) := by decide +kernel
theorem c_19_53 : pg_cd 19 53 = (45, 1, 21, 2, 0) := by decide +kernel
theorem c_19_56 : pg_cd 19 56 = (1, 1, 0, 0, 0) := by decide +kernel
theorem c_19_57 : pg_cd 19 57 = (2, 1, 0, 0, 1) := by decide +kernel
theorem c_19_58 : pg_cd 19 58 = (56, 1, 0, 0, 0) := by decide +kernel
theorem c_19_59 : pg_cd 19 59 = (5, 1, 0, 0, 0) := by decide +kernel
theorem c_19_60 : pg_cd 19 60 = (5, 2, 0, 6, 0) := by decide +kernel
theorem c_19_62 : pg_cd 19 62 = (5, 1, 0, 1, 0) := by decide +kernel
theorem c_19_63 : pg_cd 19 63 = (45, 8, 83, 0, 0) := by decide +kernel
theorem c_19_66 : pg_cd 19 66 = (3, 1, 0, 2, 0) := by decide +kernel
theorem c_19_67 : pg_cd 19 67 = (1, 1, 0, 0, 1) := by decide +kernel
theorem c_19_68 : pg_cd 19 68 = (80, 20, 86, 0, 0) := by decide +kernel
theorem c_19_71 : pg_cd 19 71 = (5, 1, 0, 0, 0) := by decide +kernel
theorem c_19_72 : pg_cd 19 72 = (5, 2, 0, 6, 0) := by decide +kernel
theorem c_19_74 : pg_cd 19 74 = (5, 1, 0, 1, 0) := by decide +kernel
theorem c_19_75 : pg_cd 19 75 = (45, 8, 83, 0, 0) := by decide +kernel
theorem c_19_78 : pg_cd 19 78 = (3, 1, 0, 2, 0) := by decide +kernel
theorem c_19_79 : pg_cd 19 79 = (1, 1, 0, 0, 0) := by decide +kernel
theorem c_19_80 : pg_cd 19 80 = (80, 20, 86, 0, 0) := by decide +kernel
theorem c_19_83 : pg_cd 19 83 = (5, 1, 0, 0, 0) := by decide +kernel
theorem c_19_84 : pg_cd 19 84 = (45, 1, 21, 2, 0) := by decide +kernel
theorem c_19_87 : pg_cd 19 87 = (1, 1, 0, 0, 0) := by decide +kernel
theorem c_19_88 : pg_cd 19 88 = (52, 1, 0, 0, 0) := by decide +kernel
theorem c_19_89 : pg_cd 19 89 = (2, 1, 0, 0, 0) := by decide +kernel
theorem c_19_90 : pg_cd 19 90 = (28, 1, 0, 0, 0) := by decide +kernel
theorem c_19_91 : pg_cd 19 91 = (36, 3, 0, 1, 10) := by decide +kernel
theorem c_19_94 : pg_cd 19 94 = (5, 1, 0, 0, 0) := by decide +kernel
theorem c_19_95 : pg_cd 19 95 = (1, 1, 0, 0, 0) := by decide +kernel
theorem c_19_96 : pg_cd 19 96 = (46, 1, 80, 3, 0) := by decide +kernel
theorem c_19_99 : pg_cd 19 99 = (1, 1, 0, 0, 0) := by decide +kernel
theorem c_19_100 : pg_cd 19 100 = (90, 0, 0, 0, 0) := by decide +kernel
theorem c_19_101 : pg_cd 19 101 = (5, 1, 0, 0, 0) := by decide +kernel
theorem c_19_102 : pg_cd 19 102 = (45, 1, 17, 1, 0) := by decide +kernel
theorem c_19_105 : pg_cd 19 105 = (1, 1, 0, 0, 0) := by decide +kernel
theorem c_19_106 : pg_cd 19 106 = (52, 1, 0, 0, 0) := by decide +kernel
theorem c_19_107 : pg_cd 19 107 = (5, 1, 0, 0, 0) := by decide +kernel
theorem c_19_108 : pg_cd 19 108 = (45, 1, 21, 2, 0) := by decide +kernel
theorem c_19_111 : pg_cd 19 111 = (1, 1, 0, 0, 0) := by decide +kernel
theorem c_19_112 : pg_cd 19 112 = (52, 1, 0, 0, 0) := by decide +kernel
theorem c_19_113 : pg_cd 19 113 = (26, 1, 0, 0, 0) := by decide +kernel
theorem c_19_114 : pg_cd 19 114 = (5, 2, 0, 6, 0) := by decide +kernel
theorem c_19_116 : pg_cd 19 116 = (1, 2, 0, 0, 6) := by decide +kernel
theorem c_19_118 : pg_cd 19 118 = (80, 85, 71, 0, 0) := by decide +kernel
theorem c_19_121 : pg_cd 19 121 = (31, 1, 0, 0, 0) := by decide +kernel
theorem c_19_122 : pg_cd 19 122 = (76, 0, 89, 0, 0) := by decide +kernel
theorem c_19_125 : pg_cd 19 125 = (7, 2, 0, 7, 0) := by decide +kernel
theorem c_19_127 : pg_cd 19 127 = (4, 2, 0, 7, 0) := by decide +kernel
theorem c_19_129 : pg_cd 19 129 = (2, 3, 92, 0, 100000) := by decide +kernel
theorem c_19_132 : pg_cd 19 132 = (77, 0, 94, 0, 0) := by decide +kernel
theorem c_19_135 : pg_cd 19 135 = (30, 1, 0, 0, 0) := by decide +kernel
theorem c_19_136 : pg_cd 19 136 = (90, 0, 0, 0, 0) := by decide +kernel
theorem mi_19 : pg_mc 19 = 1 ∧ pg_na 19 = 5 ∧ pg_mx 19 = 9 := by decide +kernel
set_option maxRecDepth 20000 in
theorem u_19_0 {d : Nat} {S : zS} {σ τ : zI} {Q : zQ} {x1 : Nat} {x2 : Int} {x3 : Int} {x4 : Int} {x5 : Int} (hx1 : tw x1) (t : ∃ a1 : Int → Int, ∃ sort2 : Int, (RT (uc σ 54 (u1 (σ 54) 3 0)) x1 a1) ∧ (RX S (uc σ 54 (u1 (σ 54) 3 0)) a1) ∧ (Jl a1) ∧ (jv_T a1) ∧ ((sort2 = (1 : Int) ∧ 3 = (3 : Int)) ∨ ((6 : Int) ≤ sort2 ∧ sort2 ≤ 9 ∧ 3 = sort2)) ∧ (rg x3) ∧ (rg x4) ∧ (rg x5) ∧ ∃ w11 : Int, wI w11 = wI (r_fc a1 sort2 x3 x4 x5) ∧ rg w11 ∧ ∃ a15 : Int → Int, (RX S (uc σ 54 (u1 (u1 (σ 54) 3 0) 4 w11)) a15) ∧ ((rt_ (σ (x1 + 15) 2) (σ (x1 + 16)) 5 0 w11) < a15 5) ∧ (((rt_ (σ (x1 + 15) 2) (σ (x1 + 16)) 5 0 w11) < 0 → Q (some (.int (wI 0))) S (uc σ 54 (u1 (u1 (σ 54) 3 0) 4 w11)) τ) ∧ ∀ j18 : Nat, oT S j18 → 0 ≤ (rt_ (σ (x1 + 15) 2) (σ (x1 + 16)) 5 0 w11) → TX (uc σ 54 (u1 (u1 (σ 54) 3 0) 4 w11)) j18 a15 (rt_ (σ (x1 + 15) 2) (σ (x1 + 16)) 5 0 w11) → ∃ a23 : Int → Int, ∃ n24 : Int, ∃ b025 : zI, (RT (uc σ 54 (u1 (u1 (σ 54) 3 0) 4 w11)) x1 a23) ∧ (TX (uc σ 54 (u1 (u1 (σ 54) 3 0) 4 w11)) j18 a23 n24) ∧ (jv_K a23) ∧ (jv_T a23) ∧ (jv_E a23) ∧ (0 ≤ n24 ∧ n24 < a23 5) ∧ (0 ≤ x2 ∧ x2 ≤ 5) ∧ (1 = (0 : Int) ∨ 1 = (1 : Int)) ∧ (CP b025 (uc (uc τ 56 (u1 (τ 56) 0 0)) 57 (u1 (τ 57) 0 1)) (r_pq a23 n24 x2 1 0)) ∧ ∀ (W35 : Int) (τ136 : zI), (∀ k, 0 ≤ k → k < 24 → zbt W35 k = (zbt ((uc σ 54 (u1 (u1 (σ 54) 3 0) 4 w11)) 54 3) k || (decide (k < a23 (5500 + 840 * n24)) && r_in a23 n24 x2 1 k))) → CP b025 τ136 (r_pq a23 n24 x2 1 (a23 (5500 + 840 * n24))) → ∃ a39 : Int → Int, ∃ n40 : Int, ∃ b041 : zI, (RT (uc σ 54 (u1 ((u1 (u1 (σ 54) 3 0) 4 w11)) 3 W35)) x1 a39) ∧ (TX (uc σ 54 (u1 ((u1 (u1 (σ 54) 3 0) 4 w11)) 3 W35)) j18 a39 n40) ∧ (jv_K a39) ∧ (jv_T a39) ∧ (jv_E a39) ∧ (0 ≤ n40 ∧ n40 < a39 5) ∧ (0 = (0 : Int) ∨ 0 = (1 : Int)) ∧ (CP b041 τ136 (r_pq a39 n40 x2 0 0)) ∧ ∀ (W50 : Int) (τ151 : zI), (∀ k, 0 ≤ k → k < 24 → zbt W50 k = (zbt ((uc σ 54 (u1 ((u1 (u1 (σ 54) 3 0) 4 w11)) 3 W35)) 54 3) k || (decide (k < a39 (5500 + 840 * n40)) && r_in a39 n40 x2 0 k))) → CP b041 τ151 (r_pq a39 n40 x2 0 (a39 (5500 + 840 * n40))) → if (τ151 57 0) = 0 then (Q (some (.int (wI 0))) S (uc σ 54 (u1 (u1 ((u1 ((u1 (u1 (σ 54) 3 0) 4 w11)) 3 W35)) 3 W50) 3 0)) τ151) else (((τ151 57 0) ≠ 0) ∧ ∃ a57 : Int → Int, ∃ n58 : Int, (TX (uc σ 54 (u1 ((u1 ((u1 (u1 (σ 54) 3 0) 4 w11)) 3 W35)) 3 W50)) j18 a57 n58) ∧ (jv_T a57) ∧ (0 ≤ n58 ∧ n58 < a57 5) ∧ ((6 : Int) ≤ 6 ∧ 6 ≤ (9 : Int) ∧ 6 ≠ (7 : Int)) ∧ (rg (r_mx a57 n58 6 (a57 (5500 + 840 * n58)))) ∧ (rj (Int.tdiv (τ151 56 0) (τ151 57 0))) ∧ Q (some (.int (wI (min (max (Int.tdiv (τ151 56 0) (τ151 57 0)) (r_mx a57 n58 6 (a57 (5500 + 840 * n58)))) 100000)))) S (uc σ 54 (u1 ((u1 ((u1 (u1 (σ 54) 3 0) 4 w11)) 3 W35)) 3 W50)) τ151))) : wi (d + 11) 19 0 [.ref 54, .ref x1, .int (wI x2), .int (wI x3), .int (wI x4), .int (wI x5), .retAddr 0, .retAddr 0, .retAddr 0] [] S σ τ Q := by
  obtain ⟨a1, t⟩ := t
  obtain ⟨sort2, t⟩ := t
  obtain ⟨p3, t⟩ := t
  obtain ⟨p4, t⟩ := t
  obtain ⟨p5, t⟩ := t
  obtain ⟨p6, t⟩ := t
  obtain ⟨p7, t⟩ := t
  obtain ⟨r8, t⟩ := t
  obtain ⟨r9, t⟩ := t
  obtain ⟨r10, t⟩ := t
  refine i5 c_19_0 rfl (i1 c_19_1 (i46 (σ1 := uc σ 54 (u1 (σ 54) 3 0)) c_19_2 (lo (c := 54) (kd := 101) (n := 0) rfl (by decide)) (by decide) rfl (by decide) (wr_ rfl rfl) (i5 c_19_5 rfl (i5 c_19_6 rfl (i5 c_19_7 rfl (i1 c_19_8 (i3 c_19_9 rfl (i3 c_19_10 rfl (i3 c_19_12 rfl ?_)))))))))
  refine i80 (As := [.ref x1, .int (wI 3), .int (wI x3), .int (wI x4), .int (wI x5)]) (rest := [.ref 54]) c_19_14 mi_12 rfl rfl (Nat.le_of_ble_eq_true rfl) (Nat.le_of_ble_eq_true rfl) (lo (c := 54) (kd := 101) (n := 0) rfl (by decide)) (q_12 (a := a1) (sort := sort2) hx1 p3 p4 p5 p6 p7 r8 r9 r10 ?_)
  show wi (d + 11) 19 17 [.ref 54, .ref x1, .int (wI x2), .int (wI x3), .int (wI x4), .int (wI x5), .retAddr 0, .retAddr 0, .retAddr 0] [.int (wI (r_fc a1 sort2 x3 x4 x5)), .ref 54] S (uc σ 54 (u1 (σ 54) 3 0)) τ Q
  obtain ⟨w11, e12, r13, t⟩ := t
  refine i46 (σ1 := uc σ 54 (u1 (u1 (σ 54) 3 0) 4 w11)) c_19_17 (lo (c := 54) (kd := 101) (n := 0) rfl (by decide)) (by decide) e12 r13 (wr_ (uc_s _ _ _) (uc_uc _ _ _ _)) (i5 c_19_20 rfl (i5 c_19_21 rfl (i45 c_19_22 (lo (lyt_0 hx1) (by have := tw_b hx1; omega)) (lro (lrt_7 hx1)) (i5 c_19_25 rfl (wi_ok (fun K14 => ?_))))))
  refine i43 (v := w11) c_19_26 (lo (c := 54) (kd := 101) (n := 0) rfl (by decide)) ((congrFun (uc_s _ _ _) _).trans (u1_s _ _ _)) (i1 c_19_29 ?_)
  refine i80 (As := [.int (wI w11), .int (wI 0)]) (rest := [.ref 54]) c_19_30 mi_55 rfl rfl (Nat.le_of_ble_eq_true rfl) (Nat.le_of_ble_eq_true rfl) (lo (lyt_15 hx1) (by have := tw_b hx1; omega)) (q_at (ow_forces hx1) r13 (by decide) ?_)
  show wi (d + 11) 19 33 [.ref 54, .ref x1, .int (wI x2), .int (wI x3), .int (wI x4), .int (wI x5), .retAddr 0, .retAddr 0, .retAddr 0] [.int (wI (rt_ ((uc σ 54 (u1 (u1 (σ 54) 3 0) 4 w11)) (x1 + 15) 2) ((uc σ 54 (u1 (u1 (σ 54) 3 0) 4 w11)) (x1 + 16)) 5 0 w11)), .ref 54] S (uc σ 54 (u1 (u1 (σ 54) 3 0) 4 w11)) τ Q
  obtain ⟨a15, t⟩ := t
  obtain ⟨p16, t⟩ := t
  obtain ⟨p17, t⟩ := t
  refine wi_v (v := rt_ (σ (x1 + 15) 2) (σ (x1 + 16)) 5 0 w11) (rt_c (congrFun (uc_ns rfl (by have := tw_b hx1; omega)) _) (uc_ns rfl (by have := tw_b hx1; omega))) ?_
  refine i80 (As := [.int (wI (rt_ (σ (x1 + 15) 2) (σ (x1 + 16)) 5 0 w11))]) (rest := []) c_19_33 mi_10 rfl rfl (Nat.le_of_ble_eq_true rfl) (Nat.le_of_ble_eq_true rfl) (lo (c := 54) (kd := 101) (n := 0) rfl (by decide)) (q_10 (a := a15) p16 (rg_rt_ (fun k => rge_ K14 (congrFun (uc_ns rfl (by have := tw_b hx1; omega)) k)) _ _ _ _) p17 (fun hn19 => ?_) (fun j18 q20 q21 q22 => ?_))
  · have t := t.1 hn19
    show wi (d + 11) 19 36 [.ref 54, .ref x1, .int (wI x2), .int (wI x3), .int (wI x4), .int (wI x5), .retAddr 0, .retAddr 0, .retAddr 0] [.null] S (uc σ 54 (u1 (u1 (σ 54) 3 0) 4 w11)) τ Q
    refine i8n (L' := [.ref 54, .ref x1, .int (wI x2), .int (wI x3), .int (wI x4), .int (wI x5), .null, .retAddr 0, .retAddr 0]) c_19_36 rfl (i5n c_19_38 rfl (i40n c_19_40 (i1 c_19_43 ?_)))
    exact i90 c_19_44 t
  · have t := t.2 j18 q20 q21 q22
    have hj18 := q20
    show wi (d + 11) 19 36 [.ref 54, .ref x1, .int (wI x2), .int (wI x3), .int (wI x4), .int (wI x5), .retAddr 0, .retAddr 0, .retAddr 0] [.ref j18] S (uc σ 54 (u1 (u1 (σ 54) 3 0) 4 w11)) τ Q
    obtain ⟨a23, t⟩ := t
    obtain ⟨n24, t⟩ := t
    obtain ⟨b025, t⟩ := t
    obtain ⟨p26, t⟩ := t
    obtain ⟨p27, t⟩ := t
    obtain ⟨p28, t⟩ := t
    obtain ⟨p29, t⟩ := t
    obtain ⟨p30, t⟩ := t
    obtain ⟨p31, t⟩ := t
    obtain ⟨p32, t⟩ := t
    obtain ⟨p33, t⟩ := t
    obtain ⟨p34, t⟩ := t
    refine i8 (L' := [.ref 54, .ref x1, .int (wI x2), .int (wI x3), .int (wI x4), .int (wI x5), .ref j18, .retAddr 0, .retAddr 0]) c_19_36 rfl (i5 c_19_38 rfl (i40a c_19_40 rfl (i5 c_19_45 rfl (i45 c_19_46 (lo (c := 54) (kd := 101) (n := 0) rfl (by decide)) (lro (c := 54) (k := 1) (j := 56) (by decide)) (i1 c_19_49 (i2 c_19_50 (i56 (τ1 := uc τ 56 (u1 (τ 56) 0 0)) c_19_51 (lo (c := 56) (kd := 1) (n := 64) rfl (by decide)) (by decide) (by decide) rfl (by decide) (wr_ rfl rfl) (i5 c_19_52 rfl (i45 c_19_53 (lo (c := 54) (kd := 101) (n := 0) rfl (by decide)) (lro (c := 54) (k := 2) (j := 57) (by decide)) (i1 c_19_56 (i2 c_19_57 (i56 (τ1 := uc (uc τ 56 (u1 (τ 56) 0 0)) 57 (u1 (τ 57) 0 1)) c_19_58 (lo (c := 57) (kd := 1) (n := 64) rfl (by decide)) (by decide) (by decide) rfl (by decide) (wr_ (uc_ns rfl (by decide)) rfl) (i5 c_19_59 rfl (i5 c_19_60 rfl (i5 c_19_62 rfl (i45 c_19_63 (lo (lyt_0 hx1) (by have := tw_b hx1; omega)) (lro (lrt_0 hx1)) (i3 c_19_66 rfl (i1 c_19_67 ?_))))))))))))))))))
    refine i80 (As := [.ref j18, .ref (x1 + 1), .int (wI x2), .int (wI 1)]) (rest := []) c_19_68 mi_20 rfl rfl (Nat.le_of_ble_eq_true rfl) (Nat.le_of_ble_eq_true rfl) (lo (c := 54) (kd := 101) (n := 0) rfl (by decide)) (q_20 (a := a23) (n := n24) (b0 := b025) hj18 hx1 p26 p27 p28 p29 p30 p31 p32 p33 p34 (fun W35 τ136 q37 q38 => ?_))
    have t := t W35 τ136 q37 q38
    show wi (d + 11) 19 71 [.ref 54, .ref x1, .int (wI x2), .int (wI x3), .int (wI x4), .int (wI x5), .ref j18, .retAddr 0, .retAddr 0] [] S (uc (uc σ 54 (u1 (u1 (σ 54) 3 0) 4 w11)) 54 (u1 ((uc σ 54 (u1 (u1 (σ 54) 3 0) 4 w11)) 54) 3 W35)) τ136 Q
    obtain ⟨a39, t⟩ := t
    obtain ⟨n40, t⟩ := t
    obtain ⟨b041, t⟩ := t
    obtain ⟨p42, t⟩ := t
    obtain ⟨p43, t⟩ := t
    obtain ⟨p44, t⟩ := t
    obtain ⟨p45, t⟩ := t
    obtain ⟨p46, t⟩ := t
    obtain ⟨p47, t⟩ := t
    obtain ⟨p48, t⟩ := t
    obtain ⟨p49, t⟩ := t
    refine wi_s (σ1 := uc σ 54 (u1 ((u1 (u1 (σ 54) 3 0) 4 w11)) 3 W35)) (by funext j; by_cases h0 : j = 54 <;> simp [uc, h0]) (i5 c_19_71 rfl (i5 c_19_72 rfl (i5 c_19_74 rfl (i45 c_19_75 (lo (lyt_0 hx1) (by have := tw_b hx1; omega)) (lro (lrt_0 hx1)) (i3 c_19_78 rfl (i1 c_19_79 ?_))))))
    refine i80 (As := [.ref j18, .ref (x1 + 1), .int (wI x2), .int (wI 0)]) (rest := []) c_19_80 mi_20 rfl rfl (Nat.le_of_ble_eq_true rfl) (Nat.le_of_ble_eq_true rfl) (lo (c := 54) (kd := 101) (n := 0) rfl (by decide)) (q_20 (a := a39) (n := n40) (b0 := b041) hj18 hx1 p42 p43 p44 p45 p46 p47 p32 p48 p49 (fun W50 τ151 q52 q53 => ?_))
    have t := t W50 τ151 q52 q53
    show wi (d + 11) 19 83 [.ref 54, .ref x1, .int (wI x2), .int (wI x3), .int (wI x4), .int (wI x5), .ref j18, .retAddr 0, .retAddr 0] [] S (uc (uc σ 54 (u1 ((u1 (u1 (σ 54) 3 0) 4 w11)) 3 W35)) 54 (u1 ((uc σ 54 (u1 ((u1 (u1 (σ 54) 3 0) 4 w11)) 3 W35)) 54) 3 W50)) τ151 Q
    refine wi_s (σ1 := uc σ 54 (u1 ((u1 ((u1 (u1 (σ 54) 3 0) 4 w11)) 3 W35)) 3 W50)) (by funext j; by_cases h0 : j = 54 <;> simp [uc, h0]) (i5 c_19_83 rfl (i45 c_19_84 (lo (c := 54) (kd := 101) (n := 0) rfl (by decide)) (lro (c := 54) (k := 2) (j := 57) (by decide)) (i1 c_19_87 (wi_ok (fun K54 => ?_)))))
    refine i52 (v := τ151 57 0) c_19_88 (lo (c := 57) (kd := 1) (n := 64) rfl (by decide)) (by decide) (by decide) rfl (i2 c_19_89 (i28 c_19_90 ?_))
    refine i36l c_19_91 (rje_ K54 rfl) (by decide) rfl (fun hc => ?_) (fun hc => ?_)
    · have t := iF t hc
      have ha55 : ¬ ((τ151 57 0) = 0) := hc
      obtain ⟨y56, t⟩ := t
      obtain ⟨a57, t⟩ := t
      obtain ⟨n58, t⟩ := t
      obtain ⟨p59, t⟩ := t
      obtain ⟨p60, t⟩ := t
      obtain ⟨p61, t⟩ := t
      obtain ⟨p62, t⟩ := t
      refine i5 c_19_101 rfl (i45 c_19_102 (lo (c := 54) (kd := 101) (n := 0) rfl (by decide)) (lro (c := 54) (k := 1) (j := 56) (by decide)) (i1 c_19_105 (i52 (v := τ151 56 0) c_19_106 (lo (c := 56) (kd := 1) (n := 64) rfl (by decide)) (by decide) (by decide) rfl (i5 c_19_107 rfl (i45 c_19_108 (lo (c := 54) (kd := 101) (n := 0) rfl (by decide)) (lro (c := 54) (k := 2) (j := 57) (by decide)) (i1 c_19_111 (i52 (v := τ151 57 0) c_19_112 (lo (c := 57) (kd := 1) (n := 64) rfl (by decide)) (by decide) (by decide) rfl (i26 c_19_113 (rje_ K54 rfl) (rje_ K54 rfl) y56 (i5 c_19_114 rfl (i1 c_19_116 ?_))))))))))
      refine i80 (As := [.int (wI 6)]) (rest := [.long (wJ (Int.tdiv (τ151 56 0) (τ151 57 0)))]) c_19_118 mi_85 rfl rfl (Nat.le_of_ble_eq_true rfl) (Nat.le_of_ble_eq_true rfl) (fun _ => oT_0 hj18) (q_85 (a := a57) (n := n58) hj18 p59 p60 p61 p62 ?_)
      show wi (d + 11) 19 121 [.ref 54, .ref x1, .int (wI x2), .int (wI x3), .int (wI x4), .int (wI x5), .ref j18, .retAddr 0, .retAddr 0] [.int (wI (r_mx a57 n58 6 (a57 (5500 + 840 * n58)))), .long (wJ (Int.tdiv (τ151 56 0) (τ151 57 0)))] S (uc σ 54 (u1 ((u1 ((u1 (u1 (σ 54) 3 0) 4 w11)) 3 W35)) 3 W50)) τ151 Q
      obtain ⟨r63, t⟩ := t
      obtain ⟨r64, t⟩ := t
      refine i31 c_19_121 r63 (i76 c_19_122 (Nat.le_of_ble_eq_true rfl) (by omega) r64 (rj_of r63) (i7 (L' := [.ref 54, .ref x1, .int (wI x2), .int (wI x3), .int (wI x4), .int (wI x5), .ref j18, .long (wJ (max (Int.tdiv (τ151 56 0) (τ151 57 0)) (r_mx a57 n58 6 (a57 (5500 + 840 * n58))))), .retAddr 0]) c_19_125 rfl (i4 c_19_127 rfl (i2 c_19_129 (i77 c_19_132 (Nat.le_of_ble_eq_true rfl) (by omega) (max_j r64 (rj_of r63)) (by decide) (i30 c_19_135 ?_))))))
      exact i90 c_19_136 t
    · have t := iT t (Decidable.not_not.mp hc)
      have ha55 : (τ151 57 0) = 0 := Decidable.not_not.mp hc
      refine i5 c_19_94 rfl (i1 c_19_95 (i46 (σ1 := uc σ 54 (u1 (u1 ((u1 ((u1 (u1 (σ 54) 3 0) 4 w11)) 3 W35)) 3 W50) 3 0)) c_19_96 (lo (c := 54) (kd := 101) (n := 0) rfl (by decide)) (by decide) rfl (by decide) (wr_ (uc_s _ _ _) (uc_uc _ _ _ _)) (i1 c_19_99 ?_)))
      exact i90 c_19_100 t
theorem q_19 {d : Nat} {S : zS} {σ τ : zI} {Q : zQ} {tn : Nat} {kind : Int} {mill : Int} {week : Int} {known : Int} {a : Int → Int} (htn : tw tn) (p0 : RT σ tn a) (p1 : RX S σ a) (p2 : Jl a) (p3 : jv_T a) (p4 : jv_E a) (p5 : 0 ≤ kind ∧ kind ≤ 5) (p6 : rg mill) (p7 : rg week) (p8 : rg known) (t : ∀ (σ1 : zI) (τ1 : zI), F54 σ σ1 τ τ1 → Wc σ1 a kind mill week known → Q (some (.int (wI (r_pay a kind mill week known)))) S σ1 τ1) : wc (d + 11) 19 [.ref 54, .ref tn, .int (wI kind), .int (wI mill), .int (wI week), .int (wI known)] S σ τ Q := by
  have hC := lC p2
  unfold jv_C at hC
  have tb := tw_b htn
  have fb := r_fc_b (a := a) (sort := 1) (mill := mill) (week := week) (known := known) (by omega)
  have rt0 : ∀ f, RT (uc σ 54 f) tn a := fun f => RT_σ (fun c h1 h2 => uc_n (by omega)) p0
  have rx0 : ∀ f, RX S (uc σ 54 f) a := fun f => RX_f p1 (fun c hc => uc_n (by omega))
  have fr0 : ∀ f τ1, (∀ k, k < 3 ∨ 4 < k → f k = σ 54 k) → (∀ c, c ≠ 56 → c ≠ 57 → τ1 c = τ c) → F54 σ (uc σ 54 f) τ τ1 := fun f τ1 h g => ⟨fun c hc => uc_n hc, fun k hk => by rw [uc_s]; exact h k hk, g⟩
  unfold r_pay Wc at t
  refine wc_of mi_19 rfl (u_19_0 htn ⟨a, 1, rt0 _, rx0 _, p2, p3, Or.inl ⟨rfl, rfl⟩, p6, p7, p8, ?_⟩)
  generalize hv : r_fc a 1 mill week known = v at *
  refine ⟨v, rfl, by omega, a, rx0 _, ?_⟩
  by_cases e : v < 0
  · simp only [if_pos e] at t
    rw [rt_n (by omega)]
    refine ⟨by omega, fun _ => ?_, fun j _ h => absurd h (by omega)⟩
    refine t _ τ (fr0 _ _ (fun k hk => by rw [u1_n (by omega), u1_n (by omega)]) (fun _ _ _ => rfl)) ⟨by rw [uc_s, u1_s], fun k k0 k1 => ?_⟩
    rw [uc_s, u1_n (by decide), u1_s, zbt_0]
  · simp only [if_neg e] at t
    rw [vF0 p0 ⟨by omega, fb.2.1⟩]
    have q := lF p2 v (by omega) fb.2.1
    have hX := q.1
    generalize a (5012 + 8 * v) = X at *
    have jt := p3 X hX.1 hX.2
    refine ⟨by omega, fun h => absurd h (by omega), fun j oj _ tx => ?_⟩
    have jb := oT_b oj
    have tx0 : ∀ f, TX (uc σ 54 f) j a X := fun f => TX_f tx (fun c h1 h2 => by rw [uc_n (by omega), uc_n (by omega)])
    have pq1 : r_pq a X kind 1 0 = (0, 1) := rfl
    refine ⟨a, X, τ, rt0 _, tx, lK p2, p3, p4, hX, p5, Or.inr rfl, ⟨?_, ?_, ?_, fun c_ x1_ x2_ => by rw [uc_n x2_, uc_n x1_]⟩, fun W τ1 hW h1 => ?_⟩
    · rw [pq1, i56_, u1_s]
    · rw [pq1, i57_, u1_s]
    · rw [pq1]; exact Or.inr (show ((0 : Int) < 1 ∧ (1 : Int) ≤ 1000000000) ∧ (-1000000000 : Int) ≤ 0 ∧ (0 : Int) ≤ 1000000000 by decide)
    have pq2 : r_pq a X kind 0 0 = r_pq a X kind 1 (a (5500 + 840 * X)) := rfl
    refine ⟨a, X, τ, rt0 _, tx0 _, lK p2, p3, p4, hX, Or.inl rfl, (by rw [pq2]; exact h1), fun W2 τ2 hW2 h2 => ?_⟩
    have fe : r_pq a X kind 0 (a (5500 + 840 * X)) = r_fr a X kind := rfl
    rw [fe] at h2
    rw [h2.2.1, h2.1]
    have o := h2.2.2.1
    refine ifI (fun e2 => ?_) (fun e2 => ?_)
    · unfold r_payT at t
      simp only [if_pos e2] at t
      refine t _ τ2 (fr0 _ _ (fun k hk => by simp (disch := omega) only [u1_n]) h2.2.2.2) ⟨by rw [uc_s]; simp (disch := omega) only [u1_n, u1_s], fun k k0 k1 => ?_⟩
      rw [uc_s, u1_s, zbt_0]
    · unfold r_payT at t
      simp only [if_neg e2] at t
      have mb := r_mx_b (a := a) (text := X) (sort := 6) (n := a (5500 + 840 * X)) (M := 9999) (by omega) (by omega) (fun c c0 c1 c2 => by
        have := (jt.2 c c0 (by omega)).2.2.1 c2
        omega)
      have bo := Int.natAbs_tdiv_le_natAbs (r_fr a X kind).1 (r_fr a X kind).2
      refine ⟨e2, a, X, tx0 _, p3, hX, by omega, by omega, by omega, ?_⟩
      refine t _ τ2 (fr0 _ _ (fun k hk => by simp (disch := omega) only [u1_n]) h2.2.2.2) ⟨by rw [uc_s]; simp (disch := omega) only [u1_n, u1_s], fun k k0 k1 => ?_⟩
      rw [uc_s, u1_s, hW2 k k0 k1, uc_s, u1_s, hW k k0 k1, uc_s, u1_n (by decide), u1_s, zbt_0, Bool.false_or, ← r_in_is]
      cases decide (k < a (5500 + 840 * X)) <;> simp
-- method 17: MillTown$Law.forceOfPay()I
theorem c_17_0 : pg_cd 17 0 = (5, 1, 0, 0, 0) := by decide +kernel
theorem c_17_1 : pg_cd 17 1 = (43, 1, 24, 4, 0) := by decide +kernel
theorem c_17_4 : pg_cd 17 4 = (90, 0, 0, 0, 0) := by decide +kernel
theorem mi_17 : pg_mc 17 = 1 ∧ pg_na 17 = 0 ∧ pg_mx 17 = 1 := by decide +kernel
set_option maxRecDepth 20000 in
theorem u_17_0 {d : Nat} {S : zS} {σ τ : zI} {Q : zQ} (t : Q (some (.int (wI (σ 54 4)))) S σ τ) : wi (d + 0) 17 0 [.ref 54] [] S σ τ Q := by
  refine i5 c_17_0 rfl (wi_ok (fun K1 => ?_))
  refine i43 (v := σ 54 4) c_17_1 (lo (c := 54) (kd := 101) (n := 0) rfl (by decide)) rfl ?_
  exact i90 c_17_4 t
theorem q_17 {d : Nat} {S : zS} {σ τ : zI} {Q : zQ} (t : Q (some (.int (wI (σ 54 (4))))) S σ τ) : wc (d + 0) 17 [.ref 54] S σ τ Q := by
  exact wc_of mi_17 rfl (u_17_0 t)
theorem r_wy_is {a : Int → Int} {text kind i c n : Int} (hc : 0 ≤ c ∧ c < n) (h : r_is a text kind c = true) (hi : r_cn a text kind c = i) : r_wy a text kind i n = c := by
  have key : ∀ m : Nat, c < m → c + 1 ≤ m → r_wy a text kind i m = c ∧ i < r_cn a text kind m := by
    intro m
    induction m with
    | zero => intro h; omega
    | succ m ih =>
      intro h1 h2
      rw [show ((m + 1 : Nat) : Int) = (m : Int) + 1 by omega, r_wy_s (by omega), r_cn_s (by omega)]
      by_cases e : c = m
      · subst e
        rw [if_pos ⟨h, hi⟩, if_pos h]
        exact ⟨rfl, by omega⟩
      · have q := ih (by omega) (by omega)
        rw [if_neg (by omega)]
        refine ⟨q.1, ?_⟩
        split <;> omega
  have := key n.toNat (by omega) (by omega)
  rw [Int.toNat_of_nonneg (by omega)] at this
  exact this.1
-- method 18: MillTown$Law.countedClause(I)I
theorem c_18_0 : pg_cd 18 0 = (1, 1, 0, 0, 0) := by decide +kernel
theorem c_18_1 : pg_cd 18 1 = (6, 1, 0, 2, 0) := by decide +kernel
theorem c_18_2 : pg_cd 18 2 = (1, 1, 0, 0, 0) := by decide +kernel
theorem c_18_3 : pg_cd 18 3 = (6, 1, 0, 3, 0) := by decide +kernel
theorem c_18_4 : pg_cd 18 4 = (3, 1, 0, 3, 0) := by decide +kernel
theorem c_18_5 : pg_cd 18 5 = (1, 2, 0, 0, 24) := by decide +kernel
theorem c_18_7 : pg_cd 18 7 = (37, 3, 0, 3, 30) := by decide +kernel
theorem c_18_10 : pg_cd 18 10 = (5, 1, 0, 0, 0) := by decide +kernel
theorem c_18_11 : pg_cd 18 11 = (43, 1, 80, 3, 0) := by decide +kernel
theorem c_18_14 : pg_cd 18 14 = (3, 1, 0, 3, 0) := by decide +kernel
theorem c_18_15 : pg_cd 18 15 = (20, 1, 0, 0, 0) := by decide +kernel
theorem c_18_16 : pg_cd 18 16 = (1, 1, 0, 0, 1) := by decide +kernel
theorem c_18_17 : pg_cd 18 17 = (13, 1, 0, 0, 0) := by decide +kernel
theorem c_18_18 : pg_cd 18 18 = (36, 3, 0, 0, 13) := by decide +kernel
theorem c_18_21 : pg_cd 18 21 = (3, 1, 0, 2, 0) := by decide +kernel
theorem c_18_22 : pg_cd 18 22 = (3, 1, 0, 1, 0) := by decide +kernel
theorem c_18_23 : pg_cd 18 23 = (37, 3, 0, 1, 5) := by decide +kernel
theorem c_18_26 : pg_cd 18 26 = (3, 1, 0, 3, 0) := by decide +kernel
theorem c_18_27 : pg_cd 18 27 = (90, 0, 0, 0, 0) := by decide +kernel
theorem c_18_28 : pg_cd 18 28 = (9, 3, 0, 2, 1) := by decide +kernel
theorem c_18_31 : pg_cd 18 31 = (9, 3, 0, 3, 1) := by decide +kernel
theorem c_18_34 : pg_cd 18 34 = (38, 3, 0, 0, (-30)) := by decide +kernel
theorem c_18_37 : pg_cd 18 37 = (1, 1, 0, 0, (-1)) := by decide +kernel
theorem c_18_38 : pg_cd 18 38 = (90, 0, 0, 0, 0) := by decide +kernel
theorem mi_18 : pg_mc 18 = 1 ∧ pg_na 18 = 1 ∧ pg_mx 18 = 4 := by decide +kernel
set_option maxRecDepth 20000 in
theorem u_18_0 {d : Nat} {S : zS} {σ τ : zI} {Q : zQ} {x1 : Int} (t : wi (d + 0) 18 4 [.ref 54, .int (wI x1), .int (wI 0), .int (wI 0)] [] S σ τ Q) : wi (d + 0) 18 0 [.ref 54, .int (wI x1), .retAddr 0, .retAddr 0] [] S σ τ Q := by
  refine i1 c_18_0 (i6 (L' := [.ref 54, .int (wI x1), .int (wI 0), .retAddr 0]) c_18_1 rfl (i1 c_18_2 (i6 (L' := [.ref 54, .int (wI x1), .int (wI 0), .int (wI 0)]) c_18_3 rfl t)))
set_option maxRecDepth 20000 in
theorem u_18_4 {d : Nat} {S : zS} {σ τ : zI} {Q : zQ} {x1 : Int} {x2 : Int} {x3 : Int} (t : (rg x3) ∧ if (24 : Int) ≤ x3 then (Q (some (.int (wI (-1)))) S σ τ) else (if (zand (zush (σ 54 3) x3) 1) = 0 then (wi (d + 0) 18 4 [.ref 54, .int (wI x1), .int (wI x2), .int (wI (x3 + 1))] [] S σ τ Q) else ((rg x2) ∧ (rg x1) ∧ if x2 = x1 then (Q (some (.int (wI x3))) S σ τ) else (wi (d + 0) 18 4 [.ref 54, .int (wI x1), .int (wI (x2 + 1)), .int (wI (x3 + 1))] [] S σ τ Q)))) : wi (d + 0) 18 4 [.ref 54, .int (wI x1), .int (wI x2), .int (wI x3)] [] S σ τ Q := by
  obtain ⟨r1, t⟩ := t
  refine i3 c_18_4 rfl (i1 c_18_5 ?_)
  refine i37 c_18_7 r1 (by decide) rfl (fun hc => ?_) (fun hc => ?_)
  · have t := iT t hc
    have ha2 : (24 : Int) ≤ x3 := hc
    refine i1 c_18_37 ?_
    exact i90 c_18_38 t
  · have t := iF t hc
    have ha2 : ¬ ((24 : Int) ≤ x3) := hc
    refine i5 c_18_10 rfl (wi_ok (fun K3 => ?_))
    refine i43 (v := σ 54 3) c_18_11 (lo (c := 54) (kd := 101) (n := 0) rfl (by decide)) rfl (i3 c_18_14 rfl (i20 c_18_15 (i1 c_18_16 (i13 c_18_17 ?_))))
    refine i36 c_18_18 (rg_toInt _) rfl (fun hc => ?_) (fun hc => ?_)
    · have t := iT t hc
      have ha4 : (zand (zush (σ 54 3) x3) 1) = 0 := hc
      refine i9 (L' := [.ref 54, .int (wI x1), .int (wI x2), .int (wI (x3 + 1))]) c_18_31 rfl rfl (i38 c_18_34 rfl t)
    · have t := iF t hc
      have ha4 : ¬ ((zand (zush (σ 54 3) x3) 1) = 0) := hc
      obtain ⟨r5, t⟩ := t
      obtain ⟨r6, t⟩ := t
      refine i3 c_18_21 rfl (i3 c_18_22 rfl ?_)
      refine i37 c_18_23 r5 r6 rfl (fun hc => ?_) (fun hc => ?_)
      · have t := iF t hc
        have ha7 : ¬ (x2 = x1) := hc
        refine i9 (L' := [.ref 54, .int (wI x1), .int (wI (x2 + 1)), .int (wI x3)]) c_18_28 rfl rfl (i9 (L' := [.ref 54, .int (wI x1), .int (wI (x2 + 1)), .int (wI (x3 + 1))]) c_18_31 rfl rfl (i38 c_18_34 rfl t))
      · have t := iT t (Decidable.not_not.mp hc)
        have ha7 : x2 = x1 := Decidable.not_not.mp hc
        refine i3 c_18_26 rfl ?_
        exact i90 c_18_27 t
theorem q_18 {d : Nat} {S : zS} {σ τ : zI} {Q : zQ} {i : Int} {a : Int → Int} {kind : Int} {mill : Int} {week : Int} {known : Int} (p0 : rg i) (p1 : Wc σ a kind mill week known) (p2 : Jl a) (p3 : jv_T a) (t : Q (some (.int (wI (r_why a kind mill week known i)))) S σ τ) : wc (d + 0) 18 [.ref 54, .int (wI i)] S σ τ Q := by
  have hC := lC p2
  unfold jv_C at hC
  have fb := r_fc_b (a := a) (sort := 1) (mill := mill) (week := week) (known := known) (by omega)
  have hw := p1.2
  unfold r_why at t
  refine wc_of mi_18 rfl (u_18_0 ?_)
  generalize hv : r_fc a 1 mill week known = v at *
  have none : (∀ k, 0 ≤ k → k < 24 → zbt (σ 54 3) k = false) → Q (some (.int (wI (-1)))) S σ τ → wi (d + 0) 18 4 [.ref 54, .int (wI i), .int (wI 0), .int (wI 0)] [] S σ τ Q := fun h t => by
    have key : ∀ c, 0 ≤ c → c ≤ 24 → wi (d + 0) 18 4 [.ref 54, .int (wI i), .int (wI 0), .int (wI c)] [] S σ τ Q := by
      refine lp_up (fun c c0 c1 ih => ?_)
      refine u_18_4 ⟨by omega, ?_⟩
      refine ifI (fun e => t) (fun e => ?_)
      rw [zus1 (by omega), h c c0 (by omega), if_pos (by decide)]
      exact ih (by omega)
    exact key 0 (by omega) (by omega)
  by_cases e : v < 0
  · simp only [if_pos e] at t hw
    exact none hw t
  · simp only [if_neg e] at t hw
    have q := lF p2 v (by omega) fb.2.1
    have hX := q.1
    generalize a (5012 + 8 * v) = X at *
    have jt := p3 X hX.1 hX.2
    by_cases e2 : (r_fr a X kind).2 = 0
    · simp only [if_pos e2] at t hw
      exact none hw t
    · simp only [if_neg e2] at t hw
      generalize hN : a (5500 + 840 * X) = N at *
      have key : ∀ c, 0 ≤ c → c ≤ 24 → (∀ c', 0 ≤ c' → c' < c → c' < N → r_is a X kind c' = true → r_cn a X kind c' ≠ i) → ∀ z, z = r_cn a X kind (if c < N then c else N) → wi (d + 0) 18 4 [.ref 54, .int (wI i), .int (wI z), .int (wI c)] [] S σ τ Q := by
        refine lp_up (fun c c0 c1 ih => ?_)
        intro hno z hz
        have zb := r_cn_b (a := a) (text := X) (kind := kind) (n := if c < N then c else N) (by split <;> omega)
        have zb2 : 0 ≤ z ∧ z ≤ 24 := by
          by_cases cN : c < N
          · simp only [if_pos cN] at zb hz; omega
          · simp only [if_neg cN] at zb hz; omega
        refine u_18_4 ⟨by omega, ?_⟩
        refine ifI (fun e3 => ?_) (fun e3 => ?_)
        · have : r_wy a X kind i N = -1 := by
            have k2 : ∀ m : Nat, (m : Int) ≤ N → r_wy a X kind i m = -1 := by
              intro m
              induction m with
              | zero => intro _; rfl
              | succ m ihm =>
                intro hm
                rw [show ((m + 1 : Nat) : Int) = (m : Int) + 1 by omega, r_wy_s (by omega), if_neg (fun h => hno m (by omega) (by omega) (by omega) h.1 h.2)]
                exact ihm (by omega)
            have := k2 N.toNat (by omega)
            rw [Int.toNat_of_nonneg (by omega)] at this
            exact this
          rw [this] at t
          exact t
        · have hb := hw c c0 (by omega)
          rw [zus1 (by omega), hb]
          by_cases cN : c < N
          · rw [if_pos cN] at hz
            rw [decide_eq_true cN, Bool.true_and]
            have hs := r_cn_s (a := a) (text := X) (kind := kind) (n := c) c0
            by_cases e4 : r_is a X kind c = true
            · rw [if_pos e4, if_neg (by decide)]
              rw [if_pos e4] at hs
              refine ⟨by omega, p0, ?_⟩
              refine ifI (fun e5 => ?_) (fun e5 => ?_)
              · rw [r_wy_is ⟨c0, cN⟩ e4 (by omega)] at t
                exact t
              · refine ih (by omega) (fun c' a1 a2 a3 a4 => ?_) _ ?_
                · by_cases e6 : c' = c
                  · subst e6; omega
                  · exact hno c' a1 (by omega) a3 a4
                · rw [hz, ← hs]
                  split
                  · rfl
                  · rw [show c + 1 = N by omega]
            · rw [if_neg e4, if_pos rfl]
              rw [if_neg e4] at hs
              refine ih (by omega) (fun c' a1 a2 a3 a4 => ?_) _ ?_
              · by_cases e6 : c' = c
                · subst e6; exact absurd a4 e4
                · exact hno c' a1 (by omega) a3 a4
              · rw [hz, ← hs]
                split
                · rfl
                · rw [show c + 1 = N by omega]
          · rw [decide_eq_false cN, Bool.false_and, if_pos (show (if false = true then (1 : Int) else 0) = 0 from rfl)]
            rw [if_neg cN] at hz
            refine ih (by omega) (fun c' a1 a2 a3 a4 => hno c' a1 (by omega) a3 a4) _ ?_
            rw [if_neg (by omega)]
            exact hz
      refine key 0 (by omega) (by omega) (fun c' a1 a2 => by omega) 0 ?_
      split
      · rfl
      · rw [show N = 0 by omega]; rfl
-- method 163: MillTown.pay(IIII)I
theorem c_163_0 : pg_cd 163 0 = (3, 1, 0, 1, 0) := by decide +kernel
theorem c_163_1 : pg_cd 163 1 = (1, 1, 0, 0, 0) := by decide +kernel
theorem c_163_2 : pg_cd 163 2 = (1, 1, 0, 0, 5) := by decide +kernel
theorem c_163_3 : pg_cd 163 3 = (81, 141, 85, 0, 0) := by decide +kernel
theorem c_163_6 : pg_cd 163 6 = (36, 3, 0, 0, 14) := by decide +kernel
theorem c_163_9 : pg_cd 163 9 = (5, 1, 0, 0, 0) := by decide +kernel
theorem c_163_10 : pg_cd 163 10 = (3, 1, 0, 2, 0) := by decide +kernel
theorem c_163_11 : pg_cd 163 11 = (3, 1, 0, 3, 0) := by decide +kernel
theorem c_163_12 : pg_cd 163 12 = (3, 2, 0, 4, 0) := by decide +kernel
theorem c_163_14 : pg_cd 163 14 = (80, 162, 205, 0, 0) := by decide +kernel
theorem c_163_17 : pg_cd 163 17 = (36, 3, 0, 1, 5) := by decide +kernel
theorem c_163_20 : pg_cd 163 20 = (1, 1, 0, 0, (-1)) := by decide +kernel
theorem c_163_21 : pg_cd 163 21 = (90, 0, 0, 0, 0) := by decide +kernel
theorem c_163_22 : pg_cd 163 22 = (5, 1, 0, 0, 0) := by decide +kernel
theorem c_163_23 : pg_cd 163 23 = (45, 11, 33, 4, 0) := by decide +kernel
theorem c_163_26 : pg_cd 163 26 = (5, 1, 0, 0, 0) := by decide +kernel
theorem c_163_27 : pg_cd 163 27 = (45, 11, 12, 0, 0) := by decide +kernel
theorem c_163_30 : pg_cd 163 30 = (3, 1, 0, 1, 0) := by decide +kernel
theorem c_163_31 : pg_cd 163 31 = (3, 1, 0, 2, 0) := by decide +kernel
theorem c_163_32 : pg_cd 163 32 = (3, 1, 0, 3, 0) := by decide +kernel
theorem c_163_33 : pg_cd 163 33 = (3, 2, 0, 4, 0) := by decide +kernel
theorem c_163_35 : pg_cd 163 35 = (80, 19, 208, 0, 0) := by decide +kernel
theorem c_163_38 : pg_cd 163 38 = (90, 0, 0, 0, 0) := by decide +kernel
theorem mi_163 : pg_mc 163 = 11 ∧ pg_na 163 = 4 ∧ pg_mx 163 = 5 := by decide +kernel
set_option maxRecDepth 20000 in
theorem u_163_0 {d : Nat} {S : zS} {σ τ : zI} {Q : zQ} {x1 : Int} {x2 : Int} {x3 : Int} {x4 : Int} (t : (rg x1) ∧ if 0 ≤ x1 ∧ x1 ≤ 5 then ((rg x2) ∧ (rg x3) ∧ (rg x4) ∧ if (0 ≤ x2 ∧ x2 < σ 7 2) ∧ (0 ≤ x3 ∧ x3 ≤ 399) ∧ (0 ≤ x4 ∧ x4 ≤ 399) then (∃ a7 : Int → Int, (RT σ 2 a7) ∧ (RX S σ a7) ∧ (Jl a7) ∧ (jv_T a7) ∧ (jv_E a7) ∧ (0 ≤ x1 ∧ x1 ≤ 5) ∧ ∀ (σ114 : zI) (τ115 : zI), F54 σ σ114 τ τ115 → Wc σ114 a7 x1 x2 x3 x4 → Q (some (.int (wI (r_pay a7 x1 x2 x3 x4)))) S σ114 τ115) else (Q (some (.int (wI (-1)))) S σ τ)) else (Q (some (.int (wI (-1)))) S σ τ)) : wi (d + 13) 163 0 [.ref 1, .int (wI x1), .int (wI x2), .int (wI x3), .int (wI x4)] [] S σ τ Q := by
  obtain ⟨r1, t⟩ := t
  refine i3 c_163_0 rfl (i1 c_163_1 (i1 c_163_2 ?_))
  refine i81 (As := [.int (wI x1), .int (wI 0), .int (wI 5)]) (rest := []) c_163_3 mi_141 rfl rfl (Nat.le_of_ble_eq_true rfl) (Nat.le_of_ble_eq_true rfl) (q_141 r1 (by decide) (by decide) ?_)
  show wi (d + 13) 163 6 [.ref 1, .int (wI x1), .int (wI x2), .int (wI x3), .int (wI x4)] [.int (wI (if 0 ≤ x1 ∧ x1 ≤ 5 then 1 else 0))] S σ τ Q
  refine i36e c_163_6 rfl (fun hc => ?_) (fun hc => ?_)
  · have t := iT t hc
    have ha2 : 0 ≤ x1 ∧ x1 ≤ 5 := hc
    obtain ⟨r3, t⟩ := t
    obtain ⟨r4, t⟩ := t
    obtain ⟨r5, t⟩ := t
    refine i5 c_163_9 rfl (i3 c_163_10 rfl (i3 c_163_11 rfl (i3 c_163_12 rfl ?_)))
    refine i80 (As := [.int (wI x2), .int (wI x3), .int (wI x4)]) (rest := []) c_163_14 mi_162 rfl rfl (Nat.le_of_ble_eq_true rfl) (Nat.le_of_ble_eq_true rfl) (lo (c := 1) (kd := 111) (n := 0) rfl (by decide)) (q_162 r3 r4 r5 ?_)
    show wi (d + 13) 163 17 [.ref 1, .int (wI x1), .int (wI x2), .int (wI x3), .int (wI x4)] [.int (wI (if (0 ≤ x2 ∧ x2 < σ 7 2) ∧ (0 ≤ x3 ∧ x3 ≤ 399) ∧ (0 ≤ x4 ∧ x4 ≤ 399) then 1 else 0))] S σ τ Q
    refine i36f c_163_17 rfl (fun hc => ?_) (fun hc => ?_)
    · have t := iT t hc
      have ha6 : (0 ≤ x2 ∧ x2 < σ 7 2) ∧ (0 ≤ x3 ∧ x3 ≤ 399) ∧ (0 ≤ x4 ∧ x4 ≤ 399) := hc
      obtain ⟨a7, t⟩ := t
      obtain ⟨p8, t⟩ := t
      obtain ⟨p9, t⟩ := t
      obtain ⟨p10, t⟩ := t
      obtain ⟨p11, t⟩ := t
      obtain ⟨p12, t⟩ := t
      obtain ⟨p13, t⟩ := t
      refine i5 c_163_22 rfl (i45 c_163_23 (lo (c := 1) (kd := 111) (n := 0) rfl (by decide)) (lro (c := 1) (k := 4) (j := 54) (by decide)) (i5 c_163_26 rfl (i45 c_163_27 (lo (c := 1) (kd := 111) (n := 0) rfl (by decide)) (lro (c := 1) (k := 0) (j := 2) (by decide)) (i3 c_163_30 rfl (i3 c_163_31 rfl (i3 c_163_32 rfl (i3 c_163_33 rfl ?_)))))))
      refine i80 (As := [.ref 2, .int (wI x1), .int (wI x2), .int (wI x3), .int (wI x4)]) (rest := []) c_163_35 mi_19 rfl rfl (Nat.le_of_ble_eq_true rfl) (Nat.le_of_ble_eq_true rfl) (lo (c := 54) (kd := 101) (n := 0) rfl (by decide)) (q_19 (a := a7) tw_2 p8 p9 p10 p11 p12 p13 r3 r4 r5 (fun σ114 τ115 q16 q17 => ?_))
      have t := t σ114 τ115 q16 q17
      show wi (d + 13) 163 38 [.ref 1, .int (wI x1), .int (wI x2), .int (wI x3), .int (wI x4)] [.int (wI (r_pay a7 x1 x2 x3 x4))] S σ114 τ115 Q
      exact i90 c_163_38 t
    · have t := iF t hc
      have ha6 : ¬ ((0 ≤ x2 ∧ x2 < σ 7 2) ∧ (0 ≤ x3 ∧ x3 ≤ 399) ∧ (0 ≤ x4 ∧ x4 ≤ 399)) := hc
      refine i1 c_163_20 ?_
      exact i90 c_163_21 t
  · have t := iF t hc
    have ha2 : ¬ (0 ≤ x1 ∧ x1 ≤ 5) := hc
    refine i1 c_163_20 ?_
    exact i90 c_163_21 t
theorem q_163 {d : Nat} {S : zS} {σ τ : zI} {Q : zQ} {kind : Int} {mill : Int} {week : Int} {known : Int} {a : Int → Int} (p0 : RT σ 2 a) (p1 : RX S σ a) (p2 : Jl a) (p3 : jv_T a) (p4 : jv_E a) (p5 : rg kind) (p6 : rg mill) (p7 : rg week) (p8 : rg known) (t : ∀ (σ1 : zI) (τ1 : zI), F54 σ σ1 τ τ1 → Q (some (.int (wI (if (0 ≤ kind ∧ kind ≤ 5) ∧ (0 ≤ mill ∧ mill < a 1) ∧ (0 ≤ week ∧ week ≤ 399) ∧ (0 ≤ known ∧ known ≤ 399) then r_pay a kind mill week known else -1)))) S σ1 τ1) : wc (d + 13) 163 [.ref 1, .int (wI kind), .int (wI mill), .int (wI week), .int (wI known)] S σ τ Q := by
  have c1 := cM p0
  have no : ¬ ((0 ≤ kind ∧ kind ≤ 5) ∧ (0 ≤ mill ∧ mill < a 1) ∧ (0 ≤ week ∧ week ≤ 399) ∧ (0 ≤ known ∧ known ≤ 399)) → Q (some (.int (wI (-1)))) S σ τ := fun h => by
    have t := t σ τ ⟨fun _ _ => rfl, fun _ _ => rfl, fun _ _ _ => rfl⟩
    rw [if_neg h] at t
    exact t
  have yes : ((0 ≤ kind ∧ kind ≤ 5) ∧ (0 ≤ mill ∧ mill < a 1) ∧ (0 ≤ week ∧ week ≤ 399) ∧ (0 ≤ known ∧ known ≤ 399)) → ∀ σ1 τ1, F54 σ σ1 τ τ1 → Q (some (.int (wI (r_pay a kind mill week known)))) S σ1 τ1 := fun h σ1 τ1 f => by
    have t := t σ1 τ1 f
    rw [if_pos h] at t
    exact t
  clear t
  refine wc_of mi_163 rfl (u_163_0 ?_)
  rw [c1]
  repeat' (first | exact no (by omega) | (refine ⟨a, p0, p1, p2, p3, p4, by omega, ?_⟩; intro σ1 τ1 f _; exact yes (by omega) _ _ f) | refine ⟨p5, ?_⟩ | refine ⟨p6, p7, p8, ?_⟩ | refine ifI (fun _ => ?_) (fun _ => ?_))
-- method 164: MillTown.why(IIIII)I
theorem c_164_0 : pg_cd 164 0 = (3, 1, 0, 1, 0) := by decide +kernel
theorem c_164_1 : pg_cd 164 1 = (1, 1, 0, 0, 0) := by decide +kernel
theorem c_164_2 : pg_cd 164 2 = (1, 1, 0, 0, 5) := by decide +kernel
theorem c_164_3 : pg_cd 164 3 = (81, 141, 85, 0, 0) := by decide +kernel
theorem c_164_6 : pg_cd 164 6 = (36, 3, 0, 0, 14) := by decide +kernel
theorem c_164_9 : pg_cd 164 9 = (5, 1, 0, 0, 0) := by decide +kernel
theorem c_164_10 : pg_cd 164 10 = (3, 1, 0, 2, 0) := by decide +kernel
theorem c_164_11 : pg_cd 164 11 = (3, 1, 0, 3, 0) := by decide +kernel
theorem c_164_12 : pg_cd 164 12 = (3, 2, 0, 4, 0) := by decide +kernel
theorem c_164_14 : pg_cd 164 14 = (80, 162, 205, 0, 0) := by decide +kernel
theorem c_164_17 : pg_cd 164 17 = (36, 3, 0, 1, 5) := by decide +kernel
theorem c_164_20 : pg_cd 164 20 = (1, 1, 0, 0, (-1)) := by decide +kernel
theorem c_164_21 : pg_cd 164 21 = (90, 0, 0, 0, 0) := by decide +kernel
theorem c_164_22 : pg_cd 164 22 = (5, 1, 0, 0, 0) := by decide +kernel
theorem c_164_23 : pg_cd 164 23 = (45, 11, 33, 4, 0) := by decide +kernel
theorem c_164_26 : pg_cd 164 26 = (5, 1, 0, 0, 0) := by decide +kernel
theorem c_164_27 : pg_cd 164 27 = (45, 11, 12, 0, 0) := by decide +kernel
theorem c_164_30 : pg_cd 164 30 = (3, 1, 0, 1, 0) := by decide +kernel
theorem c_164_31 : pg_cd 164 31 = (3, 1, 0, 2, 0) := by decide +kernel
theorem c_164_32 : pg_cd 164 32 = (3, 1, 0, 3, 0) := by decide +kernel
theorem c_164_33 : pg_cd 164 33 = (3, 2, 0, 4, 0) := by decide +kernel
theorem c_164_35 : pg_cd 164 35 = (80, 19, 208, 0, 0) := by decide +kernel
theorem c_164_38 : pg_cd 164 38 = (35, 1, 0, 0, 0) := by decide +kernel
theorem c_164_39 : pg_cd 164 39 = (3, 2, 0, 5, 0) := by decide +kernel
theorem c_164_41 : pg_cd 164 41 = (1, 1, 0, 0, (-1)) := by decide +kernel
theorem c_164_42 : pg_cd 164 42 = (37, 3, 0, 1, 13) := by decide +kernel
theorem c_164_45 : pg_cd 164 45 = (5, 1, 0, 0, 0) := by decide +kernel
theorem c_164_46 : pg_cd 164 46 = (45, 11, 33, 4, 0) := by decide +kernel
theorem c_164_49 : pg_cd 164 49 = (80, 17, 212, 0, 0) := by decide +kernel
theorem c_164_52 : pg_cd 164 52 = (38, 3, 0, 0, 12) := by decide +kernel
theorem c_164_55 : pg_cd 164 55 = (5, 1, 0, 0, 0) := by decide +kernel
theorem c_164_56 : pg_cd 164 56 = (45, 11, 33, 4, 0) := by decide +kernel
theorem c_164_59 : pg_cd 164 59 = (3, 2, 0, 5, 0) := by decide +kernel
theorem c_164_61 : pg_cd 164 61 = (80, 18, 215, 0, 0) := by decide +kernel
theorem c_164_64 : pg_cd 164 64 = (90, 0, 0, 0, 0) := by decide +kernel
theorem mi_164 : pg_mc 164 = 11 ∧ pg_na 164 = 5 ∧ pg_mx 164 = 6 := by decide +kernel
set_option maxRecDepth 20000 in
theorem u_164_0 {d : Nat} {S : zS} {σ τ : zI} {Q : zQ} {x1 : Int} {x2 : Int} {x3 : Int} {x4 : Int} {x5 : Int} (t : (rg x1) ∧ if 0 ≤ x1 ∧ x1 ≤ 5 then ((rg x2) ∧ (rg x3) ∧ (rg x4) ∧ if (0 ≤ x2 ∧ x2 < σ 7 2) ∧ (0 ≤ x3 ∧ x3 ≤ 399) ∧ (0 ≤ x4 ∧ x4 ≤ 399) then (∃ a7 : Int → Int, (RT σ 2 a7) ∧ (RX S σ a7) ∧ (Jl a7) ∧ (jv_T a7) ∧ (jv_E a7) ∧ (0 ≤ x1 ∧ x1 ≤ 5) ∧ ∀ (σ114 : zI) (τ115 : zI), F54 σ σ114 τ τ115 → Wc σ114 a7 x1 x2 x3 x4 → (rg x5) ∧ if x5 = (-1) then (Q (some (.int (wI (σ114 54 4)))) S σ114 τ115) else (∃ a20 : Int → Int, ∃ kind21 : Int, ∃ mill22 : Int, ∃ week23 : Int, ∃ known24 : Int, (Wc σ114 a20 kind21 mill22 week23 known24) ∧ (Jl a20) ∧ (jv_T a20) ∧ Q (some (.int (wI (r_why a20 kind21 mill22 week23 known24 x5)))) S σ114 τ115)) else (Q (some (.int (wI (-1)))) S σ τ)) else (Q (some (.int (wI (-1)))) S σ τ)) : wi (d + 13) 164 0 [.ref 1, .int (wI x1), .int (wI x2), .int (wI x3), .int (wI x4), .int (wI x5)] [] S σ τ Q := by
  obtain ⟨r1, t⟩ := t
  refine i3 c_164_0 rfl (i1 c_164_1 (i1 c_164_2 ?_))
  refine i81 (As := [.int (wI x1), .int (wI 0), .int (wI 5)]) (rest := []) c_164_3 mi_141 rfl rfl (Nat.le_of_ble_eq_true rfl) (Nat.le_of_ble_eq_true rfl) (q_141 r1 (by decide) (by decide) ?_)
  show wi (d + 13) 164 6 [.ref 1, .int (wI x1), .int (wI x2), .int (wI x3), .int (wI x4), .int (wI x5)] [.int (wI (if 0 ≤ x1 ∧ x1 ≤ 5 then 1 else 0))] S σ τ Q
  refine i36e c_164_6 rfl (fun hc => ?_) (fun hc => ?_)
  · have t := iT t hc
    have ha2 : 0 ≤ x1 ∧ x1 ≤ 5 := hc
    obtain ⟨r3, t⟩ := t
    obtain ⟨r4, t⟩ := t
    obtain ⟨r5, t⟩ := t
    refine i5 c_164_9 rfl (i3 c_164_10 rfl (i3 c_164_11 rfl (i3 c_164_12 rfl ?_)))
    refine i80 (As := [.int (wI x2), .int (wI x3), .int (wI x4)]) (rest := []) c_164_14 mi_162 rfl rfl (Nat.le_of_ble_eq_true rfl) (Nat.le_of_ble_eq_true rfl) (lo (c := 1) (kd := 111) (n := 0) rfl (by decide)) (q_162 r3 r4 r5 ?_)
    show wi (d + 13) 164 17 [.ref 1, .int (wI x1), .int (wI x2), .int (wI x3), .int (wI x4), .int (wI x5)] [.int (wI (if (0 ≤ x2 ∧ x2 < σ 7 2) ∧ (0 ≤ x3 ∧ x3 ≤ 399) ∧ (0 ≤ x4 ∧ x4 ≤ 399) then 1 else 0))] S σ τ Q
    refine i36f c_164_17 rfl (fun hc => ?_) (fun hc => ?_)
    · have t := iT t hc
      have ha6 : (0 ≤ x2 ∧ x2 < σ 7 2) ∧ (0 ≤ x3 ∧ x3 ≤ 399) ∧ (0 ≤ x4 ∧ x4 ≤ 399) := hc
      obtain ⟨a7, t⟩ := t
      obtain ⟨p8, t⟩ := t
      obtain ⟨p9, t⟩ := t
      obtain ⟨p10, t⟩ := t
      obtain ⟨p11, t⟩ := t
      obtain ⟨p12, t⟩ := t
      obtain ⟨p13, t⟩ := t
      refine i5 c_164_22 rfl (i45 c_164_23 (lo (c := 1) (kd := 111) (n := 0) rfl (by decide)) (lro (c := 1) (k := 4) (j := 54) (by decide)) (i5 c_164_26 rfl (i45 c_164_27 (lo (c := 1) (kd := 111) (n := 0) rfl (by decide)) (lro (c := 1) (k := 0) (j := 2) (by decide)) (i3 c_164_30 rfl (i3 c_164_31 rfl (i3 c_164_32 rfl (i3 c_164_33 rfl ?_)))))))
      refine i80 (As := [.ref 2, .int (wI x1), .int (wI x2), .int (wI x3), .int (wI x4)]) (rest := []) c_164_35 mi_19 rfl rfl (Nat.le_of_ble_eq_true rfl) (Nat.le_of_ble_eq_true rfl) (lo (c := 54) (kd := 101) (n := 0) rfl (by decide)) (q_19 (a := a7) tw_2 p8 p9 p10 p11 p12 p13 r3 r4 r5 (fun σ114 τ115 q16 q17 => ?_))
      have t := t σ114 τ115 q16 q17
      show wi (d + 13) 164 38 [.ref 1, .int (wI x1), .int (wI x2), .int (wI x3), .int (wI x4), .int (wI x5)] [.int (wI (r_pay a7 x1 x2 x3 x4))] S σ114 τ115 Q
      obtain ⟨r18, t⟩ := t
      refine i35i c_164_38 (i3 c_164_39 rfl (i1 c_164_41 ?_))
      refine i37 c_164_42 r18 (by decide) rfl (fun hc => ?_) (fun hc => ?_)
      · have t := iF t hc
        have ha19 : ¬ (x5 = (-1)) := hc
        obtain ⟨a20, t⟩ := t
        obtain ⟨kind21, t⟩ := t
        obtain ⟨mill22, t⟩ := t
        obtain ⟨week23, t⟩ := t
        obtain ⟨known24, t⟩ := t
        obtain ⟨p25, t⟩ := t
        obtain ⟨p26, t⟩ := t
        obtain ⟨p27, t⟩ := t
        refine i5 c_164_55 rfl (i45 c_164_56 (lo (c := 1) (kd := 111) (n := 0) rfl (by decide)) (lro (c := 1) (k := 4) (j := 54) (by decide)) (i3 c_164_59 rfl ?_))
        refine i80 (As := [.int (wI x5)]) (rest := []) c_164_61 mi_18 rfl rfl (Nat.le_of_ble_eq_true rfl) (Nat.le_of_ble_eq_true rfl) (lo (c := 54) (kd := 101) (n := 0) rfl (by decide)) (q_18 (a := a20) (kind := kind21) (mill := mill22) (week := week23) (known := known24) r18 p25 p26 p27 ?_)
        show wi (d + 13) 164 64 [.ref 1, .int (wI x1), .int (wI x2), .int (wI x3), .int (wI x4), .int (wI x5)] [.int (wI (r_why a20 kind21 mill22 week23 known24 x5))] S σ114 τ115 Q
        exact i90 c_164_64 t
      · have t := iT t (Decidable.not_not.mp hc)
        have ha19 : x5 = (-1) := Decidable.not_not.mp hc
        refine i5 c_164_45 rfl (i45 c_164_46 (lo (c := 1) (kd := 111) (n := 0) rfl (by decide)) (lro (c := 1) (k := 4) (j := 54) (by decide)) ?_)
        refine i80 (As := []) (rest := []) c_164_49 mi_17 rfl rfl (Nat.le_of_ble_eq_true rfl) (Nat.le_of_ble_eq_true rfl) (lo (c := 54) (kd := 101) (n := 0) rfl (by decide)) (q_17 ?_)
        show wi (d + 13) 164 52 [.ref 1, .int (wI x1), .int (wI x2), .int (wI x3), .int (wI x4), .int (wI x5)] [.int (wI (σ114 54 4))] S σ114 τ115 Q
        refine wi_ok (fun K28 => ?_)
        refine i38 c_164_52 rfl ?_
        exact i90 c_164_64 t
    · have t := iF t hc
      have ha6 : ¬ ((0 ≤ x2 ∧ x2 < σ 7 2) ∧ (0 ≤ x3 ∧ x3 ≤ 399) ∧ (0 ≤ x4 ∧ x4 ≤ 399)) := hc
      refine i1 c_164_20 ?_
      exact i90 c_164_21 t
  · have t := iF t hc
    have ha2 : ¬ (0 ≤ x1 ∧ x1 ≤ 5) := hc
    refine i1 c_164_20 ?_
    exact i90 c_164_21 t
theorem q_164 {d : Nat} {S : zS} {σ τ : zI} {Q : zQ} {kind : Int} {mill : Int} {week : Int} {known : Int} {i : Int} {a : Int → Int} (p0 : RT σ 2 a) (p1 : RX S σ a) (p2 : Jl a) (p3 : jv_T a) (p4 : jv_E a) (p5 : rg kind) (p6 : rg mill) (p7 : rg week) (p8 : rg known) (p9 : rg i) (t : ∀ (σ1 : zI) (τ1 : zI), F54 σ σ1 τ τ1 → Q (some (.int (wI (if (0 ≤ kind ∧ kind ≤ 5) ∧ (0 ≤ mill ∧ mill < a 1) ∧ (0 ≤ week ∧ week ≤ 399) ∧ (0 ≤ known ∧ known ≤ 399) then (if i = -1 then r_fc a 1 mill week known else r_why a kind mill week known i) else -1)))) S σ1 τ1) : wc (d + 13) 164 [.ref 1, .int (wI kind), .int (wI mill), .int (wI week), .int (wI known), .int (wI i)] S σ τ Q := by
  have c1 := cM p0
  have no : ¬ ((0 ≤ kind ∧ kind ≤ 5) ∧ (0 ≤ mill ∧ mill < a 1) ∧ (0 ≤ week ∧ week ≤ 399) ∧ (0 ≤ known ∧ known ≤ 399)) → Q (some (.int (wI (-1)))) S σ τ := fun h => by
    have t := t σ τ ⟨fun _ _ => rfl, fun _ _ => rfl, fun _ _ _ => rfl⟩
    rw [if_neg h] at t
    exact t
  have yes : ((0 ≤ kind ∧ kind ≤ 5) ∧ (0 ≤ mill ∧ mill < a 1) ∧ (0 ≤ week ∧ week ≤ 399) ∧ (0 ≤ known ∧ known ≤ 399)) → ∀ σ1 τ1, F54 σ σ1 τ τ1 → Q (some (.int (wI (if i = -1 then r_fc a 1 mill week known else r_why a kind mill week known i)))) S σ1 τ1 := fun h σ1 τ1 f => by
    have t := t σ1 τ1 f
    rw [if_pos h] at t
    exact t
  clear t
  refine wc_of mi_164 rfl (u_164_0 ?_)
  rw [c1]
  repeat' (first | exact no (by omega) | refine ⟨a, p0, p1, p2, p3, p4, by omega, ?_⟩ | refine ⟨p5, ?_⟩ | refine ⟨p6, p7, p8, ?_⟩ | refine ifI (fun _ => ?_) (fun _ => ?_))
  intro σ1 τ1 f hw
  have y := yes (by omega) σ1 τ1 f
  refine ⟨p9, ?_⟩
  refine ifI (fun e => ?_) (fun e => ?_)
  · rw [if_pos e] at y
    rw [hw.1]; exact y
  · rw [if_neg e] at y
    exact ⟨a, kind, mill, week, known, hw, p2, p3, y⟩
