/-! ===== a town made: its loops (segments printed by wip/whole, contracts own work) ===== -/
theorem c_86_0 : pg_cd 86 0 = (5, 1, 0, 0, 0) := by decide +kernel
theorem c_86_1 : pg_cd 86 1 = (61, 0, 3, 0, 0) := by decide +kernel
theorem c_86_4 : pg_cd 86 4 = (5, 1, 0, 0, 0) := by decide +kernel
theorem c_86_5 : pg_cd 86 5 = (60, 4, 9, 3, 0) := by decide +kernel
theorem c_86_8 : pg_cd 86 8 = (33, 1, 0, 0, 0) := by decide +kernel
theorem c_86_9 : pg_cd 86 9 = (1, 2, 0, 0, 6) := by decide +kernel
theorem c_86_11 : pg_cd 86 11 = (1, 2, 0, 0, 6) := by decide +kernel
theorem c_86_13 : pg_cd 86 13 = (80, 52, 11, 0, 0) := by decide +kernel
theorem c_86_16 : pg_cd 86 16 = (49, 8, 14, 0, 0) := by decide +kernel
theorem c_86_19 : pg_cd 86 19 = (5, 1, 0, 0, 0) := by decide +kernel
theorem c_86_20 : pg_cd 86 20 = (60, 4, 9, 3, 0) := by decide +kernel
theorem c_86_23 : pg_cd 86 23 = (33, 1, 0, 0, 0) := by decide +kernel
theorem c_86_24 : pg_cd 86 24 = (1, 2, 0, 0, 8) := by decide +kernel
theorem c_86_26 : pg_cd 86 26 = (1, 3, 0, 0, 401) := by decide +kernel
theorem c_86_29 : pg_cd 86 29 = (80, 52, 11, 0, 0) := by decide +kernel
theorem c_86_32 : pg_cd 86 32 = (49, 8, 20, 1, 0) := by decide +kernel
theorem c_86_35 : pg_cd 86 35 = (5, 1, 0, 0, 0) := by decide +kernel
theorem c_86_36 : pg_cd 86 36 = (60, 4, 9, 3, 0) := by decide +kernel
theorem c_86_39 : pg_cd 86 39 = (33, 1, 0, 0, 0) := by decide +kernel
theorem c_86_40 : pg_cd 86 40 = (1, 2, 0, 0, 8) := by decide +kernel
theorem c_86_42 : pg_cd 86 42 = (1, 2, 0, 0, 13) := by decide +kernel
theorem c_86_44 : pg_cd 86 44 = (80, 52, 11, 0, 0) := by decide +kernel
theorem c_86_47 : pg_cd 86 47 = (49, 8, 23, 2, 0) := by decide +kernel
theorem c_86_50 : pg_cd 86 50 = (5, 1, 0, 0, 0) := by decide +kernel
theorem c_86_51 : pg_cd 86 51 = (60, 4, 9, 3, 0) := by decide +kernel
theorem c_86_54 : pg_cd 86 54 = (33, 1, 0, 0, 0) := by decide +kernel
theorem c_86_55 : pg_cd 86 55 = (1, 1, 0, 0, 4) := by decide +kernel
theorem c_86_56 : pg_cd 86 56 = (1, 1, 0, 0, 5) := by decide +kernel
theorem c_86_57 : pg_cd 86 57 = (80, 52, 11, 0, 0) := by decide +kernel
theorem c_86_60 : pg_cd 86 60 = (49, 8, 26, 3, 0) := by decide +kernel
theorem c_86_63 : pg_cd 86 63 = (5, 1, 0, 0, 0) := by decide +kernel
theorem c_86_64 : pg_cd 86 64 = (60, 4, 9, 3, 0) := by decide +kernel
theorem c_86_67 : pg_cd 86 67 = (33, 1, 0, 0, 0) := by decide +kernel
theorem c_86_68 : pg_cd 86 68 = (1, 2, 0, 0, 24) := by decide +kernel
theorem c_86_70 : pg_cd 86 70 = (1, 2, 0, 0, 8) := by decide +kernel
theorem c_86_72 : pg_cd 86 72 = (80, 52, 11, 0, 0) := by decide +kernel
theorem c_86_75 : pg_cd 86 75 = (49, 8, 29, 4, 0) := by decide +kernel
theorem c_86_78 : pg_cd 86 78 = (5, 1, 0, 0, 0) := by decide +kernel
theorem c_86_79 : pg_cd 86 79 = (60, 4, 9, 3, 0) := by decide +kernel
theorem c_86_82 : pg_cd 86 82 = (33, 1, 0, 0, 0) := by decide +kernel
theorem c_86_83 : pg_cd 86 83 = (1, 2, 0, 0, 60) := by decide +kernel
theorem c_86_85 : pg_cd 86 85 = (1, 2, 0, 0, 9) := by decide +kernel
theorem c_86_87 : pg_cd 86 87 = (80, 52, 11, 0, 0) := by decide +kernel
theorem c_86_90 : pg_cd 86 90 = (49, 8, 32, 5, 0) := by decide +kernel
theorem c_86_93 : pg_cd 86 93 = (5, 1, 0, 0, 0) := by decide +kernel
theorem c_86_94 : pg_cd 86 94 = (60, 4, 9, 3, 0) := by decide +kernel
theorem c_86_97 : pg_cd 86 97 = (33, 1, 0, 0, 0) := by decide +kernel
theorem c_86_98 : pg_cd 86 98 = (1, 2, 0, 0, 80) := by decide +kernel
theorem c_86_100 : pg_cd 86 100 = (1, 2, 0, 0, 6) := by decide +kernel
theorem c_86_102 : pg_cd 86 102 = (80, 52, 11, 0, 0) := by decide +kernel
theorem c_86_105 : pg_cd 86 105 = (49, 8, 35, 6, 0) := by decide +kernel
theorem c_86_108 : pg_cd 86 108 = (5, 1, 0, 0, 0) := by decide +kernel
theorem c_86_109 : pg_cd 86 109 = (60, 4, 9, 3, 0) := by decide +kernel
theorem c_86_112 : pg_cd 86 112 = (33, 1, 0, 0, 0) := by decide +kernel
theorem c_86_113 : pg_cd 86 113 = (1, 2, 0, 0, 61) := by decide +kernel
theorem c_86_115 : pg_cd 86 115 = (1, 1, 0, 0, 5) := by decide +kernel
theorem c_86_116 : pg_cd 86 116 = (80, 52, 11, 0, 0) := by decide +kernel
theorem c_86_119 : pg_cd 86 119 = (49, 8, 38, 7, 0) := by decide +kernel
theorem c_86_122 : pg_cd 86 122 = (5, 1, 0, 0, 0) := by decide +kernel
theorem c_86_123 : pg_cd 86 123 = (1, 2, 41, 0, 100000) := by decide +kernel
theorem c_86_125 : pg_cd 86 125 = (46, 8, 42, 12, 0) := by decide +kernel
theorem c_86_128 : pg_cd 86 128 = (5, 1, 0, 0, 0) := by decide +kernel
theorem c_86_129 : pg_cd 86 129 = (1, 1, 0, 0, (-1)) := by decide +kernel
theorem c_86_130 : pg_cd 86 130 = (46, 8, 46, 16, 0) := by decide +kernel
theorem c_86_133 : pg_cd 86 133 = (5, 1, 0, 0, 0) := by decide +kernel
theorem c_86_134 : pg_cd 86 134 = (1, 1, 0, 0, (-1)) := by decide +kernel
theorem c_86_135 : pg_cd 86 135 = (46, 8, 49, 17, 0) := by decide +kernel
theorem c_86_138 : pg_cd 86 138 = (1, 1, 0, 0, 0) := by decide +kernel
theorem c_86_139 : pg_cd 86 139 = (6, 1, 0, 1, 0) := by decide +kernel
theorem c_86_140 : pg_cd 86 140 = (3, 1, 0, 1, 0) := by decide +kernel
theorem c_86_141 : pg_cd 86 141 = (1, 2, 0, 0, 6) := by decide +kernel
theorem c_86_143 : pg_cd 86 143 = (37, 3, 0, 3, 40) := by decide +kernel
theorem c_86_146 : pg_cd 86 146 = (5, 1, 0, 0, 0) := by decide +kernel
theorem c_86_147 : pg_cd 86 147 = (45, 8, 14, 0, 0) := by decide +kernel
theorem c_86_150 : pg_cd 86 150 = (80, 54, 52, 0, 0) := by decide +kernel
theorem c_86_153 : pg_cd 86 153 = (35, 1, 0, 0, 0) := by decide +kernel
theorem c_86_154 : pg_cd 86 154 = (5, 1, 0, 0, 0) := by decide +kernel
theorem c_86_155 : pg_cd 86 155 = (3, 1, 0, 1, 0) := by decide +kernel
theorem c_86_156 : pg_cd 86 156 = (1, 2, 0, 0, 60) := by decide +kernel
theorem c_86_158 : pg_cd 86 158 = (1, 2, 0, 0, 30) := by decide +kernel
theorem c_86_160 : pg_cd 86 160 = (1, 2, 0, 0, 10) := by decide +kernel
theorem c_86_162 : pg_cd 86 162 = (1, 1, 0, 0, 0) := by decide +kernel
theorem c_86_163 : pg_cd 86 163 = (1, 1, 0, 0, 0) := by decide +kernel
theorem c_86_164 : pg_cd 86 164 = (80, 88, 56, 0, 0) := by decide +kernel
theorem c_86_167 : pg_cd 86 167 = (5, 1, 0, 0, 0) := by decide +kernel
theorem c_86_168 : pg_cd 86 168 = (45, 8, 14, 0, 0) := by decide +kernel
theorem c_86_171 : pg_cd 86 171 = (3, 1, 0, 1, 0) := by decide +kernel
theorem c_86_172 : pg_cd 86 172 = (1, 1, 0, 0, 5) := by decide +kernel
theorem c_86_173 : pg_cd 86 173 = (1, 1, 0, 0, (-1)) := by decide +kernel
theorem c_86_174 : pg_cd 86 174 = (80, 56, 60, 0, 0) := by decide +kernel
theorem c_86_177 : pg_cd 86 177 = (9, 3, 0, 1, 1) := by decide +kernel
theorem c_86_180 : pg_cd 86 180 = (38, 3, 0, 0, (-40)) := by decide +kernel
theorem c_86_183 : pg_cd 86 183 = (1, 1, 0, 0, 0) := by decide +kernel
theorem c_86_184 : pg_cd 86 184 = (6, 1, 0, 1, 0) := by decide +kernel
theorem c_86_185 : pg_cd 86 185 = (3, 1, 0, 1, 0) := by decide +kernel
theorem c_86_186 : pg_cd 86 186 = (1, 2, 0, 0, 8) := by decide +kernel
theorem c_86_188 : pg_cd 86 188 = (37, 3, 0, 3, 30) := by decide +kernel
theorem c_86_191 : pg_cd 86 191 = (5, 1, 0, 0, 0) := by decide +kernel
theorem c_86_192 : pg_cd 86 192 = (45, 8, 20, 1, 0) := by decide +kernel
theorem c_86_195 : pg_cd 86 195 = (80, 54, 52, 0, 0) := by decide +kernel
theorem c_86_198 : pg_cd 86 198 = (35, 1, 0, 0, 0) := by decide +kernel
theorem c_86_199 : pg_cd 86 199 = (5, 1, 0, 0, 0) := by decide +kernel
theorem c_86_200 : pg_cd 86 200 = (45, 8, 20, 1, 0) := by decide +kernel
theorem c_86_203 : pg_cd 86 203 = (3, 1, 0, 1, 0) := by decide +kernel
theorem c_86_204 : pg_cd 86 204 = (1, 3, 0, 0, 400) := by decide +kernel
theorem c_86_207 : pg_cd 86 207 = (1, 2, 0, 0, 60) := by decide +kernel
theorem c_86_209 : pg_cd 86 209 = (80, 56, 60, 0, 0) := by decide +kernel
theorem c_86_212 : pg_cd 86 212 = (9, 3, 0, 1, 1) := by decide +kernel
theorem c_86_215 : pg_cd 86 215 = (38, 3, 0, 0, (-30)) := by decide +kernel
theorem c_86_218 : pg_cd 86 218 = (5, 1, 0, 0, 0) := by decide +kernel
theorem c_86_219 : pg_cd 86 219 = (45, 8, 20, 1, 0) := by decide +kernel
theorem c_86_222 : pg_cd 86 222 = (1, 1, 0, 0, 0) := by decide +kernel
theorem c_86_223 : pg_cd 86 223 = (1, 3, 0, 0, 400) := by decide +kernel
theorem c_86_226 : pg_cd 86 226 = (1, 3, 0, 0, 1000) := by decide +kernel
theorem c_86_229 : pg_cd 86 229 = (80, 56, 60, 0, 0) := by decide +kernel
theorem c_86_232 : pg_cd 86 232 = (5, 1, 0, 0, 0) := by decide +kernel
theorem c_86_233 : pg_cd 86 233 = (45, 8, 20, 1, 0) := by decide +kernel
theorem c_86_236 : pg_cd 86 236 = (1, 1, 0, 0, 1) := by decide +kernel
theorem c_86_237 : pg_cd 86 237 = (1, 3, 0, 0, 400) := by decide +kernel
theorem c_86_240 : pg_cd 86 240 = (1, 2, 0, 0, 6) := by decide +kernel
theorem c_86_242 : pg_cd 86 242 = (80, 56, 60, 0, 0) := by decide +kernel
theorem c_86_245 : pg_cd 86 245 = (94, 0, 0, 0, 0) := by decide +kernel
theorem mi_86 : pg_mc 86 = 8 ∧ pg_na 86 = 0 ∧ pg_mx 86 = 2 := by decide +kernel
section TWN
variable {d : Nat} {S : zS} {σ τ : zI} {Q : zQ} {x : Nat} {k p1 p2 p3 p4 p5 : Int}
theorem q_88y (hx : oK S x 108 0) (hr : S.2.2.2 x 0 = some (x + 1)) (hR : ∀ σ', σ' (x + 1) = σ (x + 1) → oW S σ' (x + 1) 6 36) (hk : 0 ≤ k ∧ k < σ (x + 1) 2) (rk : rg k) (r1 : rg p1) (r2 : rg p2) (r3 : rg p3) (r4 : rg p4) (r5 : rg p5) (t : Q none S (uc σ (x + 1 + 1) (u1 (u1 (u1 (u1 (u1 (σ (x + 1 + 1)) (k * 6 + 0) p1) (k * 6 + 1) p2) (k * 6 + 2) p3) (k * 6 + 3) p4) (k * 6 + 4) p5)) τ) : wc_y (d + 1) 88 [.ref x, .int (wI k), .int (wI p1), .int (wI p2), .int (wI p3), .int (wI p4), .int (wI p5)] S σ τ Q := by
  refine wc_of_y mi_88 rfl ?_
  refine i5_y c_88_0 rfl (i45_y c_88_1 (fun _ => hx) (fun _ => hr) (i3_y c_88_4 rfl (i1_y c_88_5 (i3_y c_88_6 rfl ?_))))
  refine i80_y (As := [.int (wI k), .int (wI 0), .int (wI p1)]) (rest := []) (n := 0) c_88_7 mi_56 rfl rfl (Nat.le_of_ble_eq_true rfl) (Nat.le_of_ble_eq_true rfl) (fun _ => (hR σ rfl).1) (q_put_y (d := d) (w := 6) (n := 36) (fun _ => hR σ rfl) rk hk (by omega) rfl r1 ?_)
  show wi_y (d + 1) 88 10 [.ref x, .int (wI k), .int (wI p1), .int (wI p2), .int (wI p3), .int (wI p4), .int (wI p5)] [] S (uc σ (x + 1 + 1) (u1 (σ (x + 1 + 1)) (k * 6 + 0) p1)) τ Q
  refine i5_y c_88_10 rfl (i45_y c_88_11 (fun _ => hx) (fun _ => hr) (i3_y c_88_14 rfl (i1_y c_88_15 (i3_y c_88_16 rfl ?_))))
  refine i80_y (As := [.int (wI k), .int (wI 1), .int (wI p2)]) (rest := []) (n := 0) c_88_17 mi_56 rfl rfl (Nat.le_of_ble_eq_true rfl) (Nat.le_of_ble_eq_true rfl) (fun _ => (hR σ rfl).1) (q_put_y (d := d) (w := 6) (n := 36) (fun _ => hR (uc σ (x + 1 + 1) (u1 (σ (x + 1 + 1)) (k * 6 + 0) p1)) (by rw [uc_n (by omega)])) rk (by rw [uc_n (by omega)]; exact hk) (by omega) rfl r2 ?_)
  rw [uc_uc, uc_s]
  show wi_y (d + 1) 88 20 [.ref x, .int (wI k), .int (wI p1), .int (wI p2), .int (wI p3), .int (wI p4), .int (wI p5)] [] S (uc σ (x + 1 + 1) (u1 (u1 (σ (x + 1 + 1)) (k * 6 + 0) p1) (k * 6 + 1) p2)) τ Q
  refine i5_y c_88_20 rfl (i45_y c_88_21 (fun _ => hx) (fun _ => hr) (i3_y c_88_24 rfl (i1_y c_88_25 (i3_y c_88_26 rfl ?_))))
  refine i80_y (As := [.int (wI k), .int (wI 2), .int (wI p3)]) (rest := []) (n := 0) c_88_28 mi_56 rfl rfl (Nat.le_of_ble_eq_true rfl) (Nat.le_of_ble_eq_true rfl) (fun _ => (hR σ rfl).1) (q_put_y (d := d) (w := 6) (n := 36) (fun _ => hR (uc σ (x + 1 + 1) (u1 (u1 (σ (x + 1 + 1)) (k * 6 + 0) p1) (k * 6 + 1) p2)) (by rw [uc_n (by omega)])) rk (by rw [uc_n (by omega)]; exact hk) (by omega) rfl r3 ?_)
  rw [uc_uc, uc_s]
  show wi_y (d + 1) 88 31 [.ref x, .int (wI k), .int (wI p1), .int (wI p2), .int (wI p3), .int (wI p4), .int (wI p5)] [] S (uc σ (x + 1 + 1) (u1 (u1 (u1 (σ (x + 1 + 1)) (k * 6 + 0) p1) (k * 6 + 1) p2) (k * 6 + 2) p3)) τ Q
  refine i5_y c_88_31 rfl (i45_y c_88_32 (fun _ => hx) (fun _ => hr) (i3_y c_88_35 rfl (i1_y c_88_36 (i3_y c_88_37 rfl ?_))))
  refine i80_y (As := [.int (wI k), .int (wI 3), .int (wI p4)]) (rest := []) (n := 0) c_88_39 mi_56 rfl rfl (Nat.le_of_ble_eq_true rfl) (Nat.le_of_ble_eq_true rfl) (fun _ => (hR σ rfl).1) (q_put_y (d := d) (w := 6) (n := 36) (fun _ => hR (uc σ (x + 1 + 1) (u1 (u1 (u1 (σ (x + 1 + 1)) (k * 6 + 0) p1) (k * 6 + 1) p2) (k * 6 + 2) p3)) (by rw [uc_n (by omega)])) rk (by rw [uc_n (by omega)]; exact hk) (by omega) rfl r4 ?_)
  rw [uc_uc, uc_s]
  show wi_y (d + 1) 88 42 [.ref x, .int (wI k), .int (wI p1), .int (wI p2), .int (wI p3), .int (wI p4), .int (wI p5)] [] S (uc σ (x + 1 + 1) (u1 (u1 (u1 (u1 (σ (x + 1 + 1)) (k * 6 + 0) p1) (k * 6 + 1) p2) (k * 6 + 2) p3) (k * 6 + 3) p4)) τ Q
  refine i5_y c_88_42 rfl (i45_y c_88_43 (fun _ => hx) (fun _ => hr) (i3_y c_88_46 rfl (i1_y c_88_47 (i3_y c_88_48 rfl ?_))))
  refine i80_y (As := [.int (wI k), .int (wI 4), .int (wI p5)]) (rest := []) (n := 0) c_88_50 mi_56 rfl rfl (Nat.le_of_ble_eq_true rfl) (Nat.le_of_ble_eq_true rfl) (fun _ => (hR σ rfl).1) (q_put_y (d := d) (w := 6) (n := 36) (fun _ => hR (uc σ (x + 1 + 1) (u1 (u1 (u1 (u1 (σ (x + 1 + 1)) (k * 6 + 0) p1) (k * 6 + 1) p2) (k * 6 + 2) p3) (k * 6 + 3) p4)) (by rw [uc_n (by omega)])) rk (by rw [uc_n (by omega)]; exact hk) (by omega) rfl r5 ?_)
  rw [uc_uc, uc_s]
  show wi_y (d + 1) 88 53 [.ref x, .int (wI k), .int (wI p1), .int (wI p2), .int (wI p3), .int (wI p4), .int (wI p5)] [] S (uc σ (x + 1 + 1) (u1 (u1 (u1 (u1 (u1 (σ (x + 1 + 1)) (k * 6 + 0) p1) (k * 6 + 1) p2) (k * 6 + 2) p3) (k * 6 + 3) p4) (k * 6 + 4) p5)) τ Q
  exact i94_y c_88_53 t
/-- shapes of a town's first two tables -/
def TSH (S : zS) (x : Nat) : Prop := oK S x 108 0 ∧ S.2.2.2 x 0 = some (x + 1) ∧ S.2.2.2 x 1 = some (x + 3) ∧ (∀ σ : zI, σ (x + 1) 0 = 6 → 0 ≤ σ (x + 1) 2 → σ (x + 1) 2 ≤ 6 → oW S σ (x + 1) 6 36) ∧ ∀ σ : zI, σ (x + 3) 0 = 401 → 0 ≤ σ (x + 3) 2 → σ (x + 3) 2 ≤ 8 → oW S σ (x + 3) 401 3208
def K6 (f : Int → Int) (k : Int) : Prop := ∀ i, 0 ≤ i → i < k → f (i * 6 + 0) = 60 ∧ f (i * 6 + 1) = 30 ∧ f (i * 6 + 2) = 10 ∧ f (i * 6 + 3) = 0 ∧ f (i * 6 + 4) = 0 ∧ f (i * 6 + 5) = -1
def K8 (f : Int → Int) (k : Int) : Prop := ∀ i, 0 ≤ i → i < k → (∀ w, 0 ≤ w → w ≤ 399 → f (i * 401 + w) = 0) ∧ f (i * 401 + 400) = 60
theorem tnl_1 (sh : TSH S x) : ∀ (m : Nat) (k : Int) (σ' : zI), k + m = 6 → 0 ≤ k → (∀ c, c ≠ x + 1 → c ≠ x + 2 → σ' c = σ c) → σ' (x + 1) 0 = 6 → σ' (x + 1) 2 = k → K6 (σ' (x + 2)) k → (∀ σ1 : zI, (∀ c, c ≠ x + 1 → c ≠ x + 2 → σ1 c = σ c) → σ1 (x + 1) 0 = 6 → σ1 (x + 1) 2 = 6 → K6 (σ1 (x + 2)) 6 → wi_y (d + 3) 86 183 [.ref x, .int (wI 6)] [] S σ1 τ Q) → wi_y (d + 3) 86 140 [.ref x, .int (wI k)] [] S σ' τ Q
  | 0, k, σ', hm, hk, f, w0, w2, r, K => by
    have e : k = 6 := by omega
    subst e
    exact i3_y c_86_140 rfl (i1_y c_86_141 (i37_y c_86_143 (by omega) (by omega) rfl (fun _ => K σ' f w0 w2 r) (fun z => absurd (show (6 : Int) ≤ 6 by omega) z)))
  | m + 1, k, σ', hm, hk, f, w0, w2, r, K => by
    obtain ⟨s1, s2, s3, s4, s5⟩ := sh
    refine i3_y c_86_140 rfl (i1_y c_86_141 (i37_y c_86_143 (by omega) (by omega) rfl (fun z => absurd (show (6 : Int) ≤ k from z) (by omega)) (fun _ => ?_)))
    refine i5_y c_86_146 rfl (i45_y c_86_147 (fun _ => s1) (fun _ => s2) ?_)
    have o := s4 σ' w0 (by omega) (by omega)
    refine i80_y (As := []) (rest := []) (n := 0) c_86_150 mi_54 rfl rfl (Nat.le_of_ble_eq_true rfl) (Nat.le_of_ble_eq_true rfl) (fun _ => o.1) (q_add_y (d := d) (w := 6) (n := 36) (fun _ => o) (by omega) ?_)
    rw [w2]
    obtain ⟨σ2, hσ2⟩ : ∃ σ2, σ2 = uc (uc σ' (x + 1 + 1) (fl_ (σ' (x + 1 + 1)) (k * ((6 : Nat) : Int)) (k * ((6 : Nat) : Int) + ((6 : Nat) : Int)) 0)) (x + 1) (u1 (σ' (x + 1)) 2 (k + 1)) := ⟨_, rfl⟩
    rw [← hσ2]
    have a0 : σ2 (x + 1) 0 = 6 := by rw [hσ2, uc_s, u1_n (by decide)]; exact w0
    have a2 : σ2 (x + 1) 2 = k + 1 := by rw [hσ2, uc_s, u1_s]
    have af : σ2 (x + 1 + 1) = fl_ (σ' (x + 2)) (k * 6) (k * 6 + 6) 0 := by rw [hσ2, uc_n (by omega), uc_s]; rfl
    have fr : ∀ c, c ≠ x + 1 → c ≠ x + 2 → σ2 c = σ c := fun c c1 c2 => by rw [hσ2, uc_n c1, uc_n (show c ≠ x + 1 + 1 by omega)]; exact f c c1 c2
    have o2 : ∀ σ'', σ'' (x + 1) = σ2 (x + 1) → oW S σ'' (x + 1) 6 36 := fun σ'' e => s4 σ'' (by rw [e]; exact a0) (by rw [e, a2]; omega) (by rw [e, a2]; omega)
    show wi_y (d + 3) 86 153 [.ref x, .int (wI k)] [.int (wI k)] S σ2 τ Q
    refine i35i_y c_86_153 (i5_y c_86_154 rfl (i3_y c_86_155 rfl (i1_y c_86_156 (i1_y c_86_158 (i1_y c_86_160 (i1_y c_86_162 (i1_y c_86_163 ?_)))))))
    refine i80_y (As := [.int (wI k), .int (wI 60), .int (wI 30), .int (wI 10), .int (wI 0), .int (wI 0)]) (rest := []) (n := 0) c_86_164 mi_88 rfl rfl (Nat.le_of_ble_eq_true rfl) (Nat.le_of_ble_eq_true rfl) (fun _ => s1) (q_88y (d := d + 1) s1 s2 o2 (by rw [a2]; omega) (by omega) (by omega) (by omega) (by omega) (by omega) (by omega) ?_)
    rw [af]
    obtain ⟨σ3, hσ3⟩ : ∃ σ3, σ3 = uc σ2 (x + 1 + 1) (u1 (u1 (u1 (u1 (u1 (fl_ (σ' (x + 2)) (k * 6) (k * 6 + 6) 0) (k * 6 + 0) 60) (k * 6 + 1) 30) (k * 6 + 2) 10) (k * 6 + 3) 0) (k * 6 + 4) 0) := ⟨_, rfl⟩
    rw [← hσ3]
    have b1 : σ3 (x + 1) = σ2 (x + 1) := by rw [hσ3, uc_n (by omega)]
    show wi_y (d + 3) 86 167 [.ref x, .int (wI k)] [] S σ3 τ Q
    refine i5_y c_86_167 rfl (i45_y c_86_168 (fun _ => s1) (fun _ => s2) (i3_y c_86_171 rfl (i1_y c_86_172 (i1_y c_86_173 ?_))))
    refine i80_y (As := [.int (wI k), .int (wI 5), .int (wI (-1))]) (rest := []) (n := 0) c_86_174 mi_56 rfl rfl (Nat.le_of_ble_eq_true rfl) (Nat.le_of_ble_eq_true rfl) (fun _ => (o2 σ3 b1).1) (q_put_y (d := d + 2) (w := 6) (n := 36) (fun _ => o2 σ3 b1) (by omega) (by rw [b1, a2]; omega) (by omega) rfl (by omega) ?_)
    have b2 : σ3 (x + 1 + 1) = u1 (u1 (u1 (u1 (u1 (fl_ (σ' (x + 2)) (k * 6) (k * 6 + 6) 0) (k * 6 + 0) 60) (k * 6 + 1) 30) (k * 6 + 2) 10) (k * 6 + 3) 0) (k * 6 + 4) 0 := by rw [hσ3, uc_s]
    show wi_y (d + 3) 86 177 [.ref x, .int (wI k)] [] S (uc σ3 (x + 1 + 1) (u1 (σ3 (x + 1 + 1)) (k * 6 + 5) (-1))) τ Q
    rw [b2]
    refine i9_y (L' := [.ref x, .int (wI (k + 1))]) c_86_177 rfl rfl (i38_y c_86_180 rfl ?_)
    refine tnl_1 ⟨s1, s2, s3, s4, s5⟩ m (k + 1) _ (by omega) (by omega) (fun c c1 c2 => ?_) ?_ ?_ (fun i i0 i1 => ?_) K
    · rw [uc_n (show c ≠ x + 1 + 1 by omega), hσ3, uc_n (show c ≠ x + 1 + 1 by omega)]; exact fr c c1 c2
    · rw [uc_n (by omega), b1]; exact a0
    · rw [uc_n (by omega), b1]; exact a2
    · rw [show x + 2 = x + 1 + 1 from rfl, uc_s]
      by_cases e : i = k
      · rw [e]
        refine ⟨?_, ?_, ?_, ?_, ?_, ?_⟩
        · rw [u1_n (by omega), u1_n (by omega), u1_n (by omega), u1_n (by omega), u1_n (by omega), u1_s]
        · rw [u1_n (by omega), u1_n (by omega), u1_n (by omega), u1_n (by omega), u1_s]
        · rw [u1_n (by omega), u1_n (by omega), u1_n (by omega), u1_s]
        · rw [u1_n (by omega), u1_n (by omega), u1_s]
        · rw [u1_n (by omega), u1_s]
        · rw [u1_s]
      · have q := r i i0 (by omega)
        simp (disch := omega) only [u1_n, fl_out]
        exact q
theorem tnl_2 (sh : TSH S x) : ∀ (m : Nat) (k : Int) (σ' : zI), k + m = 8 → 0 ≤ k → (∀ c, c ≠ x + 3 → c ≠ x + 4 → σ' c = σ c) → σ' (x + 3) 0 = 401 → σ' (x + 3) 2 = k → K8 (σ' (x + 4)) k → (∀ σ1 : zI, (∀ c, c ≠ x + 3 → c ≠ x + 4 → σ1 c = σ c) → σ1 (x + 3) 0 = 401 → σ1 (x + 3) 2 = 8 → K8 (σ1 (x + 4)) 8 → wi_y (d + 3) 86 218 [.ref x, .int (wI 8)] [] S σ1 τ Q) → wi_y (d + 3) 86 185 [.ref x, .int (wI k)] [] S σ' τ Q
  | 0, k, σ', hm, hk, f, w0, w2, r, K => by
    have e : k = 8 := by omega
    subst e
    exact i3_y c_86_185 rfl (i1_y c_86_186 (i37_y c_86_188 (by omega) (by omega) rfl (fun _ => K σ' f w0 w2 r) (fun z => absurd (show (8 : Int) ≤ 8 by omega) z)))
  | m + 1, k, σ', hm, hk, f, w0, w2, r, K => by
    obtain ⟨s1, s2, s3, s4, s5⟩ := sh
    refine i3_y c_86_185 rfl (i1_y c_86_186 (i37_y c_86_188 (by omega) (by omega) rfl (fun z => absurd (show (8 : Int) ≤ k from z) (by omega)) (fun _ => ?_)))
    refine i5_y c_86_191 rfl (i45_y c_86_192 (fun _ => s1) (fun _ => s3) ?_)
    have o := s5 σ' w0 (by omega) (by omega)
    refine i80_y (As := []) (rest := []) (n := 0) c_86_195 mi_54 rfl rfl (Nat.le_of_ble_eq_true rfl) (Nat.le_of_ble_eq_true rfl) (fun _ => o.1) (q_add_y (d := d) (w := 401) (n := 3208) (fun _ => o) (by omega) ?_)
    rw [w2]
    obtain ⟨σ2, hσ2⟩ : ∃ σ2, σ2 = uc (uc σ' (x + 3 + 1) (fl_ (σ' (x + 3 + 1)) (k * ((401 : Nat) : Int)) (k * ((401 : Nat) : Int) + ((401 : Nat) : Int)) 0)) (x + 3) (u1 (σ' (x + 3)) 2 (k + 1)) := ⟨_, rfl⟩
    rw [← hσ2]
    have a0 : σ2 (x + 3) 0 = 401 := by rw [hσ2, uc_s, u1_n (by decide)]; exact w0
    have a2 : σ2 (x + 3) 2 = k + 1 := by rw [hσ2, uc_s, u1_s]
    have af : σ2 (x + 3 + 1) = fl_ (σ' (x + 4)) (k * 401) (k * 401 + 401) 0 := by rw [hσ2, uc_n (by omega), uc_s]; rfl
    have fr : ∀ c, c ≠ x + 3 → c ≠ x + 4 → σ2 c = σ c := fun c c1 c2 => by rw [hσ2, uc_n c1, uc_n (show c ≠ x + 3 + 1 by omega)]; exact f c c1 c2
    have o2 : oW S σ2 (x + 3) 401 3208 := s5 σ2 a0 (by rw [a2]; omega) (by rw [a2]; omega)
    show wi_y (d + 3) 86 198 [.ref x, .int (wI k)] [.int (wI k)] S σ2 τ Q
    refine i35i_y c_86_198 (i5_y c_86_199 rfl (i45_y c_86_200 (fun _ => s1) (fun _ => s3) (i3_y c_86_203 rfl (i1_y c_86_204 (i1_y c_86_207 ?_)))))
    refine i80_y (As := [.int (wI k), .int (wI 400), .int (wI 60)]) (rest := []) (n := 0) c_86_209 mi_56 rfl rfl (Nat.le_of_ble_eq_true rfl) (Nat.le_of_ble_eq_true rfl) (fun _ => o2.1) (q_put_y (d := d + 2) (w := 401) (n := 3208) (fun _ => o2) (by omega) (by rw [a2]; omega) (by omega) rfl (by omega) ?_)
    show wi_y (d + 3) 86 212 [.ref x, .int (wI k)] [] S (uc σ2 (x + 3 + 1) (u1 (σ2 (x + 3 + 1)) (k * 401 + 400) 60)) τ Q
    rw [af]
    refine i9_y (L' := [.ref x, .int (wI (k + 1))]) c_86_212 rfl rfl (i38_y c_86_215 rfl ?_)
    refine tnl_2 ⟨s1, s2, s3, s4, s5⟩ m (k + 1) _ (by omega) (by omega) (fun c c1 c2 => ?_) ?_ ?_ (fun i i0 i1 => ?_) K
    · rw [uc_n (show c ≠ x + 3 + 1 by omega)]; exact fr c c1 c2
    · rw [uc_n (by omega)]; exact a0
    · rw [uc_n (by omega)]; exact a2
    · rw [show x + 4 = x + 3 + 1 from rfl, uc_s]
      by_cases e : i = k
      · subst e
        exact ⟨fun w w0 w1 => by rw [u1_n (by omega), fl_in (by omega) (by omega)], by rw [u1_s]⟩
      · have q := r i i0 (by omega)
        exact ⟨fun w w0 w1 => by rw [u1_n (by omega), fl_out (by omega)]; exact q.1 w w0 w1, by rw [u1_n (by omega), fl_out (by omega)]; exact q.2⟩
def mn0 (i : Int) : Int := if i = 0 then 1000 else if i = 1 then 6 else 60
def K9 (f : Int → Int) : Prop := ∀ i, 0 ≤ i → i ≤ 7 → (∀ w, 0 ≤ w → w ≤ 399 → f (i * 401 + w) = 0) ∧ f (i * 401 + 400) = mn0 i
theorem tnl_3 (sh : TSH S x) {σ' : zI} (w0 : σ' (x + 3) 0 = 401) (w2 : σ' (x + 3) 2 = 8) (r : K8 (σ' (x + 4)) 8) (K : ∀ σ1 : zI, (∀ c, c ≠ x + 4 → σ1 c = σ' c) → K9 (σ1 (x + 4)) → Q none S σ1 τ) : wi_y (d + 3) 86 218 [.ref x, .int (wI 8)] [] S σ' τ Q := by
  obtain ⟨s1, s2, s3, s4, s5⟩ := sh
  have o := s5 σ' w0 (by omega) (by omega)
  refine i5_y c_86_218 rfl (i45_y c_86_219 (fun _ => s1) (fun _ => s3) (i1_y c_86_222 (i1_y c_86_223 (i1_y c_86_226 ?_))))
  refine i80_y (As := [.int (wI 0), .int (wI 400), .int (wI 1000)]) (rest := []) (n := 0) c_86_229 mi_56 rfl rfl (Nat.le_of_ble_eq_true rfl) (Nat.le_of_ble_eq_true rfl) (fun _ => o.1) (q_put_y (d := d + 2) (w := 401) (n := 3208) (fun _ => o) (by omega) (by rw [w2]; omega) (by omega) rfl (by omega) ?_)
  obtain ⟨σ2, hσ2⟩ : ∃ σ2, σ2 = uc σ' (x + 3 + 1) (u1 (σ' (x + 3 + 1)) (0 * 401 + 400) 1000) := ⟨_, rfl⟩
  show wi_y (d + 3) 86 232 [.ref x, .int (wI 8)] [] S (uc σ' (x + 3 + 1) (u1 (σ' (x + 3 + 1)) (0 * 401 + 400) 1000)) τ Q
  rw [← hσ2]
  have e3 : σ2 (x + 3) = σ' (x + 3) := by rw [hσ2, uc_n (by omega)]
  have o2 : oW S σ2 (x + 3) 401 3208 := s5 σ2 (by rw [e3]; exact w0) (by rw [e3]; omega) (by rw [e3]; omega)
  refine i5_y c_86_232 rfl (i45_y c_86_233 (fun _ => s1) (fun _ => s3) (i1_y c_86_236 (i1_y c_86_237 (i1_y c_86_240 ?_))))
  refine i80_y (As := [.int (wI 1), .int (wI 400), .int (wI 6)]) (rest := []) (n := 0) c_86_242 mi_56 rfl rfl (Nat.le_of_ble_eq_true rfl) (Nat.le_of_ble_eq_true rfl) (fun _ => o2.1) (q_put_y (d := d + 2) (w := 401) (n := 3208) (fun _ => o2) (by omega) (by rw [e3, w2]; omega) (by omega) rfl (by omega) ?_)
  refine i94_y c_86_245 (K _ (fun c hc => ?_) (fun i i0 i1 => ?_))
  · rw [uc_n (show c ≠ x + 3 + 1 by omega), hσ2, uc_n (show c ≠ x + 3 + 1 by omega)]
  · have q := r i i0 (by omega)
    rw [show x + 4 = x + 3 + 1 from rfl, uc_s, hσ2, uc_s]
    refine ⟨fun w w0 w1 => ?_, ?_⟩
    · rw [u1_n (by omega), u1_n (by omega)]; exact q.1 w w0 w1
    · unfold mn0
      by_cases e0 : i = 0
      · subst e0
        rw [if_pos rfl, u1_n (by omega), show (0 : Int) * 401 + 400 = 0 * 401 + 400 from rfl, u1_s]
      · rw [if_neg e0]
        by_cases e1 : i = 1
        · subst e1
          rw [if_pos rfl]; exact u1_s _ _ _
        · rw [if_neg e1, u1_n (by omega), u1_n (by omega)]; exact q.2
end TWN
