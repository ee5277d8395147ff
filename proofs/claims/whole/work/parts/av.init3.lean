/-! ===== the reference made, and the law run (segments printed by wip/whole, contracts own work) ===== -/
theorem zL_s {LL : Nat} : zLay (SHs LL 99 99) := by
  have h1 : ∀ c, c < 100 → 0 < c → some ((lyS[c - 1]?).getD (0, 0)) = lyT[c]? := by decide +kernel
  have h2 : ∀ q ∈ lrT, lkS 99 q.1 q.2.1 = some q.2.2 := by decide +kernel
  refine ⟨Nat.le_refl 100, fun c c0 c1 => ?_, h2⟩
  show some (if 1 ≤ c ∧ c ≤ 99 then (lyS[c - 1]?).getD (0, 0) else (0, LL)) = _
  rw [if_pos (by omega)]
  exact h1 c c1 c0
theorem wi_yo {d M pc LL : Nat} {L st : List Value} {σ τ : zI} {Q : zQ} (h : ∀ q ∈ lwT, σ q.1 0 = q.2.1 ∧ 0 ≤ σ q.1 2 ∧ σ q.1 2 ≤ q.2.2) (t : wi d M pc L st (SHs LL 99 99) σ τ Q) : wi_y d M pc L st (SHs LL 99 99) σ τ Q := fun K => wq_to (t ⟨zL_s, K.2.1, K.2.2.1, h⟩) (by
  rintro r h' ⟨S', σ', τ', e, K', q⟩
  exact ⟨S', σ', τ', e, ⟨by have := K'.1.1; omega, K'.2.1, K'.2.2.1, trivial⟩, q⟩)
theorem TF_w {x : Nat} {σ : zI} {f : Int → Int} (h : TF x f σ) : (σ (x + 1) 0 = ((6 : Nat) : Int) ∧ 0 ≤ σ (x + 1) 2 ∧ σ (x + 1) 2 ≤ ((6 : Nat) : Int)) ∧ (σ (x + 3) 0 = ((401 : Nat) : Int) ∧ 0 ≤ σ (x + 3) 2 ∧ σ (x + 3) 2 ≤ ((8 : Nat) : Int)) ∧ (σ (x + 5) 0 = ((13 : Nat) : Int) ∧ 0 ≤ σ (x + 5) 2 ∧ σ (x + 5) 2 ≤ ((8 : Nat) : Int)) ∧ (σ (x + 7) 0 = ((5 : Nat) : Int) ∧ 0 ≤ σ (x + 7) 2 ∧ σ (x + 7) 2 ≤ ((4 : Nat) : Int)) ∧ (σ (x + 9) 0 = ((8 : Nat) : Int) ∧ 0 ≤ σ (x + 9) 2 ∧ σ (x + 9) 2 ≤ ((24 : Nat) : Int)) ∧ (σ (x + 11) 0 = ((9 : Nat) : Int) ∧ 0 ≤ σ (x + 11) 2 ∧ σ (x + 11) 2 ≤ ((60 : Nat) : Int)) ∧ (σ (x + 13) 0 = ((6 : Nat) : Int) ∧ 0 ≤ σ (x + 13) 2 ∧ σ (x + 13) 2 ≤ ((80 : Nat) : Int)) ∧ (σ (x + 15) 0 = ((5 : Nat) : Int) ∧ 0 ≤ σ (x + 15) 2 ∧ σ (x + 15) 2 ≤ ((61 : Nat) : Int)) := by
  obtain ⟨_, ⟨a1, a2, _⟩, ⟨b1, b2, _⟩, h5, h7, h9, h11, h13, h15⟩ := h
  have z2 : ∀ w : Int, u1 z0 0 w 0 = w ∧ u1 z0 0 w 2 = 0 := fun w => ⟨u1_s _ _ _, rfl⟩
  rw [h5, h7, h9, h11, h13, h15, a1, a2, b1, b2, (z2 13).1, (z2 13).2, (z2 5).1, (z2 5).2, (z2 8).1, (z2 8).2, (z2 9).1, (z2 9).2, (z2 6).1, (z2 6).2]
  omega
theorem CFn_w {σ : zI} (h : CFn σ) : ∀ q ∈ lwT, σ q.1 0 = q.2.1 ∧ 0 ≤ σ q.1 2 ∧ σ q.1 2 ≤ q.2.2 := by
  obtain ⟨h1, h2, h3, _⟩ := h
  obtain ⟨a1, a2, a3, a4, a5, a6, a7, a8⟩ := TF_w h1
  obtain ⟨b1, b2, b3, b4, b5, b6, b7, b8⟩ := TF_w h2
  obtain ⟨c1, c2, c3, c4, c5, c6, c7, c8⟩ := TF_w h3
  unfold lwT
  exact List.forall_mem_cons.mpr ⟨a1, List.forall_mem_cons.mpr ⟨a2, List.forall_mem_cons.mpr ⟨a3, List.forall_mem_cons.mpr ⟨a4, List.forall_mem_cons.mpr ⟨a5, List.forall_mem_cons.mpr ⟨a6, List.forall_mem_cons.mpr ⟨a7, List.forall_mem_cons.mpr ⟨a8, List.forall_mem_cons.mpr ⟨b1, List.forall_mem_cons.mpr ⟨b2, List.forall_mem_cons.mpr ⟨b3, List.forall_mem_cons.mpr ⟨b4, List.forall_mem_cons.mpr ⟨b5, List.forall_mem_cons.mpr ⟨b6, List.forall_mem_cons.mpr ⟨b7, List.forall_mem_cons.mpr ⟨b8, List.forall_mem_cons.mpr ⟨c1, List.forall_mem_cons.mpr ⟨c2, List.forall_mem_cons.mpr ⟨c3, List.forall_mem_cons.mpr ⟨c4, List.forall_mem_cons.mpr ⟨c5, List.forall_mem_cons.mpr ⟨c6, List.forall_mem_cons.mpr ⟨c7, List.forall_mem_cons.mpr ⟨c8, fun _ h => absurd h List.not_mem_nil⟩⟩⟩⟩⟩⟩⟩⟩⟩⟩⟩⟩⟩⟩⟩⟩⟩⟩⟩⟩⟩⟩⟩⟩
/-- the reference's numbers, just made -/
def AF (f : Int → Int) : Prop := (f 12 = 100000 ∧ f 13 = -1 ∧ f 14 = -1) ∧ (∀ i, 0 ≤ i → i ≤ 5 → f (20 + 8 * i + 1) = 60 ∧ f (20 + 8 * i + 2) = 30 ∧ f (20 + 8 * i + 3) = 10 ∧ f (20 + 8 * i + 6) = -1 ∧ f (20 + 8 * i) = 0 ∧ f (20 + 8 * i + 4) = 0 ∧ f (20 + 8 * i + 5) = 0 ∧ f (20 + 8 * i + 7) = 0) ∧ (∀ i, 0 ≤ i → i ≤ 7 → f (70 + i) = mn0 i) ∧ ∀ j, (j < 12 ∨ (15 ≤ j ∧ j < 20) ∨ (68 ≤ j ∧ j < 70) ∨ 78 ≤ j) → f j = 0
def AI (f : Int → Int) (k : Int) : Prop := (f 12 = 100000 ∧ f 13 = -1 ∧ f 14 = -1) ∧ (∀ i, 0 ≤ i → i < k → f (20 + 8 * i + 1) = 60 ∧ f (20 + 8 * i + 2) = 30 ∧ f (20 + 8 * i + 3) = 10 ∧ f (20 + 8 * i + 6) = -1 ∧ f (20 + 8 * i) = 0 ∧ f (20 + 8 * i + 4) = 0 ∧ f (20 + 8 * i + 5) = 0 ∧ f (20 + 8 * i + 7) = 0) ∧ ∀ j, (j < 12 ∨ (15 ≤ j ∧ j < 20) ∨ 20 + 8 * k ≤ j) → f j = 0
section MDL
variable {d M pc a b k' : Nat} {z : Int} {L st : List Value} {S : zS} {σ τ : zI} {Q : zQ} {f : Int → Int}
theorem t54 {e v : Int} (hI : pg_cd M pc = (54, a, b, k', z)) (he : 0 ≤ e ∧ e < 112300) (rv : rg v) (t : wi d M (pc + 1) L st S (uc σ 84 (u1 f e v)) τ Q) : wi d M pc L (.int (wI v) :: .int (wI e) :: .ref 84 :: st) S (uc σ 84 f) τ Q := i54 (σ1 := uc σ 84 (u1 f e v)) hI (lo (c := 84) (kd := 0) (n := 112300) rfl (by decide)) (by decide) he (by decide) rfl rv (wr_ (uc_s _ _ _) (uc_uc _ _ _ _)) t
theorem md_1 : ∀ (m : Nat) (k : Int) (f : Int → Int), k + m = 6 → 0 ≤ k → AI f k → (∀ f1, AI f1 6 → wi d 194 257 [.ref 83, .int (wI 6)] [] S (uc σ 84 f1) τ Q) → wi d 194 181 [.ref 83, .int (wI k)] [] S (uc σ 84 f) τ Q
  | 0, k, f, hm, hk, A, K => by
    have e : k = 6 := by omega
    subst e
    exact i3 c_194_181 rfl (i1 c_194_182 (i37 c_194_184 (by omega) (by omega) rfl (fun _ => K f A) (fun z => absurd (show (6 : Int) ≤ 6 by omega) z)))
  | m + 1, k, f, hm, hk, A, K => by
    refine i3 c_194_181 rfl (i1 c_194_182 (i37 c_194_184 (by omega) (by omega) rfl (fun z => absurd (show (6 : Int) ≤ k from z) (by omega)) (fun _ => ?_)))
    refine i5 c_194_187 rfl (i45 c_194_188 (lo (c := 83) (kd := 112) (n := 0) rfl (by decide)) (lro (c := 83) (k := 0) (j := 84) (by decide)) (i1 c_194_191 (i1 c_194_193 (i3 c_194_195 rfl (i12 c_194_196 (i10 c_194_197 (i1 c_194_198 (i10 c_194_199 (i1 c_194_200 (t54 c_194_202 (by omega) (by omega) ?_))))))))))
    refine i5 c_194_203 rfl (i45 c_194_204 (lo (c := 83) (kd := 112) (n := 0) rfl (by decide)) (lro (c := 83) (k := 0) (j := 84) (by decide)) (i1 c_194_207 (i1 c_194_209 (i3 c_194_211 rfl (i12 c_194_212 (i10 c_194_213 (i1 c_194_214 (i10 c_194_215 (i1 c_194_216 (t54 c_194_218 (by omega) (by omega) ?_))))))))))
    refine i5 c_194_219 rfl (i45 c_194_220 (lo (c := 83) (kd := 112) (n := 0) rfl (by decide)) (lro (c := 83) (k := 0) (j := 84) (by decide)) (i1 c_194_223 (i1 c_194_225 (i3 c_194_227 rfl (i12 c_194_228 (i10 c_194_229 (i1 c_194_230 (i10 c_194_231 (i1 c_194_232 (t54 c_194_234 (by omega) (by omega) ?_))))))))))
    refine i5 c_194_235 rfl (i45 c_194_236 (lo (c := 83) (kd := 112) (n := 0) rfl (by decide)) (lro (c := 83) (k := 0) (j := 84) (by decide)) (i1 c_194_239 (i1 c_194_241 (i3 c_194_243 rfl (i12 c_194_244 (i10 c_194_245 (i1 c_194_246 (i10 c_194_248 (i1 c_194_249 (t54 c_194_250 (by omega) (by omega) ?_))))))))))
    refine i9 (L' := [.ref 83, .int (wI (k + 1))]) c_194_251 rfl rfl (i38 c_194_254 rfl (md_1 m (k + 1) _ (by omega) (by omega) ?_ K))
    obtain ⟨⟨h1, h2, h3⟩, h4, h5⟩ := A
    refine ⟨⟨?_, ?_, ?_⟩, fun i i0 i1 => ?_, fun j hj => ?_⟩
    · simp (disch := omega) only [u1_n]; exact h1
    · simp (disch := omega) only [u1_n]; exact h2
    · simp (disch := omega) only [u1_n]; exact h3
    · by_cases e : i = k
      · subst e
        refine ⟨?_, ?_, ?_, ?_, ?_, ?_, ?_, ?_⟩
        · rw [u1_n (by omega), u1_n (by omega), u1_n (by omega), u1_s]
        · rw [u1_n (by omega), u1_n (by omega), u1_s]
        · rw [u1_n (by omega), u1_s]
        · rw [u1_s]
        · rw [u1_n (by omega), u1_n (by omega), u1_n (by omega), u1_n (by omega)]; exact h5 _ (by omega)
        · rw [u1_n (by omega), u1_n (by omega), u1_n (by omega), u1_n (by omega)]; exact h5 _ (by omega)
        · rw [u1_n (by omega), u1_n (by omega), u1_n (by omega), u1_n (by omega)]; exact h5 _ (by omega)
        · rw [u1_n (by omega), u1_n (by omega), u1_n (by omega), u1_n (by omega)]; exact h5 _ (by omega)
      · have q := h4 i i0 (by omega)
        simp (disch := omega) only [u1_n]
        exact q
    · rw [u1_n (by omega), u1_n (by omega), u1_n (by omega), u1_n (by omega)]; exact h5 j (by omega)
theorem md_2 {f : Int → Int} : ∀ (m : Nat) (k : Int) (g : Int → Int), k + m = 8 → 0 ≤ k → (∀ j, j < 70 ∨ 70 + k ≤ j → g j = f j) → (∀ i, 0 ≤ i → i < k → g (70 + i) = mn0 i) → (∀ g1 : Int → Int, (∀ j, j < 70 ∨ 70 + 8 ≤ j → g1 j = f j) → (∀ i, 0 ≤ i → i < 8 → g1 (70 + i) = mn0 i) → wi d 194 302 [.ref 83, .int (wI 8)] [] S (uc σ 84 g1) τ Q) → wi d 194 259 [.ref 83, .int (wI k)] [] S (uc σ 84 g) τ Q
  | 0, k, g, hm, hk, A, B, K => by
    have e : k = 8 := by omega
    subst e
    exact i3 c_194_259 rfl (i1 c_194_260 (i37 c_194_262 (by omega) (by omega) rfl (fun _ => K g A B) (fun z => absurd (show (8 : Int) ≤ 8 by omega) z)))
  | m + 1, k, g, hm, hk, A, B, K => by
    have J : ∀ v : Int, v = mn0 k → rg v → wi d 194 295 [.ref 83, .int (wI k)] [.int (wI v), .int (wI (70 + k)), .ref 84] S (uc σ 84 g) τ Q := fun v ev rv => by
      refine t54 c_194_295 (by omega) rv (i9 (L' := [.ref 83, .int (wI (k + 1))]) c_194_296 rfl rfl (i38 c_194_299 rfl (md_2 m (k + 1) _ (by omega) (by omega) (fun j hj => ?_) (fun i i0 i1 => ?_) K)))
      · rw [u1_n (by omega)]; exact A j (by omega)
      · by_cases e : i = k
        · subst e; rw [u1_s]; exact ev
        · rw [u1_n (by omega)]; exact B i i0 (by omega)
    refine i3 c_194_259 rfl (i1 c_194_260 (i37 c_194_262 (by omega) (by omega) rfl (fun z => absurd (show (8 : Int) ≤ k from z) (by omega)) (fun _ => ?_)))
    refine i5 c_194_265 rfl (i45 c_194_266 (lo (c := 83) (kd := 112) (n := 0) rfl (by decide)) (lro (c := 83) (k := 0) (j := 84) (by decide)) (i1 c_194_269 (i3 c_194_271 rfl (i10 c_194_272 (i3 c_194_273 rfl (i36 c_194_274 (by omega) rfl (fun z => ?_) (fun z => ?_)))))))
    · have z1 : ¬ k = 0 := z
      refine i3 c_194_283 rfl (i1 c_194_284 (i37 c_194_285 (by omega) (by omega) rfl (fun z => ?_) (fun z => ?_)))
      · have z2 : ¬ k = 1 := z
        exact i1 c_194_293 (J 60 (by unfold mn0; rw [if_neg z1, if_neg z2]) (by omega))
      · have z2 : k = 1 := Classical.byContradiction z
        exact i1 c_194_288 (i38 c_194_290 rfl (J 6 (by unfold mn0; rw [if_neg z1, if_pos z2]) (by omega)))
    · have z1 : k = 0 := Classical.byContradiction z
      exact i1 c_194_277 (i38 c_194_280 rfl (J 1000 (by unfold mn0; rw [if_pos z1]) (by omega)))
theorem cpA_z (A : AF f) : cpA f z0 = f := by
  funext j
  unfold cpA
  by_cases c : 0 ≤ j ∧ j < 112300
  · rw [if_pos c]
  · rw [if_neg c, A.2.2.2 j (by omega)]; rfl
end MDL
theorem in_194 {LL : Nat} {σ τ : zI} {Q : zQ} (h : CFn σ) (K : ∀ σ1 τ1 : zI, (∀ c, c < 83 → σ1 c = σ c) → σ1 83 = u1 (u1 (u1 (σ 83) 5 (-1)) 6 (-1)) 42 (-1) → AF (σ1 84) → σ1 85 = σ1 84 → σ1 87 = z0 → σ1 99 = z0 → Q none (SHs LL 99 99) σ1 τ1) : wc_y 59 194 [.ref 83] (SHs LL 83 83) σ τ Q := by
  refine in_194a (fun σ1 τ1 fr e83 e84 e85 e87 e99 => ?_)
  refine wi_yo (CFn_w (CFn_e h (fun c _ c1 => fr c c1))) ?_
  have es : uc σ1 84 z0 = σ1 := by
    funext c
    by_cases hc : c = 84
    · rw [hc, uc_s, e84]
    · rw [uc_n hc]
  rw [← es]
  refine i5 c_194_154 rfl (i45 c_194_155 (lo (c := 83) (kd := 112) (n := 0) rfl (by decide)) (lro (c := 83) (k := 0) (j := 84) (by decide)) (i1 c_194_158 (i1 c_194_160 (t54 c_194_162 (by omega) (by omega) (i5 c_194_163 rfl (i45 c_194_164 (lo (c := 83) (kd := 112) (n := 0) rfl (by decide)) (lro (c := 83) (k := 0) (j := 84) (by decide)) (i1 c_194_167 (i1 c_194_169 (t54 c_194_170 (by omega) (by omega) (i5 c_194_171 rfl (i45 c_194_172 (lo (c := 83) (kd := 112) (n := 0) rfl (by decide)) (lro (c := 83) (k := 0) (j := 84) (by decide)) (i1 c_194_175 (i1 c_194_177 (t54 c_194_178 (by omega) (by omega) (i1 c_194_179 (i6 (L' := [.ref 83, .int (wI 0)]) c_194_180 rfl ?_))))))))))))))))
  refine md_1 6 0 _ rfl (by omega) ⟨⟨?_, ?_, ?_⟩, fun i i0 i1 => absurd i1 (by omega), fun j hj => ?_⟩ (fun f1 A => ?_)
  · rw [u1_n (by decide), u1_n (by decide), u1_s]
  · rw [u1_n (by decide), u1_s]
  · rw [u1_s]
  · rw [u1_n (by omega), u1_n (by omega), u1_n (by omega)]; rfl
  refine i1 c_194_257 (i6 (L' := [.ref 83, .int (wI 0)]) c_194_258 rfl (md_2 (f := f1) 8 0 f1 rfl (by omega) (fun j _ => rfl) (fun i i0 i1 => absurd i1 (by omega)) (fun f2 B C => ?_)))
  have A2 : AF f2 := by
    obtain ⟨⟨h1, h2, h3⟩, h4, h5⟩ := A
    refine ⟨⟨by rw [B _ (by omega)]; exact h1, by rw [B _ (by omega)]; exact h2, by rw [B _ (by omega)]; exact h3⟩, fun i i0 i1 => ?_, fun i i0 i1 => C i i0 (by omega), fun j hj => ?_⟩
    · rw [B (20 + 8 * i + 1) (by omega), B (20 + 8 * i + 2) (by omega), B (20 + 8 * i + 3) (by omega), B (20 + 8 * i + 6) (by omega), B (20 + 8 * i) (by omega), B (20 + 8 * i + 4) (by omega), B (20 + 8 * i + 5) (by omega), B (20 + 8 * i + 7) (by omega)]
      exact h4 i i0 (by omega)
    · rw [B j (by omega)]; exact h5 j (by omega)
  refine i5 c_194_302 rfl (i45 c_194_303 (lo (c := 83) (kd := 112) (n := 0) rfl (by decide)) (lro (c := 83) (k := 0) (j := 84) (by decide)) (i5 c_194_306 rfl (i45 c_194_307 (lo (c := 83) (kd := 112) (n := 0) rfl (by decide)) (lro (c := 83) (k := 1) (j := 85) (by decide)) (i81 (As := [.ref 84, .ref 85]) (rest := []) c_194_310 mi_195 rfl rfl (Nat.le_of_ble_eq_true rfl) (Nat.le_of_ble_eq_true rfl) (q_195 (d := 58) ⟨fun _ _ => lo (c := 84) (kd := 0) (n := 112300) rfl (by decide), rfl⟩ ⟨fun _ _ => lo (c := 85) (kd := 0) (n := 112300) rfl (by decide), rfl⟩ (by decide) ?_)))))
  refine i94 c_194_313 (K _ _ (fun c hc => ?_) ?_ ?_ ?_ ?_ ?_)
  · rw [uc_n (by omega), uc_n (by omega)]; exact fr c hc
  · rw [uc_n (by decide), uc_n (by decide)]; exact e83
  · rw [uc_n (by decide), uc_s]; exact A2
  · simp (disch := decide) only [uc_n, uc_s]
    rw [e85]; exact cpA_z A2
  · rw [uc_n (by decide), uc_n (by decide)]; exact e87
  · rw [uc_n (by decide), uc_n (by decide)]; exact e99
section FIRST
variable {LL : Nat} {σ τ : zI} {Q : zQ} {f : Int → Int} {x : Nat}
theorem RT_0 (h : TF x z0 σ) (A : AF f) : RT σ x f := by
  obtain ⟨h0, ⟨a1, a2, a3⟩, ⟨b1, b2, b3⟩, h5, h7, h9, h11, h13, h15⟩ := h
  obtain ⟨⟨A12, A13, A14⟩, AK, AM, A0⟩ := A
  refine ⟨?_, ⟨a2, fun k k0 k5 => ?_⟩, ⟨b2, fun i i0 i7 => ?_⟩, ⟨?_, fun m m0 m1 => ?_⟩, ⟨?_, fun m m0 m1 => ?_⟩, ⟨?_, fun m m0 m1 => ?_⟩, ⟨?_, fun m m0 m1 => ?_⟩, ⟨?_, fun m m0 m1 => ?_⟩, ⟨?_, fun m m0 m1 => ?_⟩⟩
  · unfold rT_S
    rw [h0, A12, A13, A14, A0 0 (by omega), A0 5 (by omega), A0 15 (by omega), A0 11 (by omega), A0 8 (by omega), A0 9 (by omega), A0 10 (by omega)]
    exact ⟨rfl, rfl, rfl, rfl, rfl, rfl, rfl, rfl, rfl, rfl⟩
  · obtain ⟨c1, c2, c3, c4, c5, c6⟩ := a3 k k0 (by omega)
    obtain ⟨d1, d2, d3, d6, d0, d4, d5, d7⟩ := AK k k0 k5
    rw [c1, c2, c3, c4, c5, c6, d1, d2, d3, d4, d5, d6]
    exact ⟨rfl, rfl, rfl, rfl, rfl, rfl⟩
  · obtain ⟨c1, c2⟩ := b3 i i0 i7
    exact ⟨fun w w0 w1 => by rw [c1 w w0 w1, A0 _ (by omega)], by rw [c2, AM i i0 i7]⟩
  · rw [h5, A0 1 (by omega)]; rfl
  · rw [A0 1 (by omega)] at m1; omega
  · rw [h7, A0 2 (by omega)]; rfl
  · rw [A0 2 (by omega)] at m1; omega
  · rw [h9, A0 3 (by omega)]; rfl
  · rw [A0 3 (by omega)] at m1; omega
  · rw [h11, A0 4 (by omega)]; rfl
  · rw [A0 4 (by omega)] at m1; omega
  · rw [h13, A0 7 (by omega)]; rfl
  · rw [A0 7 (by omega)] at m1; omega
  · rw [h15, A0 6 (by omega)]; rfl
  · rw [A0 6 (by omega)] at m1; omega
theorem Jv_0 (A : AF f) : Jv f := by
  obtain ⟨⟨A12, A13, A14⟩, AK, AM, A0⟩ := A
  refine ⟨?_, ?_, fun k k0 k5 => ?_, ⟨fun i w i0 i7 w0 w1 => ?_, fun i i0 i7 => ?_⟩, fun m m0 m1 => ?_, fun m m0 m1 => ?_, fun m m0 m1 => ?_, fun m m0 m1 => ?_, ⟨fun m m0 m1 => ?_, fun k k0 k5 => ?_⟩, fun m m0 m1 => ?_⟩
  · unfold jv_C
    rw [A0 0 (by omega), A0 1 (by omega), A0 2 (by omega), A0 3 (by omega), A0 4 (by omega), A0 5 (by omega), A0 6 (by omega), A0 7 (by omega)]
    omega
  · unfold jv_S
    rw [A12, A13, A14, A0 11 (by omega), A0 9 (by omega), A0 10 (by omega)]
    omega
  · obtain ⟨d1, d2, d3, d6, d0, d4, d5, d7⟩ := AK k k0 k5
    rw [d1, d2, d3, d4, d5, d6, d7]
    omega
  · rw [A0 _ (by omega)]; omega
  · rw [AM i i0 i7]; unfold mn0
    split
    · omega
    · split <;> omega
  · rw [A0 1 (by omega)] at m1; omega
  · rw [A0 2 (by omega)] at m1; omega
  · rw [A0 3 (by omega)] at m1; omega
  · rw [A0 4 (by omega)] at m1; omega
  · rw [A0 7 (by omega)] at m1; omega
  · obtain ⟨d1, d2, d3, d6, d0, d4, d5, d7⟩ := AK k k0 k5
    rw [d7, A0 7 (by omega)]
    constructor
    · intro h; omega
    · rintro ⟨o, o0, o1, _⟩; omega
  · rw [A0 6 (by omega)] at m1; omega
theorem WP_0 (A : AF f) : WP f := by
  have J := Jv_0 A
  obtain ⟨⟨A12, A13, A14⟩, AK, AM, A0⟩ := A
  refine ⟨J, fun n n0 n1 => ?_, fun n n0 n1 => ?_, ⟨?_, fun h h0 h1 => ?_, fun s s0 s1 => ?_⟩, ⟨fun w w0 w1 => ?_, ?_⟩, ?_⟩
  · rw [A0 5 (by omega)] at n1; omega
  · rw [A0 5 (by omega)] at n1; omega
  · rw [A0 8 (by omega)]; omega
  · rw [A0 3 (by omega)] at h1; omega
  · rw [A0 2 (by omega)] at s1; omega
  · rw [A0 0 (by omega)] at w1; omega
  · rw [A0 15 (by omega), A0 0 (by omega)]; rfl
  · refine ⟨fun m k m0 m1 k0 k1 => ?_, fun s s0 s1 => ?_, fun h h0 h1 => ?_, fun p p0 p1 => ?_, fun w h w0 w1 h0 h1 _ => ?_, fun w p w0 w1 p0 p1 _ => ?_, fun w m w0 w1 m0 m1 _ => ?_⟩
    · rw [A0 1 (by omega)] at m0; exact A0 _ (by omega)
    · rw [A0 2 (by omega)] at s0; exact A0 _ (by omega)
    · rw [A0 3 (by omega)] at h0; exact ⟨A0 _ (by omega), A0 _ (by omega)⟩
    · rw [A0 4 (by omega)] at p0; exact ⟨A0 _ (by omega), A0 _ (by omega), A0 _ (by omega), A0 _ (by omega)⟩
    · exact ⟨A0 _ (by omega), A0 _ (by omega), A0 _ (by omega), A0 _ (by omega)⟩
    · exact ⟨A0 _ (by omega), A0 _ (by omega)⟩
    · exact A0 _ (by omega)
theorem SH_l {n m a b : Nat} : (SHs LL n m).2.2.2 a b = lkS m a b := rfl
theorem n59s (k : Nat) : lkS 99 59 k = none := lkS_n (n := 58) 99 (by decide +kernel)
theorem n55s (k : Nat) : lkS 99 55 k = none := lkS_n (n := 54) 99 (by decide +kernel)
theorem MX_0 (h : TF x z0 σ) (A : AF f) : MX (SHs LL 99 99) σ x f 0 := by
  have A0 := A.2.2.2
  refine ⟨RT_0 h A, ⟨?_, fun n n0 n1 => ?_⟩, ⟨⟨fun k j _ e => ?_, fun k k' j _ _ e => ?_⟩, fun w w0 w1 => ?_⟩, WP_0 A, ?_, ?_⟩
  · rw [A0 5 (by omega)]; omega
  · rw [A0 5 (by omega)] at n1; omega
  · rw [SH_l, n59s] at e; cases e
  · rw [SH_l, n59s] at e; cases e
  · rw [A0 0 (by omega)] at w1; omega
  · unfold PB PT
    rw [A0 8 (by omega), A0 3 (by omega), A0 7 (by omega), A0 0 (by omega), sI_0, sI_0]
    omega
  · rw [A0 6 (by omega)]; omega
theorem fB_0 : fB (SHs LL 99 99) = 400 := by
  have := sI_b (f := fun k : Int => if ((SHs LL 99 99).2.2.2 59 k.toNat).isNone = true then (1 : Int) else 0) (n := 400) (lo := 1) (hi := 1) (by omega) (fun p p0 p1 => by
    try dsimp only
    rw [SH_l, n59s]; exact ⟨Int.le_refl 1, Int.le_refl 1⟩)
  unfold fB
  omega
theorem fT_0 : fT (SHs LL 99 99) = 20 := by
  have := sI_b (f := fun k : Int => if ((SHs LL 99 99).2.2.2 55 k.toNat).isNone = true then (1 : Int) else 0) (n := 20) (lo := 1) (hi := 1) (by omega) (fun p p0 p1 => by
    try dsimp only
    rw [SH_l, n55s]; exact ⟨Int.le_refl 1, Int.le_refl 1⟩)
  unfold fT
  omega
theorem REL_0 (h : CFn σ) (e4 : σ 83 4 = 0) (e5 : σ 83 5 = -1) (e6 : σ 83 6 = -1) (e42 : σ 83 42 = -1) (A : AF (σ 84)) (e85 : σ 85 = σ 84) (e87 : σ 87 = z0) (e99 : σ 99 = z0) (e1 : σ 1 11 = 0) : REL (SHs LL 99 99) σ 0 := by
  obtain ⟨h2, h19, h36, h63, h79, h80, h82⟩ := h
  unfold REL
  rw [e85, h82, e87, e1, e4, h63, e5, e6, h79, e42, h80, e99]
  refine ⟨⟨MX_0 h2 A, MX_0 h19 A, Int.le_refl _, Int.le_refl _⟩, ⟨rfl, rfl, by omega, fun k k0 k1 => absurd k1 (by omega)⟩, ⟨rfl, rfl⟩, ⟨rfl, by omega, rfl⟩, ⟨fun k j _ e => ?_, fun k k' j _ _ e => ?_⟩, fun k j _ e => ?_, ?_⟩
  · rw [SH_l, n55s] at e; cases e
  · rw [SH_l, n55s] at e; cases e
  · rw [SH_l, n55s] at e; cases e
  · have t : tSl 99 ≤ 400000 := by decide +kernel
    unfold RO
    rw [fB_0, fT_0]
    exact ⟨by show (((99 + 1 : Nat)) : Int) + 8 * 400 + 4 * 20 ≤ 4000; omega, by show ((tSl 99 : Nat) : Int) + 233 * 400 + 600 * 20 ≤ 4000000; omega⟩
theorem lw_walk (hL : LL ≤ 3584) : wi_y 60 331 0 [.ref 0, .retAddr 0, .retAddr 0, .retAddr 0] [] (SHs LL 0 0) σ τ (fun r S' _ _ => r = some (.int 1) ∧ RO S') := by
  refine s60 (n' := 1) c_331_0 rfl rfl rfl rfl (i33a_y c_331_3 ?_)
  refine i80_y (As := []) (rest := [.ref 1]) (n := 0) c_331_4 mi_140 rfl rfl (Nat.le_of_ble_eq_true rfl) (Nat.le_of_ble_eq_true rfl) (fun _ => SH_o ⟨⟨by decide, by decide⟩, rfl⟩) (in_140_1 (fun σ1 τ1 fr cf => ?_))
  show wi_y 60 331 7 [.ref 0, .retAddr 0, .retAddr 0, .retAddr 0] [.ref 1] _ _ _ _
  refine i8_y (L' := [.ref 0, .ref 1, .retAddr 0, .retAddr 0]) c_331_7 rfl (s60 (n' := 83) c_331_8 rfl rfl rfl rfl (i33a_y c_331_11 ?_))
  have cf2 : CFn (uc σ1 83 z0) := CFn_e cf (fun c _ c1 => uc_n (by omega))
  refine i80_y (As := []) (rest := [.ref 83]) (n := 0) c_331_12 mi_194 rfl rfl (Nat.le_of_ble_eq_true rfl) (Nat.le_of_ble_eq_true rfl) (fun _ => SH_o ⟨⟨by decide, by decide⟩, rfl⟩) (in_194 cf2 (fun σ2 τ2 fr2 e83 A e85 e87 e99 => ?_))
  show wi_y 60 331 15 [.ref 0, .ref 1, .retAddr 0, .retAddr 0] [.ref 83] _ _ _ _
  have cf3 : CFn σ2 := CFn_e cf2 (fun c _ c1 => fr2 c c1)
  refine i8_y (L' := [.ref 0, .ref 1, .ref 83, .retAddr 0]) c_331_15 rfl (i1_y c_331_16 (i6_y (L' := [.ref 0, .ref 1, .ref 83, .int (wI 0)]) c_331_17 rfl (wi_yo (CFn_w cf3) ?_)))
  rw [uc_s] at e83
  have R : REL (SHs LL 99 99) σ2 0 := REL_0 cf3 (by rw [e83]; rfl) (by rw [e83]; rfl) (by rw [e83]; rfl) (by rw [e83]; rfl) A e85 e87 e99 (by rw [fr2 1 (by omega), uc_n (by decide), fr 1 (by omega), uc_s]; rfl)
  have q := lw_loop (n := LL) hL (LL + 1) 0 (SHs LL 99 99) σ2 τ2 (by omega) (by omega) (by omega) rfl R
  rw [show (7 : Int) * 0 = 0 from rfl] at q
  exact q
theorem lw_run {xs : Nat → Int32} (hL : LL ≤ 3584) : ∃ n h', ab_rs pg_cd pg_sw pg_na pg_mx pg_mc n 60 pg_law 0 (ab_ent [.ref 0] 4) [] (st_h0 LL xs) = some (some (.int 1), h') ∧ ab_n h' ≤ 600001 ∧ ab_t h' ≤ 7302250 := by
  have e0 : hp (SHs LL 0 0) (fun _ k => (xs k.toNat).toInt) (fun _ => z0) = st_h0 LL xs := by
    unfold hp st_h0
    refine Prod.ext rfl (Prod.ext rfl (Prod.ext ?_ (Prod.ext ?_ (Prod.ext ?_ ?_))))
    · funext a
      show (if 1 ≤ a ∧ a ≤ 0 then (lyS[a - 1]?).getD (0, 0) else (0, LL)) = (0, LL)
      rw [if_neg (by omega)]
    · funext a k
      show wI ((xs (Int.toNat (k : Int))).toInt) = xs k
      rw [Int.toNat_natCast]
      exact Int32.ofInt_toInt _
    · rfl
    · rfl
  obtain ⟨n, r, h', hr, S', σ', τ', e, K', hq, ro⟩ := lw_walk (LL := LL) (σ := fun _ k => (xs k.toNat).toInt) (τ := fun _ => z0) hL ⟨Nat.le_refl 1, fun c k => rg_toInt _, fun c k => ⟨by show (-9223372036854775808 : Int) ≤ 0; omega, by show (0 : Int) ≤ 9223372036854775807; omega⟩, trivial⟩
  rw [e0] at hr
  subst hq
  subst e
  have b1 : 0 * 400 ≤ fB S' ∧ fB S' ≤ 1 * 400 := sI_b (by omega) (fun p p0 p1 => by split <;> omega)
  have b2 : 0 * 20 ≤ fT S' ∧ fT S' ≤ 1 * 20 := sI_b (by omega) (fun p p0 p1 => by split <;> omega)
  unfold RO at ro
  exact ⟨n, _, hr, by show S'.1 ≤ 600001; omega, by show S'.2.1 ≤ 7302250; omega⟩
end FIRST
