/-! ===== each abstract step is the machine's (own work) ===== -/
def ab_fl (g : ab_G) (Ts : List Cond) (own : String) (c idx k : Nat) : Prop :=
  Cond.fieldLink own idx (gc_T g c k).1 (gc_T g c k).2.1 (gc_T g c k).2.2.1 ∈ Ts ∨ ∃ host, Cond.fieldLinkNest own idx (gc_T g c k).1 (gc_T g c k).2.1 (gc_T g c k).2.2.1 host ∈ Ts
def ab_tok (ty : FieldType) : Bool := match ty with
  | .int => true
  | .boolean => true
  | .long => true
  | .object _ => true
  | .array _ => true
  | _ => false
def ab_ref (ty : FieldType) : Bool := match ty with
  | .object _ => true
  | .array _ => true
  | _ => false
def ab_fin (g : ab_G) (own : String) (ini : Bool) (c k : Nat) : Prop := (gc_T g c k).2.2.2 = false ∨ ((gc_T g c k).2.2.2 = true ∧ ini = true ∧ (gc_T g c k).1 = own)
def ab_fld (g : ab_G) (Ts : List Cond) (own : String) (c idx k : Nat) : Prop := c < gc_C g ∧ k < gc_F g c ∧ ab_fl g Ts own c idx k
def ab_pfd (g : ab_G) (Ts : List Cond) (own : String) (ini : Bool) (c idx k : Nat) : Prop := c < gc_C g ∧ k < gc_F g c ∧ ((gc_T g c k).2.2.2 = false ∧ ab_fl g Ts own c idx k ∨ ((gc_T g c k).2.2.2 = true ∧ ini = true ∧ (gc_T g c k).1 = own ∧ Cond.fieldLink own idx (gc_T g c k).1 (gc_T g c k).2.1 (gc_T g c k).2.2.1 ∈ Ts))
def ab_wf (g : ab_G) (Ts : List Cond) : Prop := ∀ c, c < gc_C g → (∀ w ∈ u_ws (gc_N g c) (gc_T g c) (gc_F g c), w ∈ Ts) ∧ (∀ k, k < gc_F g c → parseFieldDescriptor (gc_T g c k).2.2.1 = some (gc_Y g c k)) ∧ (∀ a, a < gc_F g c → ∀ b, b < gc_F g c → a ≠ b → (gc_T g c a).2.1 ≠ (gc_T g c b).2.1) ∧ (∀ k, k < gc_F g c → ab_tok (gc_Y g c k) = true)
def ab_jmp (pc : Nat) (z : Int) : Prop := 0 ≤ (pc : Int) + z
/-- what the machine does from an abstract point on -/
def ab_Wc (g : ab_G) (nL : Nat) (p : Program) (l : Launch) (e : Env) (R : Room) (s : State) (m : MethodId) (args : Array Value) (below : List Frame) (meth : Method) (c : Code) (Q : State → Prop) (cells slots : Nat) (q : ab_C) : Prop :=
  ∀ (H : Heap) (locs : List Loc) (ls : Array Slot), ab_Rep g s q.2.2.2 H → va_S (ab_S g) s.heap H locs → ab_L g q.2.1 ls nL → W p l e R s m args below meth c H locs cells slots Q (F0 m q.1 ls (q.2.2.1.map (ab_cv g)))
/-- one place is changed -/
def ab_ch (h h' : ab_H) (i k : Nat) : Prop := ab_n h' = ab_n h ∧ ab_s h' = ab_s h ∧ ∀ a b, ¬ (a = i ∧ b = k) → ab_i h' a b = ab_i h a b ∧ ab_l h' a b = ab_l h a b ∧ ab_r h' a b = ab_r h a b
theorem ab_up_ne {α : Type} {f : Nat → Nat → α} {i k : Nat} {v : α} {a b : Nat} (h : ¬ (a = i ∧ b = k)) : ab_up f i k v a b = f a b := by
  unfold ab_up
  by_cases e : a = i
  · rw [if_pos e, if_neg (fun q => h ⟨e, q⟩)]
  · rw [if_neg e]
theorem ab_up_eq {α : Type} {f : Nat → Nat → α} {i k : Nat} {v : α} : ab_up f i k v i k = v := by simp [ab_up]
theorem ab_ch_i (h : ab_H) (i k : Nat) (v : Int32) : ab_ch h (ab_pi h i k v) i k := ⟨rfl, rfl, fun _ _ q => ⟨ab_up_ne q, rfl, rfl⟩⟩
theorem ab_ch_l (h : ab_H) (i k : Nat) (v : Int64) : ab_ch h (ab_pl h i k v) i k := ⟨rfl, rfl, fun _ _ q => ⟨rfl, ab_up_ne q, rfl⟩⟩
theorem ab_ch_r (h : ab_H) (i k : Nat) (v : Option Nat) : ab_ch h (ab_pr h i k v) i k := ⟨rfl, rfl, fun _ _ q => ⟨rfl, rfl, ab_up_ne q⟩⟩
theorem ab_ch_fv {g : ab_G} {h h' : ab_H} {i k a b : Nat} (hc : ab_ch h h' i k) (q : ¬ (a = i ∧ b = k)) (ty : FieldType) : ab_fv g h' a ty b = ab_fv g h a ty b := by
  obtain ⟨h1, h2, h3⟩ := hc.2.2 a b q
  unfold ab_fv
  rw [h1, h2, h3]
theorem ab_Rep_ch {g : ab_G} {s : State} {h h' : ab_H} {H H' : Heap} {i k : Nat} (hR : ab_Rep g s h H) (h0 : 0 < i) (hc : ab_ch h h' i k) (z : H'.size = H.size) (oq : ∀ q, q ≠ ab_ad g i → H'[q]? = H[q]?) (hcell : ab_cell g h' H' i) : ab_Rep g s h' H' :=
  ab_Rep_put hR h0 hc.1 hc.2.1 (fun j e => funext fun x => (hc.2.2 j x (fun q => e q.1)).1) (fun j e => funext fun x => (hc.2.2 j x (fun q => e q.1)).2.1) (fun j e => funext fun x => (hc.2.2 j x (fun q => e q.1)).2.2) z oq hcell
theorem ab_S_put {g : ab_G} {H0 H H' : Heap} {locs : List Loc} {i o : Nat} (h0 : 0 < i) (hS : va_S (ab_S g) H0 H locs) (z : H'.size = H.size) (oq : ∀ q, q ≠ ab_ad g i → H'[q]? = H[q]?) : va_S (ab_S g) H0 H' (locs ++ [⟨ab_ad g i, o⟩]) := hS.put z oq (show gc_z g < ab_ad g i by rw [ab_ad_pos h0]; omega)
theorem ab_S_new {g : ab_G} {H0 H H' : Heap} {locs : List Loc} (hS : va_S (ab_S g) H0 H locs) (z : H'.size = H.size + 1) (oq : ∀ q, q < H.size → H'[q]? = H[q]?) : va_S (ab_S g) H0 H' locs :=
  ⟨Nat.le_trans hS.1 (by omega), fun x h1 h2 => (oq x (Nat.lt_of_lt_of_le h1 hS.1)).trans (hS.2.1 x h1 h2), hS.2.2⟩
section ABOP
variable {g : ab_G} {Ts : List Cond} {nL : Nat} {p : Program} {l : Launch} {e : Env} {R : Room} {s : State} {m : MethodId} {args : Array Value} {below : List Frame} {meth : Method} {c : Code} {Q : State → Prop} {cells slots : Nat} {cc : ByteArray} {pc pc' : Nat} {L st : List Value} {h : ab_H} {q : ab_C}
theorem oq_ii {f : Int32 → Int32 → Option Value} (hs : ab_ii f pc' L st h = some q)
    (row : ∀ (H : Heap) (locs : List Loc) (ls : Array Slot) (rest : List Value) (x y : Int32) (v : Value), f x y = some v → W p l e R s m args below meth c H locs cells slots Q (F0 m pc' ls (ab_cv g v :: rest)) → W p l e R s m args below meth c H locs cells slots Q (F0 m pc ls (.int y :: .int x :: rest)))
    (k : ab_Wc g nL p l e R s m args below meth c Q cells slots q) : ab_Wc g nL p l e R s m args below meth c Q cells slots (pc, L, st, h) := by
  unfold ab_ii at hs
  split at hs
  · rename_i y x r
    cases hf : f x y with
    | none => rw [hf] at hs; cases hs
    | some v =>
      rw [hf] at hs
      cases hs
      intro H locs ls hR hS hL
      exact row H locs ls _ x y v hf (k H locs ls hR hS hL)
  · cases hs
theorem oq_ll {f : Int64 → Int64 → Option Value} (hs : ab_ll f pc' L st h = some q)
    (row : ∀ (H : Heap) (locs : List Loc) (ls : Array Slot) (rest : List Value) (x y : Int64) (v : Value), f x y = some v → W p l e R s m args below meth c H locs cells slots Q (F0 m pc' ls (ab_cv g v :: rest)) → W p l e R s m args below meth c H locs cells slots Q (F0 m pc ls (.long y :: .long x :: rest)))
    (k : ab_Wc g nL p l e R s m args below meth c Q cells slots q) : ab_Wc g nL p l e R s m args below meth c Q cells slots (pc, L, st, h) := by
  unfold ab_ll at hs
  split at hs
  · rename_i y x r
    cases hf : f x y with
    | none => rw [hf] at hs; cases hs
    | some v =>
      rw [hf] at hs
      cases hs
      intro H locs ls hR hS hL
      exact row H locs ls _ x y v hf (k H locs ls hR hS hL)
  · cases hs
theorem oq_i1 {f : Int32 → Value} (hs : ab_i1 f pc' L st h = some q)
    (row : ∀ (H : Heap) (locs : List Loc) (ls : Array Slot) (rest : List Value) (x : Int32), W p l e R s m args below meth c H locs cells slots Q (F0 m pc' ls (ab_cv g (f x) :: rest)) → W p l e R s m args below meth c H locs cells slots Q (F0 m pc ls (.int x :: rest)))
    (k : ab_Wc g nL p l e R s m args below meth c Q cells slots q) : ab_Wc g nL p l e R s m args below meth c Q cells slots (pc, L, st, h) := by
  unfold ab_i1 at hs
  split at hs
  · rename_i x r
    cases hs
    intro H locs ls hR hS hL
    exact row H locs ls _ x (k H locs ls hR hS hL)
  · cases hs
theorem oq_l1 {f : Int64 → Value} (hs : ab_l1 f pc' L st h = some q)
    (row : ∀ (H : Heap) (locs : List Loc) (ls : Array Slot) (rest : List Value) (x : Int64), W p l e R s m args below meth c H locs cells slots Q (F0 m pc' ls (ab_cv g (f x) :: rest)) → W p l e R s m args below meth c H locs cells slots Q (F0 m pc ls (.long x :: rest)))
    (k : ab_Wc g nL p l e R s m args below meth c Q cells slots q) : ab_Wc g nL p l e R s m args below meth c Q cells slots (pc, L, st, h) := by
  unfold ab_l1 at hs
  split at hs
  · rename_i x r
    cases hs
    intro H locs ls hR hS hL
    exact row H locs ls _ x (k H locs ls hR hS hL)
  · cases hs
theorem oq_c {v : Value} (hs : some (pc', L, v :: st, h) = some q)
    (row : ∀ (H : Heap) (locs : List Loc) (ls : Array Slot) (rest : List Value), W p l e R s m args below meth c H locs cells slots Q (F0 m pc' ls (ab_cv g v :: rest)) → W p l e R s m args below meth c H locs cells slots Q (F0 m pc ls rest))
    (k : ab_Wc g nL p l e R s m args below meth c Q cells slots q) : ab_Wc g nL p l e R s m args below meth c Q cells slots (pc, L, st, h) := by
  cases hs
  intro H locs ls hR hS hL
  exact row H locs ls _ (k H locs ls hR hS hL)
theorem oq_ldi {i : Nat} (hs : ab_ldi i pc' L st h = some q)
    (row : ∀ (H : Heap) (locs : List Loc) (ls : Array Slot) (rest : List Value) (x : Int32), ls[i]? = some (.val (.int x)) → W p l e R s m args below meth c H locs cells slots Q (F0 m pc' ls (.int x :: rest)) → W p l e R s m args below meth c H locs cells slots Q (F0 m pc ls rest))
    (k : ab_Wc g nL p l e R s m args below meth c Q cells slots q) : ab_Wc g nL p l e R s m args below meth c Q cells slots (pc, L, st, h) := by
  unfold ab_ldi at hs
  split at hs
  · rename_i x hx
    cases hs
    intro H locs ls hR hS hL
    exact row H locs ls _ x (hL.2.2.2 i _ hx rfl) (k H locs ls hR hS hL)
  · cases hs
theorem oq_ldl {i : Nat} (hs : ab_ldl i pc' L st h = some q)
    (row : ∀ (H : Heap) (locs : List Loc) (ls : Array Slot) (rest : List Value) (x : Int64), ls[i]? = some (.val (.long x)) → W p l e R s m args below meth c H locs cells slots Q (F0 m pc' ls (.long x :: rest)) → W p l e R s m args below meth c H locs cells slots Q (F0 m pc ls rest))
    (k : ab_Wc g nL p l e R s m args below meth c Q cells slots q) : ab_Wc g nL p l e R s m args below meth c Q cells slots (pc, L, st, h) := by
  unfold ab_ldl at hs
  split at hs
  · rename_i x hx
    cases hs
    intro H locs ls hR hS hL
    exact row H locs ls _ x (hL.2.2.2 i _ hx rfl) (k H locs ls hR hS hL)
  · cases hs
theorem oq_lda {i : Nat} (hs : ab_lda i pc' L st h = some q)
    (row : ∀ (H : Heap) (locs : List Loc) (ls : Array Slot) (rest : List Value) (x : Nat), ls[i]? = some (.val (.ref x)) → W p l e R s m args below meth c H locs cells slots Q (F0 m pc' ls (.ref x :: rest)) → W p l e R s m args below meth c H locs cells slots Q (F0 m pc ls rest))
    (rowN : ∀ (H : Heap) (locs : List Loc) (ls : Array Slot) (rest : List Value), ls[i]? = some (.val .null) → W p l e R s m args below meth c H locs cells slots Q (F0 m pc' ls (.null :: rest)) → W p l e R s m args below meth c H locs cells slots Q (F0 m pc ls rest))
    (k : ab_Wc g nL p l e R s m args below meth c Q cells slots q) : ab_Wc g nL p l e R s m args below meth c Q cells slots (pc, L, st, h) := by
  unfold ab_lda at hs
  split at hs
  · rename_i x hx
    cases hs
    intro H locs ls hR hS hL
    exact row H locs ls _ _ (hL.2.2.2 i _ hx rfl) (k H locs ls hR hS hL)
  · rename_i hx
    cases hs
    intro H locs ls hR hS hL
    exact rowN H locs ls _ (hL.2.2.2 i _ hx rfl) (k H locs ls hR hS hL)
  · cases hs
abbrev oq_f1 (g : ab_G) (L : List Value) (i : Nat) (v : Value) : List (Nat × Value) := (i, ab_cv g v) :: (ab_prs g L).filter (fun q => !(q.1 == i) && !(q.1 + 1 == i && q.2.category == 2))
abbrev oq_f2 (g : ab_G) (L : List Value) (i : Nat) (v : Value) : List (Nat × Value) := (i, ab_cv g v) :: (ab_prs g L).filter (fun q => !(q.1 == i) && (!(q.1 == i + 1) && !(q.1 + 1 == i && q.2.category == 2)))
theorem oq_sti {i : Nat} (hs : ab_sti i pc' L st h = some q)
    (row : ∀ (H : Heap) (locs : List Loc) (ls : Array Slot) (rest : List Value) (x : Int32), lv_has ls nL (ab_prs g L) → i < nL → (∀ ls' : Array Slot, lv_has ls' nL (oq_f1 g L i (.int x)) → W p l e R s m args below meth c H locs cells slots Q (F0 m pc' ls' rest)) → W p l e R s m args below meth c H locs cells slots Q (F0 m pc ls (.int x :: rest)))
    (k : ab_Wc g nL p l e R s m args below meth c Q cells slots q) : ab_Wc g nL p l e R s m args below meth c Q cells slots (pc, L, st, h) := by
  unfold ab_sti at hs
  split at hs
  · rename_i x r
    cases hf : ab_st1 L i (.int x) with
    | none => rw [hf] at hs; cases hs
    | some L' =>
      rw [hf] at hs
      cases hs
      intro H locs ls hR hS hL
      exact row H locs ls _ x (ab_L_has hL) (ab_st1_lt hL.1 hf) (fun ls' h' => k H locs ls' hR hS (ab_L_st1 hL.1 hf h').2)
  · cases hs
theorem oq_stl {i : Nat} (hs : ab_stl i pc' L st h = some q)
    (row : ∀ (H : Heap) (locs : List Loc) (ls : Array Slot) (rest : List Value) (x : Int64), lv_has ls nL (ab_prs g L) → i + 1 < nL → (∀ ls' : Array Slot, lv_has ls' nL (oq_f2 g L i (.long x)) → W p l e R s m args below meth c H locs cells slots Q (F0 m pc' ls' rest)) → W p l e R s m args below meth c H locs cells slots Q (F0 m pc ls (.long x :: rest)))
    (k : ab_Wc g nL p l e R s m args below meth c Q cells slots q) : ab_Wc g nL p l e R s m args below meth c Q cells slots (pc, L, st, h) := by
  unfold ab_stl at hs
  split at hs
  · rename_i x r
    cases hf : ab_st2 L i (.long x) with
    | none => rw [hf] at hs; cases hs
    | some L' =>
      rw [hf] at hs
      cases hs
      intro H locs ls hR hS hL
      exact row H locs ls _ x (ab_L_has hL) (ab_st2_lt hL.1 hf) (fun ls' h' => k H locs ls' hR hS (ab_L_st2 hL.1 hf h'))
  · cases hs
theorem oq_sta {i : Nat} (hs : ab_sta i pc' L st h = some q)
    (row : ∀ (H : Heap) (locs : List Loc) (ls : Array Slot) (rest : List Value) (x : Nat), lv_has ls nL (ab_prs g L) → i < nL → (∀ ls' : Array Slot, lv_has ls' nL (oq_f1 g L i (.ref x)) → W p l e R s m args below meth c H locs cells slots Q (F0 m pc' ls' rest)) → W p l e R s m args below meth c H locs cells slots Q (F0 m pc ls (.ref (ab_ad g x) :: rest)))
    (rowN : ∀ (H : Heap) (locs : List Loc) (ls : Array Slot) (rest : List Value), lv_has ls nL (ab_prs g L) → i < nL → (∀ ls' : Array Slot, lv_has ls' nL (oq_f1 g L i .null) → W p l e R s m args below meth c H locs cells slots Q (F0 m pc' ls' rest)) → W p l e R s m args below meth c H locs cells slots Q (F0 m pc ls (.null :: rest)))
    (k : ab_Wc g nL p l e R s m args below meth c Q cells slots q) : ab_Wc g nL p l e R s m args below meth c Q cells slots (pc, L, st, h) := by
  unfold ab_sta at hs
  split at hs
  · rename_i x r
    cases hf : ab_st1 L i (.ref x) with
    | none => rw [hf] at hs; cases hs
    | some L' =>
      rw [hf] at hs
      cases hs
      intro H locs ls hR hS hL
      exact row H locs ls _ x (ab_L_has hL) (ab_st1_lt hL.1 hf) (fun ls' h' => k H locs ls' hR hS (ab_L_st1 hL.1 hf h').2)
  · rename_i r
    cases hf : ab_st1 L i .null with
    | none => rw [hf] at hs; cases hs
    | some L' =>
      rw [hf] at hs
      cases hs
      intro H locs ls hR hS hL
      exact rowN H locs ls _ (ab_L_has hL) (ab_st1_lt hL.1 hf) (fun ls' h' => k H locs ls' hR hS (ab_L_st1 hL.1 hf h').2)
  · cases hs
theorem oq_inc {i : Nat} {z : Int} (hx : p.tables.exec = Jvm.exec) (hb : c.code = cc) (hd : decode cc pc = .ok (.iinc i z, 3)) (hs : ab_inc i z (pc + 3) L st h = some q)
    (k : ab_Wc g nL p l e R s m args below meth c Q cells slots q) : ab_Wc g nL p l e R s m args below meth c Q cells slots (pc, L, st, h) := by
  unfold ab_inc at hs
  split at hs
  · rename_i x hL0
    cases hf : ab_st1 L i (.int (x + Int32.ofInt z)) with
    | none => rw [hf] at hs; cases hs
    | some L' =>
      rw [hf] at hs
      cases hs
      intro H locs ls hR hS hL
      obtain ⟨j, hj⟩ := List.getElem?_of_mem (ab_prs_mem (g := g) (L := L) (q := (i, .int x)) |>.mpr ⟨.int x, hL0, rfl, rfl⟩)
      exact lv_iinc hx hb hd (ab_L_has hL) hj rfl (ab_st1_lt hL.1 hf) rfl (fun ls' h' => k H locs ls' hR hS (ab_L_st1 hL.1 hf h').2)
  · cases hs
theorem oq_dup (hx : p.tables.exec = Jvm.exec) (hb : c.code = cc) (hd : decode cc pc = .ok (.dup, 1)) (hs : ab_dup (pc + 1) L st h = some q)
    (k : ab_Wc g nL p l e R s m args below meth c Q cells slots q) : ab_Wc g nL p l e R s m args below meth c Q cells slots (pc, L, st, h) := by
  unfold ab_dup at hs
  split at hs
  · cases hs
    intro H locs ls hR hS hL
    exact lv_dup hx hb hd rfl (k H locs ls hR hS hL)
  · cases hs
    intro H locs ls hR hS hL
    exact lv_dup hx hb hd rfl (k H locs ls hR hS hL)
  · cases hs
theorem oq_dup2 (hx : p.tables.exec = Jvm.exec) (hb : c.code = cc) (hd : decode cc pc = .ok (.dup2, 1)) (hs : ab_dup2 (pc + 1) L st h = some q)
    (k : ab_Wc g nL p l e R s m args below meth c Q cells slots q) : ab_Wc g nL p l e R s m args below meth c Q cells slots (pc, L, st, h) := by
  unfold ab_dup2 at hs
  split at hs
  · cases hs
    intro H locs ls hR hS hL
    exact lv_dup2_11 hx hb hd rfl rfl (k H locs ls hR hS hL)
  · cases hs
    intro H locs ls hR hS hL
    exact lv_dup2_11 hx hb hd rfl rfl (k H locs ls hR hS hL)
  · cases hs
    intro H locs ls hR hS hL
    exact lv_dup2_2 hx hb hd rfl (k H locs ls hR hS hL)
  · cases hs
theorem oq_pop (hx : p.tables.exec = Jvm.exec) (hb : c.code = cc) (hd : decode cc pc = .ok (.pop, 1)) (hs : ab_pop (pc + 1) L st h = some q)
    (k : ab_Wc g nL p l e R s m args below meth c Q cells slots q) : ab_Wc g nL p l e R s m args below meth c Q cells slots (pc, L, st, h) := by
  unfold ab_pop at hs
  split at hs
  · cases hs
    intro H locs ls hR hS hL
    exact lv_pop hx hb hd rfl (k H locs ls hR hS hL)
  · cases hs
    intro H locs ls hR hS hL
    exact lv_pop hx hb hd rfl (k H locs ls hR hS hL)
  · cases hs
theorem oq_if {i tgt nxt : Nat} (hs : ab_if i tgt nxt L st h = some q)
    (row : ∀ (H : Heap) (locs : List Loc) (ls : Array Slot) (rest : List Value) (x : Int32), (ab_cond i x 0 = true → W p l e R s m args below meth c H locs cells slots Q (F0 m tgt ls rest)) → (ab_cond i x 0 = false → W p l e R s m args below meth c H locs cells slots Q (F0 m nxt ls rest)) → W p l e R s m args below meth c H locs cells slots Q (F0 m pc ls (.int x :: rest)))
    (k : ab_Wc g nL p l e R s m args below meth c Q cells slots q) : ab_Wc g nL p l e R s m args below meth c Q cells slots (pc, L, st, h) := by
  unfold ab_if at hs
  split at hs
  · rename_i x r
    cases hs
    intro H locs ls hR hS hL
    have kk := k H locs ls hR hS hL
    refine row H locs ls _ x (fun h1 => ?_) (fun h1 => ?_) <;> (rw [h1] at kk; exact kk)
  · cases hs
theorem oq_cmp {i tgt nxt : Nat} (hs : ab_cmp i tgt nxt L st h = some q)
    (row : ∀ (H : Heap) (locs : List Loc) (ls : Array Slot) (rest : List Value) (x y : Int32), (ab_cond i x y = true → W p l e R s m args below meth c H locs cells slots Q (F0 m tgt ls rest)) → (ab_cond i x y = false → W p l e R s m args below meth c H locs cells slots Q (F0 m nxt ls rest)) → W p l e R s m args below meth c H locs cells slots Q (F0 m pc ls (.int y :: .int x :: rest)))
    (k : ab_Wc g nL p l e R s m args below meth c Q cells slots q) : ab_Wc g nL p l e R s m args below meth c Q cells slots (pc, L, st, h) := by
  unfold ab_cmp at hs
  split at hs
  · rename_i y x r
    cases hs
    intro H locs ls hR hS hL
    have kk := k H locs ls hR hS hL
    refine row H locs ls _ x y (fun h1 => ?_) (fun h1 => ?_) <;> (rw [h1] at kk; exact kk)
  · cases hs
theorem oq_nul {tn ts : Nat} (hs : ab_nul tn ts L st h = some q)
    (rowN : ∀ (H : Heap) (locs : List Loc) (ls : Array Slot) (rest : List Value), W p l e R s m args below meth c H locs cells slots Q (F0 m tn ls rest) → W p l e R s m args below meth c H locs cells slots Q (F0 m pc ls (.null :: rest)))
    (row : ∀ (H : Heap) (locs : List Loc) (ls : Array Slot) (rest : List Value) (x : Nat), W p l e R s m args below meth c H locs cells slots Q (F0 m ts ls rest) → W p l e R s m args below meth c H locs cells slots Q (F0 m pc ls (.ref x :: rest)))
    (k : ab_Wc g nL p l e R s m args below meth c Q cells slots q) : ab_Wc g nL p l e R s m args below meth c Q cells slots (pc, L, st, h) := by
  unfold ab_nul at hs
  split at hs
  · cases hs
    intro H locs ls hR hS hL
    exact rowN H locs ls _ (k H locs ls hR hS hL)
  · cases hs
    intro H locs ls hR hS hL
    exact row H locs ls _ _ (k H locs ls hR hS hL)
  · cases hs
theorem oq_sw {w : Int × Int × Int × List Int} {len : Nat} (hx : p.tables.exec = Jvm.exec) (hb : c.code = cc) (hd : decode cc pc = .ok (.tableswitch w.1 w.2.1 w.2.2.1 w.2.2.2.toArray, len)) (hj : 0 ≤ (pc : Int) + w.1) (hjs : ∀ o ∈ w.2.2.2, 0 ≤ (pc : Int) + o) (hs : ab_sw pc w L st h = some q)
    (k : ab_Wc g nL p l e R s m args below meth c Q cells slots q) : ab_Wc g nL p l e R s m args below meth c Q cells slots (pc, L, st, h) := by
  unfold ab_sw at hs
  split at hs
  · rename_i x r
    split at hs
    · rename_i hc
      cases hs
      intro H locs ls hR hS hL
      exact lv_tableOut hx hb hd hc (by unfold ab_to; omega) (k H locs ls hR hS hL)
    · rename_i hc
      split at hs
      · rename_i o ho
        cases hs
        intro H locs ls hR hS hL
        exact lv_tableIn hx hb hd (fun z => hc (Or.inl z)) (fun z => hc (Or.inr z)) (by rw [List.getElem?_toArray]; exact ho) (by have := hjs o (List.mem_of_getElem? ho); unfold ab_to; omega) (k H locs ls hR hS hL)
      · cases hs
  · cases hs
end ABOP
