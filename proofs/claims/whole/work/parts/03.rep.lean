/-! ===== the abstract heap and the machine's: what stands for what (own work) ===== -/
/-- the fixed part: class names, field tables, how many fields, their types, how many classes, which kinds of arrays; class ids and slots, ids of array classes; the script's address, the address ahead of the first cell, the text's -/
abbrev ab_G : Type := (Nat → String) × (Nat → u_T) × (Nat → Nat) × (Nat → Nat → FieldType) × Nat × (Nat → Bool) × va_G × (Nat → ClassId) × Nat × Nat × Nat
def gc_N (g : ab_G) : Nat → String := g.1
def gc_T (g : ab_G) : Nat → u_T := g.2.1
def gc_F (g : ab_G) : Nat → Nat := g.2.2.1
def gc_Y (g : ab_G) : Nat → Nat → FieldType := g.2.2.2.1
def gc_C (g : ab_G) : Nat := g.2.2.2.2.1
def gc_K (g : ab_G) : Nat → Bool := g.2.2.2.2.2.1
def gc_D (g : ab_G) : va_G := g.2.2.2.2.2.2.1
def gc_A (g : ab_G) : Nat → ClassId := g.2.2.2.2.2.2.2.1
def gc_b (g : ab_G) : Nat := g.2.2.2.2.2.2.2.2.1
def gc_z (g : ab_G) : Nat := g.2.2.2.2.2.2.2.2.2.1
def gc_s (g : ab_G) : Nat := g.2.2.2.2.2.2.2.2.2.2
def ab_ad (g : ab_G) (i : Nat) : Nat := if i = 0 then gc_b g else gc_z g + i
def ab_cv (g : ab_G) : Value → Value
  | .ref i => .ref (ab_ad g i)
  | .retAddr _ => .ref (gc_s g)
  | v => v
def ab_ty (g : ab_G) (kd : Nat) : FieldType := match kd with
  | 0 => .int
  | 1 => .long
  | 2 => .boolean
  | k + 3 => .object (gc_N g k)
def ab_fv (g : ab_G) (h : ab_H) (i : Nat) (ty : FieldType) (k : Nat) : Value := match ty with
  | .long => .long (ab_l h i k)
  | .object _ => va_rf ((ab_r h i k).map (ab_ad g))
  | .array _ => va_rf ((ab_r h i k).map (ab_ad g))
  | _ => .int (ab_i h i k)
def ab_obj (g : ab_G) (h : ab_H) (H : Heap) (i c : Nat) : Prop := c < gc_C g ∧ t_OB (ab_ad g i) ((gc_D g).1 c) (gc_F g c) ((gc_D g).2 c) H (fun k => ab_fv g h i (gc_Y g c k) k)
def ab_arr (g : ab_G) (h : ab_H) (H : Heap) (i kd : Nat) : Prop := gc_K g kd = true ∧ H[ab_ad g i]? = some (arrV (gc_A g kd) (ab_s h i).2 (fun j => ab_fv g h i (ab_ty g kd) j))
def ab_cell (g : ab_G) (h : ab_H) (H : Heap) (i : Nat) : Prop := (100 ≤ (ab_s h i).1 → ab_obj g h H i ((ab_s h i).1 - 100)) ∧ ((ab_s h i).1 < 100 → ab_arr g h H i (ab_s h i).1)
def ab_Rep (g : ab_G) (s : State) (h : ab_H) (H : Heap) : Prop :=
  H.size = gc_z g + ab_n h ∧ gc_b g ≤ gc_z g ∧ 0 < ab_n h ∧ va_X (gc_b g) (ab_s h 0).2 (ab_i h 0) s H ∧ ∀ i, 0 < i → i < ab_n h → ab_cell g h H i
def ab_K (g : ab_G) (s : State) : Prop :=
  (∀ c, c < gc_C g → u_Kn s (gc_N g c) (gc_T g c) (gc_F g c) ((gc_D g).1 c) ((gc_D g).2 c)) ∧ (∀ kd, gc_K g kd = true → ArrOfT s (gc_A g kd) (ab_ty g kd) ∧ va_RA s (gc_A g kd) (ab_ty g kd)) ∧ (∀ c, gc_K g (3 + c) = true → c < gc_C g ∧ va_AO (gc_N g c) s)
def ab_S (g : ab_G) : Nat → Prop := fun q => gc_z g < q
theorem ab_ad_pos {g : ab_G} {i : Nat} (h : 0 < i) : ab_ad g i = gc_z g + i := by unfold ab_ad; rw [if_neg (by omega)]
theorem ab_obj_at {g : ab_G} {s : State} {h : ab_H} {H : Heap} {i c : Nat} (hR : ab_Rep g s h H) (ho : ab_ok h i (100 + c) = true) : ab_obj g h H i c := by
  obtain ⟨h1, h2, h3⟩ := ab_ok_iff ho
  have h4 := (hR.2.2.2.2 i h1 h2).1 (by omega)
  rw [h3, Nat.add_sub_cancel_left] at h4
  exact h4
theorem ab_arr_at {g : ab_G} {s : State} {h : ab_H} {H : Heap} {i kd : Nat} (hR : ab_Rep g s h H) (ho : ab_ok h i kd = true) (hk : kd < 100) : ab_arr g h H i kd := by
  obtain ⟨h1, h2, h3⟩ := ab_ok_iff ho
  have h4 := (hR.2.2.2.2 i h1 h2).2 (by omega)
  rw [h3] at h4
  exact h4
theorem ab_obj_kept {g : ab_G} {h h' : ab_H} {H H' : Heap} {i c : Nat} (hi : ab_i h' i = ab_i h i) (hl : ab_l h' i = ab_l h i) (hr : ab_r h' i = ab_r h i) (hH : H'[ab_ad g i]? = H[ab_ad g i]?) (ho : ab_obj g h H i c) : ab_obj g h' H' i c := by
  refine ⟨ho.1, (ho.2.kept hH).to (fun k _ => ?_)⟩
  unfold ab_fv
  rw [hi, hl, hr]
theorem ab_arr_kept {g : ab_G} {h h' : ab_H} {H H' : Heap} {i kd : Nat} (hs : ab_s h' i = ab_s h i) (hi : ab_i h' i = ab_i h i) (hl : ab_l h' i = ab_l h i) (hr : ab_r h' i = ab_r h i) (hH : H'[ab_ad g i]? = H[ab_ad g i]?) (ho : ab_arr g h H i kd) : ab_arr g h' H' i kd := by
  refine ⟨ho.1, ?_⟩
  rw [hH, ho.2, hs]
  congr 2
  funext j
  unfold ab_fv
  rw [hi, hl, hr]
/-- one cell is written: the others stay -/
theorem ab_Rep_put {g : ab_G} {s : State} {h h' : ab_H} {H H' : Heap} {i : Nat} (hR : ab_Rep g s h H) (h0 : 0 < i) (hn : ab_n h' = ab_n h) (hs : ab_s h' = ab_s h) (hi : ∀ j, j ≠ i → ab_i h' j = ab_i h j) (hl : ∀ j, j ≠ i → ab_l h' j = ab_l h j) (hr : ∀ j, j ≠ i → ab_r h' j = ab_r h j)
    (z : H'.size = H.size) (oq : ∀ q, q ≠ ab_ad g i → H'[q]? = H[q]?) (hc : ab_cell g h' H' i) : ab_Rep g s h' H' := by
  obtain ⟨r1, r2, r3, r4, r5⟩ := hR
  refine ⟨by rw [z, hn]; exact r1, r2, by rw [hn]; exact r3, ?_, fun j hj hjn => ?_⟩
  · rw [hs, hi 0 (by omega)]
    exact r4.kept (oq _ (by rw [ab_ad_pos h0]; omega))
  · by_cases e : j = i
    · rw [e]; exact hc
    · have a := r5 j hj (by rw [← hn]; exact hjn)
      have o := oq (ab_ad g j) (by rw [ab_ad_pos h0, ab_ad_pos hj]; omega)
      refine ⟨fun q => ?_, fun q => ?_⟩
      · rw [hs] at q ⊢
        exact ab_obj_kept (hi j e) (hl j e) (hr j e) o (a.1 q)
      · rw [hs] at q ⊢
        exact ab_arr_kept (by rw [hs]) (hi j e) (hl j e) (hr j e) o (a.2 q)
/-- a cell is made behind the others -/
theorem ab_Rep_new {g : ab_G} {s : State} {h : ab_H} {H H' : Heap} {kd len sl : Nat} (hR : ab_Rep g s h H) (z : H'.size = H.size + 1) (oq : ∀ q, q < H.size → H'[q]? = H[q]?) (hc : ab_cell g (ab_new h kd len sl) H' (ab_n h)) : ab_Rep g s (ab_new h kd len sl) H' := by
  obtain ⟨r1, r2, r3, r4, r5⟩ := hR
  have e0 : ∀ j, j ≠ ab_n h → ab_s (ab_new h kd len sl) j = ab_s h j ∧ ab_i (ab_new h kd len sl) j = ab_i h j ∧ ab_l (ab_new h kd len sl) j = ab_l h j ∧ ab_r (ab_new h kd len sl) j = ab_r h j := by
    intro j hj
    have hj' : ¬ j = h.1 := hj
    refine ⟨?_, ?_, ?_, ?_⟩ <;> simp [ab_new, ab_s, ab_i, ab_l, ab_r, hj']
  refine ⟨by rw [z, r1]; show _ = gc_z g + (ab_n h + 1); omega, r2, by show 0 < ab_n h + 1; omega, ?_, fun j hj hjn => ?_⟩
  · obtain ⟨a1, a2, -⟩ := e0 0 (by omega)
    rw [a1, a2]
    exact r4.kept (oq _ (by omega))
  · by_cases e : j = ab_n h
    · rw [e]; exact hc
    · have hjn' : j < ab_n h + 1 := hjn
      have a := r5 j hj (by omega)
      have o := oq (ab_ad g j) (by rw [ab_ad_pos hj, r1]; omega)
      obtain ⟨a1, a2, a3, a4⟩ := e0 j e
      refine ⟨fun q => ?_, fun q => ?_⟩
      · rw [a1] at q ⊢
        exact ab_obj_kept a2 a3 a4 o (a.1 q)
      · rw [a1] at q ⊢
        exact ab_arr_kept a1 a2 a3 a4 o (a.2 q)
theorem ab_K_moved {g : ab_G} {u U : State} (hvm : u.vm.Alike U.vm) (h : ab_K g u) : ab_K g U :=
  ⟨fun c hc => u_Kn_moved hvm (h.1 c hc), fun kd hk => ⟨arrOfT_moved hvm (h.2.1 kd hk).1, (h.2.1 kd hk).2.moved hvm⟩, fun c hc => ⟨(h.2.2 c hc).1, (h.2.2 c hc).2.moved hvm⟩⟩
theorem ab_Rep_moved {g : ab_G} {u U : State} {h : ab_H} {H : Heap} (hvm : u.vm.Alike U.vm) (hR : ab_Rep g u h H) : ab_Rep g U h H :=
  ⟨hR.1, hR.2.1, hR.2.2.1, hR.2.2.2.1.moved hvm, hR.2.2.2.2⟩
/-! the locals -/
def ab_al (v : Value) : Bool := match v with
  | .int _ => true
  | .long _ => true
  | .null => true
  | .ref _ => true
  | _ => false
def ab_L (g : ab_G) (L : List Value) (ls : Array Slot) (nL : Nat) : Prop := L.length ≤ nL ∧ ls.size = nL ∧ lv_wf ls ∧ ∀ (k : Nat) (v : Value), L[k]? = some v → ab_al v = true → ls[k]? = some (.val (ab_cv g v))
theorem ab_cv_cat (g : ab_G) {v : Value} : (ab_cv g v).category = v.category := by cases v <;> rfl
def ab_prs (g : ab_G) (L : List Value) : List (Nat × Value) := (L.zipIdx.filter fun q => ab_al q.1).map fun q => (q.2, ab_cv g q.1)
theorem ab_prs_mem {g : ab_G} {L : List Value} {q : Nat × Value} : q ∈ ab_prs g L ↔ ∃ v, L[q.1]? = some v ∧ ab_al v = true ∧ q.2 = ab_cv g v := by
  unfold ab_prs
  rw [List.mem_map]
  constructor
  · rintro ⟨⟨v, k⟩, hm, rfl⟩
    rw [List.mem_filter] at hm
    exact ⟨v, by simpa [List.mk_mem_zipIdx_iff_getElem?] using hm.1, hm.2, rfl⟩
  · rintro ⟨v, h1, h2, h3⟩
    exact ⟨(v, q.1), List.mem_filter.mpr ⟨by simpa [List.mk_mem_zipIdx_iff_getElem?] using h1, h2⟩, by rw [← h3]⟩
theorem ab_L_has {g : ab_G} {L : List Value} {ls : Array Slot} {nL : Nat} (h : ab_L g L ls nL) : lv_has ls nL (ab_prs g L) := by
  refine ⟨h.2.1, h.2.2.1, fun q hq => ?_⟩
  obtain ⟨v, h1, h2, h3⟩ := ab_prs_mem.mp hq
  rw [h3]
  exact h.2.2.2 q.1 v h1 h2
theorem ab_L_st1 {g : ab_G} {L L' : List Value} {ls' : Array Slot} {nL k : Nat} {v : Value} (hlen : L.length ≤ nL) (hst : ab_st1 L k v = some L') (h : lv_has ls' nL ((k, ab_cv g v) :: (ab_prs g L).filter (fun q => !(q.1 == k) && !(q.1 + 1 == k && q.2.category == 2)))) : k < nL ∧ ab_L g L' ls' nL := by
  unfold ab_st1 at hst
  split at hst
  · cases hst
  · rename_i hlg
    split at hst
    · rename_i hk
      cases hst
      refine ⟨by omega, by rw [List.length_set]; exact hlen, h.1, h.2.1, fun j w hj hw => ?_⟩
      by_cases e : j = k
      · subst e
        rw [List.getElem?_set_self hk] at hj
        cases hj
        exact h.2.2 _ List.mem_cons_self
      · rw [List.getElem?_set_ne (by omega)] at hj
        refine h.2.2 (j, ab_cv g w) (List.mem_cons_of_mem _ (List.mem_filter.mpr ⟨ab_prs_mem.mpr ⟨w, hj, hw, rfl⟩, ?_⟩))
        have hn : ¬ (j + 1 = k ∧ w.category = 2) := by
          rintro ⟨e1, e2⟩
          subst e1
          cases w <;> simp_all [Value.category, ab_lg, ab_al]
        simp only [ab_cv_cat]
        simp only [Bool.and_eq_true, Bool.not_eq_true', beq_eq_false_iff_ne, Bool.and_eq_false_iff]
        refine ⟨e, ?_⟩
        by_cases e1 : j + 1 = k
        · exact Or.inr (fun q => hn ⟨e1, q⟩)
        · exact Or.inl e1
    · cases hst
theorem ab_L_st2 {g : ab_G} {L L' : List Value} {ls' : Array Slot} {nL k : Nat} {v : Value} (hlen : L.length ≤ nL) (hst : ab_st2 L k v = some L') (h : lv_has ls' nL ((k, ab_cv g v) :: (ab_prs g L).filter (fun q => !(q.1 == k) && (!(q.1 == k + 1) && !(q.1 + 1 == k && q.2.category == 2))))) : ab_L g L' ls' nL := by
  unfold ab_st2 at hst
  split at hst
  · cases hst
  · rename_i hlg
    split at hst
    · rename_i hk
      cases hst
      refine ⟨by simp only [List.length_set]; exact hlen, h.1, h.2.1, fun j w hj hw => ?_⟩
      by_cases e1 : j = k + 1
      · subst e1
        rw [List.getElem?_set_self (by simpa using hk)] at hj
        cases hj
        cases hw
      · rw [List.getElem?_set_ne (by omega)] at hj
        by_cases e : j = k
        · subst e
          rw [List.getElem?_set_self (by omega)] at hj
          cases hj
          exact h.2.2 _ List.mem_cons_self
        · rw [List.getElem?_set_ne (by omega)] at hj
          refine h.2.2 (j, ab_cv g w) (List.mem_cons_of_mem _ (List.mem_filter.mpr ⟨ab_prs_mem.mpr ⟨w, hj, hw, rfl⟩, ?_⟩))
          have hn : ¬ (j + 1 = k ∧ w.category = 2) := by
            rintro ⟨e2, e3⟩
            subst e2
            cases w <;> simp_all [Value.category, ab_lg, ab_al]
          simp only [ab_cv_cat]
          simp only [Bool.and_eq_true, Bool.not_eq_true', beq_eq_false_iff_ne, Bool.and_eq_false_iff]
          refine ⟨e, e1, ?_⟩
          by_cases e2 : j + 1 = k
          · exact Or.inr (fun q => hn ⟨e2, q⟩)
          · exact Or.inl e2
    · cases hst
theorem ab_st1_lt {L L' : List Value} {k nL : Nat} {v : Value} (hlen : L.length ≤ nL) (hst : ab_st1 L k v = some L') : k < nL := by
  unfold ab_st1 at hst
  split at hst
  · cases hst
  · split at hst
    · omega
    · cases hst
theorem ab_st2_lt {L L' : List Value} {k nL : Nat} {v : Value} (hlen : L.length ≤ nL) (hst : ab_st2 L k v = some L') : k + 1 < nL := by
  unfold ab_st2 at hst
  split at hst
  · cases hst
  · split at hst
    · omega
    · cases hst
theorem ab_sl_args (g : ab_G) : ∀ (As : List Value) (k : Nat) (v : Value) (i : Nat), (ab_sl As)[k]? = some v → ab_al v = true → (i + k, ab_cv g v) ∈ lv_args i (As.map (ab_cv g))
  | [], k, v, i, h, _ => by simp [ab_sl] at h
  | .long x :: r, 0, v, i, h, _ => by
    simp [ab_sl] at h
    subst h
    exact List.mem_cons_self
  | .long x :: r, 1, v, i, h, hw => by
    simp [ab_sl] at h
    subst h
    cases hw
  | .long x :: r, k + 2, v, i, h, hw => by
    simp [ab_sl] at h
    have a := ab_sl_args g r k v (i + 2) h hw
    refine List.mem_cons_of_mem _ ?_
    show _ ∈ lv_args (i + 2) _
    rw [show i + (k + 2) = i + 2 + k by omega]
    exact a
  | .int x :: r, 0, v, i, h, _ => by
    simp [ab_sl] at h
    subst h
    exact List.mem_cons_self
  | .int x :: r, k + 1, v, i, h, hw => by
    simp [ab_sl] at h
    have a := ab_sl_args g r k v (i + 1) h hw
    refine List.mem_cons_of_mem _ ?_
    show _ ∈ lv_args (i + 1) _
    rw [show i + (k + 1) = i + 1 + k by omega]
    exact a
  | .null :: r, 0, v, i, h, _ => by
    simp [ab_sl] at h
    subst h
    exact List.mem_cons_self
  | .null :: r, k + 1, v, i, h, hw => by
    simp [ab_sl] at h
    have a := ab_sl_args g r k v (i + 1) h hw
    refine List.mem_cons_of_mem _ ?_
    show _ ∈ lv_args (i + 1) _
    rw [show i + (k + 1) = i + 1 + k by omega]
    exact a
  | .ref x :: r, 0, v, i, h, _ => by
    simp [ab_sl] at h
    subst h
    exact List.mem_cons_self
  | .ref x :: r, k + 1, v, i, h, hw => by
    simp [ab_sl] at h
    have a := ab_sl_args g r k v (i + 1) h hw
    refine List.mem_cons_of_mem _ ?_
    show _ ∈ lv_args (i + 1) _
    rw [show i + (k + 1) = i + 1 + k by omega]
    exact a
  | .retAddr x :: r, 0, v, i, h, hw => by
    simp [ab_sl] at h
    subst h
    cases hw
  | .retAddr x :: r, k + 1, v, i, h, hw => by
    simp [ab_sl] at h
    have a := ab_sl_args g r k v (i + 1) h hw
    refine List.mem_cons_of_mem _ ?_
    show _ ∈ lv_args (i + 1) _
    rw [show i + (k + 1) = i + 1 + k by omega]
    exact a
  | .float x :: r, 0, v, i, h, hw => by
    simp [ab_sl] at h
    subst h
    cases hw
  | .float x :: r, k + 1, v, i, h, hw => by
    simp [ab_sl] at h
    have a := ab_sl_args g r k v (i + 1) h hw
    refine List.mem_cons_of_mem _ ?_
    show _ ∈ lv_args (i + 1) _
    rw [show i + (k + 1) = i + 1 + k by omega]
    exact a
  | .double x :: r, 0, v, i, h, hw => by
    simp [ab_sl] at h
    subst h
    cases hw
  | .double x :: r, 1, v, i, h, hw => by
    simp [ab_sl] at h
    subst h
    cases hw
  | .double x :: r, k + 2, v, i, h, hw => by
    simp [ab_sl] at h
    have a := ab_sl_args g r k v (i + 2) h hw
    refine List.mem_cons_of_mem _ ?_
    show _ ∈ lv_args (i + 2) _
    rw [show i + (k + 2) = i + 2 + k by omega]
    exact a
theorem ab_sl_len (g : ab_G) : ∀ (As : List Value), (lg_sl (As.map (ab_cv g))).length = (ab_sl As).length
  | [] => rfl
  | v :: r => by
    have a := ab_sl_len g r
    have e : lg_sl ((v :: r).map (ab_cv g)) = (if (ab_cv g v).category = 2 then [Slot.val (ab_cv g v), .second] else [.val (ab_cv g v)]) ++ lg_sl (r.map (ab_cv g)) := rfl
    rw [e, List.length_append, a, ab_cv_cat]
    cases v <;> simp [ab_sl, Value.category] <;> omega
theorem ab_L_ent {g : ab_G} {As : List Value} {n : Nat} (h : (ab_sl As).length ≤ n) : ab_L g (ab_ent As n) ((lg_sl (As.map (ab_cv g)) ++ List.replicate (n - (lg_sl (As.map (ab_cv g))).length) Slot.unset).toArray) n := by
  have a := lv_entry (As.map (ab_cv g)) (n := n) (by rw [ab_sl_len]; exact h)
  refine ⟨by unfold ab_ent; rw [List.length_append, List.length_replicate]; omega, a.1, a.2.1, fun k v hk hv => ?_⟩
  have hlt : k < (ab_sl As).length := by
    apply Nat.not_le.mp
    intro q
    unfold ab_ent at hk
    rw [List.getElem?_append_right q] at hk
    have := List.mem_of_getElem? hk
    rw [List.mem_replicate] at this
    rw [this.2] at hv
    cases hv
  unfold ab_ent at hk
  rw [List.getElem?_append_left hlt] at hk
  have b := ab_sl_args g As k v 0 hk hv
  rw [Nat.zero_add] at b
  exact a.2.2 _ b
