/-! ===== what the abstract machine answers, the machine answers (own work) ===== -/
def ab_TW (Ts : List Cond) (s : State) : Prop := ∀ w ∈ Ts, ∀ a, w.before a s = true
def ab_nst (w : Cond) : Bool := match w with
  | .fieldLinkNest _ _ _ _ _ _ => true
  | .methodLinkNest _ _ _ _ => true
  | _ => false
def ab_good (Ts : List Cond) : Prop := ∀ w ∈ Ts, goodWord w = true ∨ ab_nst w = true
theorem ab_TW_warm {Ts : List Cond} {s U : State} (hg : ab_good Ts) (hW : s.WarmedH U.vm) (h : ab_TW Ts s) : ab_TW Ts U := by
  intro w hw a
  rcases hg w hw with h1 | h1
  · exact word_at hW (good_of_word h1) (h w hw #[])
  · have h2 := h w hw #[]
    cases w with
    | fieldLinkNest a1 a2 a3 a4 a5 a6 => exact va_Nw.use rfl (va_Nw.warmF hW h2)
    | methodLinkNest a1 a2 a3 a4 => exact va_Nw.use rfl (va_Nw.warmM hW h2)
    | _ => cases h1
/-- a return's bytes, by what is returned -/
def ab_okR (cc : ByteArray) (rt : Option FieldType) (pc : Nat) (r : Option Value) : Prop :=
  (∃ v ty, r = some (.int v) ∧ decode cc pc = .ok (.ireturn, 1) ∧ rt = some ty ∧ narrow ty (.int v) = .int v) ∨ (∃ v, r = some (.long v) ∧ decode cc pc = .ok (.lreturn, 1) ∧ rt = some .long) ∨
  ((r = some .null ∨ ∃ i, r = some (.ref i)) ∧ decode cc pc = .ok (.areturn, 1) ∧ ∃ ty, rt = some ty ∧ ab_ref ty = true) ∨ (r = none ∧ decode cc pc = .ok (.return_, 1) ∧ rt = none)
def ab_okE (cc : ByteArray) (rt : Option FieldType) (pc op : Nat) : Prop :=
  (op = 90 ∧ decode cc pc = .ok (.ireturn, 1) ∧ rt = some .int) ∨ (op = 91 ∧ decode cc pc = .ok (.ireturn, 1) ∧ rt = some .boolean) ∨ (op = 92 ∧ decode cc pc = .ok (.lreturn, 1) ∧ rt = some .long) ∨ (op = 93 ∧ decode cc pc = .ok (.areturn, 1) ∧ ∃ ty, rt = some ty ∧ ab_ref ty = true) ∨ (op = 94 ∧ decode cc pc = .ok (.return_, 1) ∧ rt = none)
theorem ab_ret_spec {cc : ByteArray} {rt : Option FieldType} {pc op : Nat} {st : List Value} {h h' : ab_H} {r : Option Value} (hok : ab_okE cc rt pc op) (hs : ab_ret op st h = some (r, h')) : h' = h ∧ st = r.toList ∧ ab_okR cc rt pc r := by
  rcases hok with ⟨rfl, h1, h2⟩ | ⟨rfl, h1, h2⟩ | ⟨rfl, h1, h2⟩ | ⟨rfl, h1, h2⟩ | ⟨rfl, h1, h2⟩ <;> simp only [ab_ret] at hs
  · split at hs
    · cases hs; exact ⟨rfl, rfl, Or.inl ⟨_, _, rfl, h1, h2, rfl⟩⟩
    · cases hs
  · split at hs
    · split at hs
      · rename_i hv
        cases hs
        exact ⟨rfl, rfl, Or.inl ⟨_, _, rfl, h1, h2, by rcases hv with rfl | rfl <;> rfl⟩⟩
      · cases hs
    · cases hs
  · split at hs
    · cases hs; exact ⟨rfl, rfl, Or.inr (Or.inl ⟨_, rfl, h1, h2⟩)⟩
    · cases hs
  · split at hs
    · cases hs; exact ⟨rfl, rfl, Or.inr (Or.inr (Or.inl ⟨Or.inr ⟨_, rfl⟩, h1, h2⟩))⟩
    · cases hs; exact ⟨rfl, rfl, Or.inr (Or.inr (Or.inl ⟨Or.inl rfl, h1, h2⟩))⟩
    · cases hs
  · split at hs
    · cases hs; exact ⟨rfl, rfl, Or.inr (Or.inr (Or.inr ⟨rfl, h1, h2⟩))⟩
    · cases hs
def ab_lk (Ts : List Cond) (own : String) (idx : Nat) (y : MethodName) : Prop := Cond.methodLink own idx y ∈ Ts ∨ ∃ host, Cond.methodLinkNest own idx y host ∈ Ts
/-- a call's bytes and words -/
def ab_okC (g : ab_G) (Ts : List Cond) (my : Nat → MethodName) (mb : Nat → ByteArray) (mx : Nat → Nat) (mr : Nat → Option FieldType) (na mc : Nat → Nat) (cc : ByteArray) (own : String) (pc op M idx : Nat) : Prop :=
  (Cond.code (my M) (mb M) (mx M) (mr M) ∈ Ts ∧ goodWord (Cond.code (my M) (mb M) (mx M) (mr M)) = true ∧ Cond.initialized (my M).cls ∈ Ts ∧ plainName (my M).cls = true ∧ mx M ≤ 40) ∧ ((my M).cls ≠ "java/lang/invoke/MethodHandle" ∧ (my M).cls ≠ "java/lang/invoke/VarHandle" ∧ (parseMethodDescriptor (my M).desc).map (fun d => d.parameters.length) = some (na M)) ∧
  ((op = 80 ∧ mc M < gc_C g ∧ gc_N g (mc M) = (my M).cls ∧ Cond.instanceMethod (my M) ∈ Ts ∧ ab_lk Ts own idx (my M) ∧ ((decode cc pc = .ok (.invokevirtual idx, 3) ∧ Cond.selects (my M).cls (my M) (my M) ∈ Ts) ∨ (decode cc pc = .ok (.invokespecial idx, 3) ∧ (my M).name = "<init>" ∧ mr M = none))) ∨
    (op = 81 ∧ Cond.static (my M) ∈ Ts ∧ ab_lk Ts own idx (my M) ∧ decode cc pc = .ok (.invokestatic idx, 3)))
/-- facts on what was there before: they stay -/
def ab_cl (g : ab_G) (E : State → Prop) : Prop := ∀ (s U : State) (H : Heap) (locs : List Loc), E s → va_S (ab_S g) s.heap H locs → U.heap = H → s.WarmedH U.vm → E U
def ab_Pc (g : ab_G) (Ts : List Cond) (E : State → Prop) (As : List Value) (h : ab_H) : Array Value → State → Prop := fun v U => v = (As.map (ab_cv g)).toArray ∧ ab_TW Ts U ∧ ab_K g U ∧ ab_Rep g U h U.heap ∧ E U
def ab_Qc (g : ab_G) (r : Option Value) (h' : ab_H) : Array Value → State → Outcome → State → Prop := fun _ st o t => o = .returned (r.map (ab_cv g)) ∧ ab_Rep g t h' t.heap ∧ va_F (ab_S g) st t
theorem ab_Pc_blind {g : ab_G} {Ts : List Cond} {E : State → Prop} {As : List Value} {h : ab_H} (hg : ab_good Ts) (hE : ab_cl g E) : FrameBlind (ab_Pc g Ts E As h) := by
  intro a U gg mk hp
  obtain ⟨h1, h2, h3, h4, h5⟩ := hp
  exact ⟨h1, ab_TW_warm (U := U.calling gg mk a) hg (State.WarmedH.refl U) h2, ab_K_moved (u := U) (U := U.calling gg mk a) (Vm.Alike.refl U.vm) h3, ab_Rep_moved (u := U) (U := U.calling gg mk a) (Vm.Alike.refl U.vm) h4, hE U (U.calling gg mk a) U.heap [] h5 va_S.rf rfl (State.WarmedH.refl U)⟩
section ABRET
variable {g : ab_G} {p : Program} {l : Launch} {e : Env} {R : Room} {s : State} {m : MethodId} {args : Array Value} {below : List Frame} {meth : Method} {c : Code} {H : Heap} {locs : List Loc} {cells slots : Nat} {cc : ByteArray} {pc : Nat} {ls : Array Slot} {r : Option Value} {rt : Option FieldType}
theorem ab_retW {Qc : Array Value → State → Outcome → State → Prop} {free : Addr → Prop} (hx : p.tables.exec = Jvm.exec) (hb : c.code = cc) (hr : meth.sig.returnType = rt) (hlocks : meth.locks = false) (hok : ab_okR cc rt pc r)
    (hq : ∀ t : State, t.heap = H → s.WarmedH t.vm → Qc args s (.returned (r.map (ab_cv g))) t) (hf : ∀ q ∈ locs, free q.base) : W p l e R s m args below meth c H locs cells slots (MQ below Qc args s cells slots free) (F0 m pc ls (r.toList.map (ab_cv g))) := by
  rcases hok with ⟨v, ty, rfl, hd, rfl, hn⟩ | ⟨v, rfl, hd, rfl⟩ | ⟨hv, hd, ty, rfl, hty⟩ | ⟨rfl, hd, rfl⟩
  · exact W.zret hx hb hr hn hq hf hd hlocks
  · exact W.lret hx hb hr hq hf hd hlocks
  · have hrt : (∃ n, ty = .object n) ∨ ∃ t, ty = .array t := by
      cases ty <;> simp [ab_ref] at hty
      · exact Or.inl ⟨_, rfl⟩
      · exact Or.inr ⟨_, rfl⟩
    rcases hv with rfl | ⟨i, rfl⟩
    · exact W.aret (v := .null) hx hb hr hrt (Or.inl rfl) hq hf hd hlocks
    · exact W.aret (v := .ref (ab_ad g i)) hx hb hr hrt (Or.inr ⟨_, rfl⟩) hq hf hd hlocks
  · exact W.vret hx hb hr hq hf hd hlocks
end ABRET
section ABSND
variable {g : ab_G} {Ts : List Cond} {l : Launch} {cd : Nat → Nat → ab_I} {sw : Nat → Int × Int × Int × List Int} {na mx mc : Nat → Nat} {my : Nat → MethodName} {mb : Nat → ByteArray} {mr : Nat → Option FieldType}
/-- a step of other code of the platform is the machine's -/
def ab_okX (g : ab_G) (Ts : List Cond) (E : State → Prop) (l : Launch) (sw : Nat → Int × Int × Int × List Int) (cc : ByteArray) (own : String) (nL pc : Nat) (I : ab_I) : Prop :=
  ∀ (p : Program) (e : Env) (R : Room) (s : State) (m : MethodId) (args : Array Value) (below : List Frame) (meth : Method) (c : Code) (Q : State → Prop) (cells slots : Nat) (L st : List Value) (h : ab_H) (q : ab_C),
    p.tables.exec = Jvm.exec → c.code = cc → c.maxLocals = nL → s.vm.findClass own = some m.cls → ab_TW Ts s → ab_K g s → E s → 8 ≤ R.frames → 480 ≤ R.locals → cells ≤ R.cells → slots ≤ R.slots → ab_ext sw I pc L st h = some q →
    ab_Wc g nL p l e R s m args below meth c Q cells slots q → ab_Wc g nL p l e R s m args below meth c Q cells slots (pc, L, st, h)
theorem mo_ext {I : ab_I} {pc : Nat} {L st : List Value} {h : ab_H} {q : ab_C} (hs : ab_ext sw I pc L st h = some q) : q.2.2.2 = h := by
  obtain ⟨op, a, b, k, z⟩ := I
  unfold ab_ext at hs
  dsimp only at hs
  have x2 : ∀ {f : Int32 → Int32 → Option Value} {pc : Nat}, ab_x2 f pc L st h = some q → q.2.2.2 = h := by
    intro f pc hs
    unfold ab_x2 at hs
    split at hs
    · split at hs
      · obtain ⟨v, -, hv⟩ := Option.bind_eq_some_iff.mp hs
        cases hv; rfl
      · cases hs
    · cases hs
  split at hs
  all_goals first
    | exact x2 hs
    | (cases hs; rfl)
    | ((repeat' split at hs) <;> first | (cases hs; done) | (cases hs; rfl))
/-- every place of the program is one of the kinds that are known -/
def ab_okP (g : ab_G) (Ts : List Cond) (E : State → Prop) (l : Launch) (cd : Nat → Nat → ab_I) (sw : Nat → Int × Int × Int × List Int) (na mx mc : Nat → Nat) (my : Nat → MethodName) (mb : Nat → ByteArray) (mr : Nat → Option FieldType) : Prop :=
  ∀ M pc, (70 ≤ (cd M pc).1 → (cd M pc).1 < 80 → ab_okX g Ts E l sw (mb M) (my M).cls (mx M) pc (cd M pc)) ∧ ((cd M pc).1 < 70 → ab_okI g Ts sw (mb M) (my M).cls (decide ((my M).name = "<init>")) pc (cd M pc)) ∧ (80 ≤ (cd M pc).1 → (cd M pc).1 < 90 → ab_okC g Ts my mb mx mr na mc (mb M) (my M).cls pc (cd M pc).1 (cd M pc).2.1 (cd M pc).2.2.1) ∧ (90 ≤ (cd M pc).1 → ab_okE (mb M) (mr M) pc (cd M pc).1)
theorem ab_rs_succ (n d M pc : Nat) (L st : List Value) (h : ab_H) : ab_rs cd sw na mx mc (n + 1) d M pc L st h =
    if 90 ≤ (cd M pc).1 then ab_ret (cd M pc).1 st h
    else if 80 ≤ (cd M pc).1 then
      match d with
      | 0 => none
      | d + 1 => (ab_args mc na mx (cd M pc) st h).bind fun q => (ab_rs cd sw na mx mc n d (cd M pc).2.1 0 (ab_ent q.1 (mx (cd M pc).2.1)) [] h).bind fun o => ab_rs cd sw na mx mc n (d + 1) M (pc + 3) L (o.1.toList ++ q.2) o.2
    else if 70 ≤ (cd M pc).1 then (if 7 ≤ d then (ab_ext sw (cd M pc) pc L st h).bind fun q => ab_rs cd sw na mx mc n d M q.1 q.2.1 q.2.2.1 q.2.2.2 else none)
    else (ab_stp sw (cd M pc) pc L st h).bind fun q => ab_rs cd sw na mx mc n d M q.1 q.2.1 q.2.2.1 q.2.2.2 := by
  cases d <;> rfl
theorem ab_rs_mono : ∀ (n d M pc : Nat) (L st : List Value) (h : ab_H) (r : Option Value) (h' : ab_H), ab_rs cd sw na mx mc n d M pc L st h = some (r, h') → ab_n h ≤ ab_n h' ∧ ab_t h ≤ ab_t h'
  | 0, d, M, pc, L, st, h, r, h', hs => by simp [ab_rs] at hs
  | n + 1, d, M, pc, L, st, h, r, h', hs => by
    rw [ab_rs_succ] at hs
    split at hs
    · refine mo_eq ?_
      generalize (cd M pc).1 = op at hs
      unfold ab_ret at hs
      (repeat' split at hs) <;> cases hs <;> rfl
    · split at hs
      · cases d with
        | zero => cases hs
        | succ d =>
          dsimp only at hs
          obtain ⟨q, -, hs⟩ := Option.bind_eq_some_iff.mp hs
          obtain ⟨o, h1, hs⟩ := Option.bind_eq_some_iff.mp hs
          have a := ab_rs_mono n d _ _ _ _ _ _ _ h1
          have b := ab_rs_mono n (d + 1) _ _ _ _ _ _ _ hs
          exact ⟨Nat.le_trans a.1 b.1, Nat.le_trans a.2 b.2⟩
      · split at hs
        · split at hs
          · obtain ⟨q, h1, hs⟩ := Option.bind_eq_some_iff.mp hs
            have a := mo_eq (mo_ext h1)
            have b := ab_rs_mono n d _ _ _ _ _ _ _ hs
            exact ⟨Nat.le_trans a.1 b.1, Nat.le_trans a.2 b.2⟩
          · cases hs
        · obtain ⟨q, h1, hs⟩ := Option.bind_eq_some_iff.mp hs
          have a := mo_stp h1
          have b := ab_rs_mono n d _ _ _ _ _ _ _ hs
          exact ⟨Nat.le_trans a.1 b.1, Nat.le_trans a.2 b.2⟩
theorem ab_cats (g : ab_G) (r : List Value) : ((r.map (ab_cv g)).map fun v => v.category) = r.map fun v => v.category := by
  rw [List.map_map]
  exact List.map_congr_left (fun v _ => ab_cv_cat g)
/-- behind a call -/
theorem ab_after {p : Program} {e : Env} {R : Room} {s : State} {m : MethodId} {args : Array Value} {below : List Frame} {meth : Method} {c : Code} {Q : State → Prop} {cells slots dn dt : Nat} {H : Heap} {locs : List Loc} {ls : Array Slot} {nL pc : Nat} {L rest st0 : List Value} {ro : Option Value} {ho : ab_H} {a : Array Value}
    (hS : va_S (ab_S g) s.heap H locs) (hL : ab_L g L ls nL) (hrun : va_Run p l e R s m args below meth c H locs cells slots dn dt (F0 m pc ls st0) (rest.map (ab_cv g)) (ab_Qc g ro ho a) (ab_S g))
    (k : ab_Wc g nL p l e R s m args below meth c Q (cells + dn) (slots + dt) (pc + 3, L, ro.toList ++ rest, ho)) : W p l e R s m args below meth c H locs cells slots Q (F0 m pc ls st0) := by
  intro T hT X
  obtain ⟨v, st₀, t, T', LL, h0, X', hLL, e1, e2, ⟨hv, hRep, hF⟩, hst⟩ := hrun T hT X
  cases hv
  have hRs : ab_Rep g s ho T'.heap := by
    rw [e1]
    exact ab_Rep_moved (by rw [← e2]; exact X'.warmed.alike.symm) hRep
  have hz : H.size ≤ T'.heap.size := by rw [e1, ← h0]; exact hF.1
  have hS1 : va_S (ab_S g) s.heap T'.heap (locs ++ LL) := ⟨Nat.le_trans hS.1 hz, fun q g1 g2 => by
      rw [e1, hF.2 q (by rw [h0]; exact Nat.lt_of_lt_of_le g1 hS.1) g2, h0]
      exact hS.2.1 q g1 g2, fun q hq => by
      rcases List.mem_append.mp hq with z | z
      · exact hS.2.2 q z
      · exact hLL q z⟩
  obtain ⟨t2, a1, b1⟩ := k T'.heap (locs ++ LL) ls hRs hS1 hL T' rfl X'
  refine ⟨t2, hst t2 ?_, b1⟩
  have es : (ro.toList ++ rest).map (ab_cv g) = (ro.map (ab_cv g)).toList ++ rest.map (ab_cv g) := by cases ro <;> simp
  rw [← es]
  exact a1
theorem ab_args_80 {I : ab_I} {st As rest : List Value} {h : ab_H} (h1 : I.1 = 80) (hs : ab_args mc na mx I st h = some (As, rest)) : ∃ i Bs, As = .ref i :: Bs ∧ st = Bs.reverse ++ .ref i :: rest ∧ Bs.length = na I.2.1 ∧ ab_ok h i (100 + mc I.2.1) = true ∧ (rest.map fun v => v.category).sum ≤ 8 ∧ (ab_sl As).length ≤ mx I.2.1 := by
  unfold ab_args at hs
  rw [if_neg (by omega)] at hs
  split at hs
  · rename_i i r hd
    split at hs
    · rename_i hc
      cases hs
      refine ⟨i, _, rfl, ?_, by rw [List.length_reverse]; exact hc.2.2.2, hc.1, hc.2.1, hc.2.2.1⟩
      rw [List.reverse_reverse, ← hd, List.take_append_drop]
    · cases hs
  · cases hs
theorem ab_args_81 {I : ab_I} {st As rest : List Value} {h : ab_H} (h1 : I.1 = 81) (hs : ab_args mc na mx I st h = some (As, rest)) : st = As.reverse ++ rest ∧ As.length = na I.2.1 ∧ (rest.map fun v => v.category).sum ≤ 8 ∧ (ab_sl As).length ≤ mx I.2.1 := by
  unfold ab_args at hs
  rw [if_pos h1] at hs
  split at hs
  · rename_i hc
    cases hs
    refine ⟨by rw [List.reverse_reverse, List.take_append_drop], ?_, hc.2.1, hc.2.2⟩
    rw [List.length_reverse, List.length_take]
    omega
  · cases hs
set_option maxHeartbeats 2000000 in
theorem ab_sound {E : State → Prop} (hEc : ab_cl g E) (hgood : ab_good Ts) (hwf : ab_wf g Ts) (hP : ab_okP g Ts E l cd sw na mx mc my mb mr) : ∀ (n d M pc : Nat) (L st : List Value) (h : ab_H) (r : Option Value) (h' : ab_H), ab_rs cd sw na mx mc n d M pc L st h = some (r, h') →
    ∀ (p : Program) (e : Env) (R : Room) (s : State) (m : MethodId) (args : Array Value) (below : List Frame) (meth : Method) (c : Code) (Q : State → Prop) (cells slots : Nat),
      p.tables.exec = Jvm.exec → c.code = mb M → c.maxLocals = mx M → s.vm.findClass (my M).cls = some m.cls → ab_TW Ts s → ab_K g s → E s → ((my M).name = "<init>" → meth.name = "<init>") → d + 1 ≤ R.frames → 60 * (d + 1) ≤ R.locals →
      cells + (ab_n h' - ab_n h) ≤ R.cells → slots + (ab_t h' - ab_t h) ≤ R.slots →
      (∀ (H' : Heap) (locs' : List Loc) (pc' : Nat) (ls' : Array Slot), ab_Rep g s h' H' → va_S (ab_S g) s.heap H' locs' → ab_okR (mb M) (mr M) pc' r → W p l e R s m args below meth c H' locs' (cells + (ab_n h' - ab_n h)) (slots + (ab_t h' - ab_t h)) Q (F0 m pc' ls' (r.toList.map (ab_cv g)))) →
      ab_Wc g (mx M) p l e R s m args below meth c Q cells slots (pc, L, st, h)
  | 0, d, M, pc, L, st, h, r, h', hs => by simp [ab_rs] at hs
  | n + 1, d, M, pc, L, st, h, r, h', hs => by
    intro p e R s m args below meth c Q cells slots hx hb hml hown hTW hK hEs hin hfr hlo hcl hsl ret
    rw [ab_rs_succ] at hs
    split at hs
    · -- a return
      rename_i h90
      obtain ⟨rfl, rfl, hok⟩ := ab_ret_spec ((hP M pc).2.2.2 h90) hs
      intro H locs ls hR hS hL
      have a := ret H locs pc ls hR hS hok
      rw [Nat.sub_self, Nat.sub_self] at a
      exact a
    · rename_i h90
      split at hs
      · -- a call
        rename_i h80
        cases d with
        | zero => cases hs
        | succ d =>
          dsimp only at hs
          obtain ⟨⟨As, rest⟩, hargs, hs⟩ := Option.bind_eq_some_iff.mp hs
          obtain ⟨⟨ro, ho⟩, hsub, hcont⟩ := Option.bind_eq_some_iff.mp hs
          dsimp only at hsub hcont
          obtain ⟨⟨c1, cg, c2, c3, c4⟩, c5, c6⟩ := (hP M pc).2.2.1 h80 (by omega)
          generalize hM' : (cd M pc).2.1 = M' at *
          have m1 := ab_rs_mono n d _ _ _ _ _ _ _ hsub
          have m2 := ab_rs_mono n (d + 1) _ _ _ _ _ _ _ hcont
          have hts : ∀ w ∈ Ts, w.before args s = true := fun w hw => hTW w hw args
          -- the callee's contract
          have hMet : (ab_sl As).length ≤ mx M' → Met l (my M') [.code (my M') (mb M') (mx M') (mr M')] { frames := d + 1, cells := ab_n ho - ab_n h, slots := ab_t ho - ab_t h, locals := 60 * (d + 1) } (ab_Pc g Ts E As h) (ab_Qc g ro ho) (ab_n ho - ab_n h) (ab_t ho - ab_t h) (ab_S g) := by
            intro hlen
            refine Met.ofW (cc := mb M') (maxL := mx M') (ret := mr M') c3 rfl ?_
            intro p2 e2 s2 m2' args2 below2 meth2 cc2 s12 B2 hml2 hv2
            obtain ⟨rfl, t1, t2, t3, t4⟩ := hv2
            have ih := ab_sound hEc hgood hwf hP n d M' 0 _ [] h ro ho hsub p2 e2 { frames := d + 1, cells := ab_n ho - ab_n h, slots := ab_t ho - ab_t h, locals := 60 * (d + 1) } s2 m2' ((As.map (ab_cv g)).toArray) below2 meth2 cc2 (MQ below2 (ab_Qc g ro ho) ((As.map (ab_cv g)).toArray) s2 (ab_n ho - ab_n h) (ab_t ho - ab_t h) (ab_S g)) 0 0 B2.exec B2.bytes hml2 (findClass_of_methodNamed B2.named) t1 t2 t4 (fun hi => (name_of_methodNamed B2.named B2.method).1.trans hi) (Nat.le_refl _) (Nat.le_refl _) (by rw [Nat.zero_add]; exact Nat.le_refl _) (by rw [Nat.zero_add]; exact Nat.le_refl _) (fun H' locs' pc' ls' r1 r2 r3 => by
              rw [Nat.zero_add, Nat.zero_add]
              refine ab_retW B2.exec B2.bytes B2.returns B2.notSynchronized r3 (fun t ht hW => ⟨rfl, ?_, ?_⟩) (fun q hq => r2.2.2 q hq)
              · rw [ht]; exact ab_Rep_moved hW.alike r1
              · exact r2.F ht)
            rw [lg_entry_eq]
            exact ih s2.heap [] _ t3 va_S.rf (ab_L_ent hlen)
          have hk : ab_Wc g (mx M) p l e R s m args below meth c Q (cells + (ab_n ho - ab_n h)) (slots + (ab_t ho - ab_t h)) (pc + 3, L, ro.toList ++ rest, ho) :=
            ab_sound hEc hgood hwf hP n (d + 1) M (pc + 3) L _ ho r h' hcont p e R s m args below meth c Q _ _ hx hb hml hown hTW hK hEs hin hfr hlo (by omega) (by omega) (fun H' locs' pc' ls' r1 r2 r3 => by
              have a := ret H' locs' pc' ls' r1 r2 r3
              rw [show cells + (ab_n ho - ab_n h) + (ab_n h' - ab_n ho) = cells + (ab_n h' - ab_n h) by omega, show slots + (ab_t ho - ab_t h) + (ab_t h' - ab_t ho) = slots + (ab_t h' - ab_t h) by omega]
              exact a)
          intro H locs ls hR hS hL
          have hR : ab_Rep g s h H := hR
          have hlen5 : ∀ sig, parseMethodDescriptor (my M').desc = some sig → na M' = sig.parameters.length := by
            intro sig z
            have z2 := c5.2.2
            rw [z] at z2
            exact (Option.some.inj z2).symm
          have hwsW : ∀ w ∈ [Cond.code (my M') (mb M') (mx M') (mr M')], ∀ (a' : Array Value) (U : State), s.WarmedH U.vm → w.before a' U = true := by
            intro w hw a' U hW
            rw [List.mem_singleton] at hw
            subst hw
            exact ab_TW_warm hgood hW hTW _ c1 a'
          have hPcU : ∀ U : State, U.heap = H → s.WarmedH U.vm → ab_Pc g Ts E As h (As.map (ab_cv g)).toArray U := fun U hU hW =>
            ⟨rfl, ab_TW_warm hgood hW hTW, ab_K_moved hW.alike hK, by rw [hU]; exact ab_Rep_moved hW.alike hR, hEc s U H locs hEs hS hU hW⟩
          have hroom : cells + (ab_n ho - ab_n h) ≤ R.cells ∧ slots + (ab_t ho - ab_t h) ≤ R.slots := ⟨by omega, by omega⟩
          rcases c6 with ⟨hop, d1, d2, d3, d4, d5⟩ | ⟨hop, d3, d4, d5⟩
          · obtain ⟨i, Bs, rfl, hst, hBl, hok, hsum, hlen⟩ := ab_args_80 hop hargs
            rw [hM'] at hBl hok hlen
            have hMt := hMet hlen
            have hrest : 2 * (F0 m pc ls (st.map (ab_cv g))).monitorRoom + ((rest.map (ab_cv g)).map fun v => v.category).sum ≤ 8 := lv_room (by rw [ab_cats]; exact hsum)
            have hstack : (F0 m pc ls (st.map (ab_cv g))).stack = (Bs.map (ab_cv g)).reverse ++ .ref (ab_ad g i) :: rest.map (ab_cv g) := by
              show st.map (ab_cv g) = _
              rw [hst, List.map_append, List.map_reverse]
              rfl
            have hcell : ∃ cellB : Cell, H[ab_ad g i]? = some cellB ∧ cellB.vm.isStatics = false ∧ s.vm.findClass (my M').cls = some cellB.cls := by
              obtain ⟨-, cell, q1, q2, q3, -⟩ := ab_obj_at hR hok
              exact ⟨cell, q1, by rw [q3]; rfl, by rw [← d2, q2]; exact (hK.1 _ d1).2.1⟩
            rcases d5 with ⟨hd, hsel⟩ | ⟨hd, hini, hrn⟩
            · rcases d4 with d4 | ⟨host, d4⟩
              · exact ab_after hS hL (va_runV (Ts := Ts) (own := (my M).cls) (C := (my M').cls) (As := Bs.map (ab_cv g)) ⟨hx, hb, hml, hown, hts⟩ hMt ⟨⟨rfl, rfl, by show d + 1 + 1 ≤ _; omega, by show 8 + (mx M' + 11) + 60 * (d + 1) ≤ _; omega, hwsW, List.mem_singleton.mpr rfl, hts _ c1, hts _ c2, ⟨c5.1, c5.2.1⟩, hlen5, hts _ d4⟩, hts _ d3, hts _ hsel⟩ ⟨ab_Pc_blind hgood hEc, hcell, hPcU⟩ rfl (by rw [List.length_map]; exact hBl) hL.2.1 hstack hrest hd hroom) hk
              · exact ab_after hS hL (va_runVN (Ts := Ts) (own := (my M).cls) (C := (my M').cls) (As := Bs.map (ab_cv g)) ⟨hx, hb, hml, hown, hts⟩ hMt ⟨⟨⟨rfl, rfl, by show d + 1 + 1 ≤ _; omega, by show 8 + (mx M' + 11) + 60 * (d + 1) ≤ _; omega, hwsW, List.mem_singleton.mpr rfl⟩, hts _ c1, hts _ c2, ⟨c5.1, c5.2.1⟩, hlen5, hts _ d4⟩, hts _ d3, hts _ hsel⟩ ⟨ab_Pc_blind hgood hEc, hcell, hPcU⟩ rfl (by rw [List.length_map]; exact hBl) hL.2.1 hstack hrest hd hroom) hk
            · rw [hrn] at hMt hwsW c1
              rcases d4 with d4 | ⟨host, d4⟩
              · exact ab_after hS hL (va_runI (Ts := Ts) (own := (my M).cls) (As := Bs.map (ab_cv g)) ⟨hx, hb, hml, hown, hts⟩ hMt ⟨⟨rfl, rfl, by show d + 1 + 1 ≤ _; omega, by show 8 + (mx M' + 11) + 60 * (d + 1) ≤ _; omega, hwsW, List.mem_singleton.mpr rfl, hts _ c1, hts _ c2, ⟨c5.1, c5.2.1⟩, hlen5, hts _ d4⟩, hini, hts _ d3⟩ ⟨ab_Pc_blind hgood hEc, hPcU⟩ rfl (by rw [List.length_map]; exact hBl) hL.2.1 hstack hrest hd hroom) hk
              · exact ab_after hS hL (va_runIN (Ts := Ts) (own := (my M).cls) (As := Bs.map (ab_cv g)) ⟨hx, hb, hml, hown, hts⟩ hMt ⟨⟨⟨rfl, rfl, by show d + 1 + 1 ≤ _; omega, by show 8 + (mx M' + 11) + 60 * (d + 1) ≤ _; omega, hwsW, List.mem_singleton.mpr rfl⟩, hts _ c1, hts _ c2, ⟨c5.1, c5.2.1⟩, hlen5, hts _ d4⟩, hini, hts _ d3⟩ ⟨ab_Pc_blind hgood hEc, hPcU⟩ rfl (by rw [List.length_map]; exact hBl) hL.2.1 hstack hrest hd hroom) hk
          · obtain ⟨hst, hBl, hsum, hlen⟩ := ab_args_81 hop hargs
            rw [hM'] at hBl hlen
            have hMt := hMet hlen
            have hrest : 2 * (F0 m pc ls (st.map (ab_cv g))).monitorRoom + ((rest.map (ab_cv g)).map fun v => v.category).sum ≤ 8 := lv_room (by rw [ab_cats]; exact hsum)
            have hstack : (F0 m pc ls (st.map (ab_cv g))).stack = (As.map (ab_cv g)).reverse ++ rest.map (ab_cv g) := by
              show st.map (ab_cv g) = _
              rw [hst, List.map_append, List.map_reverse]
            rcases d4 with d4 | ⟨host, d4⟩
            · exact ab_after hS hL (va_runS (Ts := Ts) (own := (my M).cls) (As := As.map (ab_cv g)) ⟨hx, hb, hml, hown, hts⟩ hMt ⟨⟨rfl, rfl, by show d + 1 + 1 ≤ _; omega, by show 8 + (mx M' + 11) + 60 * (d + 1) ≤ _; omega, hwsW, List.mem_singleton.mpr rfl, hts _ c1, hts _ c2, ⟨c5.1, c5.2.1⟩, hlen5, hts _ d4⟩, hts _ d3⟩ ⟨ab_Pc_blind hgood hEc, hPcU⟩ rfl (by rw [List.length_map]; exact hBl) hL.2.1 hstack hrest d5 hroom) hk
            · exact ab_after hS hL (va_runSN (Ts := Ts) (own := (my M).cls) (As := As.map (ab_cv g)) ⟨hx, hb, hml, hown, hts⟩ hMt ⟨⟨⟨rfl, rfl, by show d + 1 + 1 ≤ _; omega, by show 8 + (mx M' + 11) + 60 * (d + 1) ≤ _; omega, hwsW, List.mem_singleton.mpr rfl⟩, hts _ c1, hts _ c2, ⟨c5.1, c5.2.1⟩, hlen5, hts _ d4⟩, hts _ d3, trivial⟩ ⟨ab_Pc_blind hgood hEc, hPcU⟩ rfl (by rw [List.length_map]; exact hBl) hL.2.1 hstack hrest d5 hroom) hk
      · rename_i h80
        split at hs
        · -- a step of other code
          rename_i h70
          split at hs
          · rename_i h7
            obtain ⟨⟨pc1, L1, st1, h1⟩, hstep, hcont⟩ := Option.bind_eq_some_iff.mp hs
            have e1 : h1 = h := mo_ext hstep
            subst e1
            dsimp only at hcont
            refine (hP M pc).1 h70 (by omega) p e R s m args below meth c Q cells slots L st h1 _ hx hb hml hown hTW hK hEs (by omega) (by omega) (by omega) (by omega) hstep ?_
            exact ab_sound hEc hgood hwf hP n d M pc1 L1 st1 h1 r h' hcont p e R s m args below meth c Q _ _ hx hb hml hown hTW hK hEs hin hfr hlo hcl hsl ret
          · cases hs
        · -- a plain step
          obtain ⟨⟨pc1, L1, st1, h1⟩, hstep, hcont⟩ := Option.bind_eq_some_iff.mp hs
          have m1 := mo_stp hstep
          have m2 := ab_rs_mono n d _ _ _ _ _ _ _ hcont
          dsimp only at m1 m2 hcont
          refine os_stp hx hb hml (fun w hw => hTW w hw args) hwf hown (fun hi => hin (of_decide_eq_true hi)) hK (by omega) (by omega) ((hP M pc).2.1 (by omega)) hstep (by dsimp only; omega) (by dsimp only; omega) ?_
          refine ab_sound hEc hgood hwf hP n d M pc1 L1 st1 h1 r h' hcont p e R s m args below meth c Q _ _ hx hb hml hown hTW hK hEs hin hfr hlo (by dsimp only; omega) (by dsimp only; omega) (fun H' locs' pc' ls' r1 r2 r3 => ?_)
          have a := ret H' locs' pc' ls' r1 r2 r3
          dsimp only
          rw [show cells + (ab_n h1 - ab_n h) + (ab_n h' - ab_n h1) = cells + (ab_n h' - ab_n h) by omega, show slots + (ab_t h1 - ab_t h) + (ab_t h' - ab_t h1) = slots + (ab_t h' - ab_t h) by omega]
          exact a
end ABSND
