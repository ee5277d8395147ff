/-! THE CLAIM OUT OF ONE WALK OF THE LAW'S BODY. Your part is whole_start (and what it stands on); all else here is the same for every law, but numbers. -/
def R_law : String := "MillTownLaw"
def lw_P (b : Addr) (xs : List Int32) (args : Array Value) (s : State) : Prop := args = #[.ref b] ∧ s.IntsAt b xs ∧ xs.length ≤ 3584 ∧ (Jvm.Cond.and given_1 narrow_1).before args s = true
def lw_Q (_ : Array Value) (s : State) (o : Outcome) (t : State) : Prop := o = .returned (some (.int 1)) ∧ Framed s o t [] 600000 7302250
def lw_Z (below : List Frame) (a : Array Value) (s : State) : State → Prop := fun t => ∃ o, t.status = .running ∧ Ended t below o ∧ lw_Q a s o t
/-- the law's own end, with 1 on the stack, nothing written that was there before, its room as the claim has it -/
theorem lw_ret {p : Program} {l : Launch} {e : Env} {s : State} {m : MethodId} {below : List Frame} {meth : Method} {c : Code} {b : Nat} (hx : p.tables.exec = Jvm.exec) (hb : c.code = code) (hr : meth.sig.returnType = ret) (hlocks : meth.locks = false) {pc : Nat} {H : Heap} {ls : Array Slot} (hdg : decode code pc = .ok (.ireturn, 1)) : W p l e room_1 s m #[Value.ref b] below meth c H [] 600000 7302250 (lw_Z below #[Value.ref b] s) (F0 m pc ls [.int 1]) := by
  intro T hT X
  obtain ⟨fs, hret, hrun, hended, hW, hframe⟩ := X.leave (v := some (.int 1)) (hlocks := hlocks) (fun h => by rw [hr] at h; cases h)
  have hmeth' : T.vm.method? m = some meth := X.method'
  refine ⟨T.setFrames fs, ?_, .returned (some (.int 1)), hrun, hended, rfl, ⟨_, rfl⟩, hW, hframe⟩
  jvm_step X.here [X.here.top, hx, hb, hdg, hmeth', hr, ret, narrow_b1]
  (try refine ⟨rfl, ?_⟩); (try refine ⟨rfl, ?_⟩)
  first | (intro acts; rw [hret _ acts rfl rfl rfl]) | rw [hret _ _ rfl rfl rfl]
  exact Steps.refl _
/-- what holds at the law's entry: the machine, the code, the tables' words (any of lw_tbl by 'hts w (by decide +kernel)'), the script of L ints xs at the cell b, what the Statement gives of the start (any of its parts by flat_of_before) -/
def lw_At (p : Program) (s : State) (m : MethodId) (meth : Method) (c : Code) (b L : Nat) (xs : Nat → Int32) : Prop :=
  p.tables.exec = Jvm.exec ∧ c.code = code ∧ meth.sig.returnType = ret ∧ c.maxLocals = 4 ∧ s.vm.findClass R_law = some m.cls ∧ (∀ w ∈ lw_tbl, w.before #[Value.ref b] s = true) ∧ va_X b L xs s s.heap ∧ b < s.heap.size ∧ meth.locks = false ∧ (Jvm.Cond.and given_1 narrow_1).before #[Value.ref b] s = true
-- ===== YOUR PART BEGINS =====
def st_h0 (L : Nat) (xs : Nat → Int32) : ab_H := (1, 0, fun _ => (0, L), fun _ => xs, fun _ _ => 0, fun _ _ => none)
theorem st_arr {s : State} {a : Array Value} {ty : FieldType} (h : (Cond.arrayClass ty).before a s = true) : ∃ cA : ClassId, ArrOfT s cA ty ∧ s.vm.findClass ("[" ++ ty.toString) = some cA := by
  obtain ⟨cA, kA, comp, h1, h2, h3⟩ := Cond.arrayClass_spec h
  exact ⟨cA, fun n z => ⟨fun k q => (by cases q), kA, h2, comp, h3⟩, h1⟩
theorem st_arq {s : State} {C : String} (h : va_AO C s) : ∃ cA : ClassId, ArrOfT s cA (.object C) ∧ va_RA s cA (.object C) := by
  obtain ⟨comp, cA, kA, h1, -, h3, h4, h5⟩ := Cond.arrayOver_spec h
  exact ⟨cA, fun n z => ⟨fun k q => (by cases q), kA, h3, comp, h4⟩, kA, comp, h3, h4, h1, h5⟩
theorem st_K {s : State} {a : Array Value} (hts : ∀ w ∈ lw_tbl, w.before a s = true) : ∃ (D : va_G) (cA : Nat → ClassId), ∀ b z ss, ab_K (pg_G D cA b z ss) s := by
  have h1 : ∀ c, ∃ q : ClassId × (Nat → Nat), c < 13 → u_Kn s (pg_N c) (pg_T c) (pg_F c) q.1 q.2 := by
    intro c
    by_cases hc : c < 13
    · have hin := (List.mem_filter.mp (pg_VN_in _ (pk_VN c hc).1)).1
      obtain ⟨cC, iS, h⟩ := u_known hts (pk_lays c hc) (hts _ hin)
      exact ⟨(cC, iS), fun _ => h⟩
    · exact ⟨(0, fun _ => 0), fun h => absurd h hc⟩
  have aT : va_AO (pg_N 7) s := hts (.arrayOver (.object "MillTown$Text")) (by decide +kernel)
  have aB : va_AO (pg_N 10) s := hts (.arrayOver (.object "MillTown$WeekBook")) (by decide +kernel)
  have w1 := fun w (hw : w ∈ pg_Ts) => hts w (List.mem_filter.mp hw).1
  obtain ⟨-, -, -, -, -, wi, wl, wz⟩ := pk_W1
  obtain ⟨ci, ci1, ci2⟩ := st_arr (w1 _ wi)
  obtain ⟨cl, cl1, cl2⟩ := st_arr (w1 _ wl)
  obtain ⟨cz, cz1, cz2⟩ := st_arr (w1 _ wz)
  obtain ⟨ct, ct1, ct2⟩ := st_arq aT
  obtain ⟨cb, cb1, cb2⟩ := st_arq aB
  refine ⟨(fun c => (Classical.choose (h1 c)).1, fun c => (Classical.choose (h1 c)).2), fun kd => if kd = 0 then ci else if kd = 1 then cl else if kd = 2 then cz else if kd = 10 then ct else cb, fun b z ss => ⟨fun c hc => Classical.choose_spec (h1 c) hc, fun kd hk => ?_, fun c hc => ?_⟩⟩
  · have hk' : kd ∈ [0, 1, 2, 10, 13] := of_decide_eq_true hk
    simp only [List.mem_cons, List.not_mem_nil, or_false] at hk'
    rcases hk' with rfl | rfl | rfl | rfl | rfl
    · exact ⟨ci1, ci2⟩
    · exact ⟨cl1, cl2⟩
    · exact ⟨cz1, cz2⟩
    · exact ⟨ct1, ct2⟩
    · exact ⟨cb1, cb2⟩
  · have hk' : 3 + c ∈ [0, 1, 2, 10, 13] := of_decide_eq_true hc
    simp only [List.mem_cons, List.not_mem_nil, or_false] at hk'
    have : c = 7 ∨ c = 10 := by omega
    rcases this with rfl | rfl
    · exact ⟨show 7 < 13 by decide, aT⟩
    · exact ⟨show 10 < 13 by decide, aB⟩
/-- the law's walk out of a run of the abstract machine -/
theorem st_start {p : Program} {e : Env} {s : State} {m : MethodId} {below : List Frame} {meth : Method} {c : Code} (l : Launch) {b L : Nat} {xs : Nat → Int32} (C0 : lw_At p s m meth c b L xs) (hk : ∀ M, M < 332 → pk_M M = true)
    (hex : ∃ ss, ∀ D cA, ∃ E : State → Prop, ab_cl (pg_G D cA b (s.heap.size - 1) ss) E ∧ E s ∧ ∀ M pc, 70 ≤ (pg_cd M pc).1 → (pg_cd M pc).1 < 80 → ab_okX (pg_G D cA b (s.heap.size - 1) ss) pg_Ts E l pg_sw (pg_mb M) (pg_my M).cls (pg_mx M) pc (pg_cd M pc))
    (hrun : ∃ n h', ab_rs pg_cd pg_sw pg_na pg_mx pg_mc n 60 pg_law 0 (ab_ent [.ref 0] 4) [] (st_h0 L xs) = some (some (.int 1), h') ∧ ab_n h' ≤ 600001 ∧ ab_t h' ≤ 7302250) :
    W p l e room_1 s m #[Value.ref b] below meth c s.heap [] 0 0 (lw_Z below #[Value.ref b] s) (entryFrame m ([Value.ref b] : List Value).toArray 4) := by
  obtain ⟨hx, hb, hr, hml, hown, hts, hX0, hbl, hlocks, hgv⟩ := C0
  obtain ⟨D, cA, hK⟩ := st_K hts
  obtain ⟨ss, hex⟩ := hex
  obtain ⟨E, hEc, hEs, hXX⟩ := hex D cA
  obtain ⟨n, h', hrs, hn, ht⟩ := hrun
  generalize hg : pg_G D cA b (s.heap.size - 1) ss = g at *
  have hKg : ab_K g s := by rw [← hg]; exact hK _ _ _
  have hTW : ab_TW pg_Ts s := fun w hw a => by
    rcases pw_good w hw with h1 | h1
    · exact word_at (State.WarmedH.refl s) (good_of_word h1) (hts w (List.mem_filter.mp hw).1)
    · have h2 := hts w (List.mem_filter.mp hw).1
      cases w with
      | fieldLinkNest a1 a2 a3 a4 a5 a6 => exact va_tabs rfl rfl h2
      | methodLinkNest a1 a2 a3 a4 => exact va_tabs rfl rfl h2
      | _ => cases h1
  have hz : gc_z g = s.heap.size - 1 := by rw [← hg]; rfl
  have hbg : gc_b g = b := by rw [← hg]; rfl
  have hRep : ab_Rep g s (st_h0 L xs) s.heap := by
    refine ⟨?_, ?_, by show 0 < 1; omega, ?_, fun i h1 h2 => ?_⟩
    · rw [hz]; show _ = s.heap.size - 1 + 1; omega
    · rw [hz, hbg]; omega
    · rw [hbg]; exact hX0
    · have : i < 1 := h2
      omega
  have hwf : ab_wf g pg_Ts := by rw [← hg]; exact pk_wf
  have hP : ab_okP g pg_Ts E l pg_cd pg_sw pg_na pg_mx pg_mc pg_my pg_mb pg_mr := by
    rw [← hg]
    rw [← hg] at hXX
    exact pk_okP hk hXX
  have key := ab_sound hEc pw_good hwf hP n 60 pg_law 0 _ [] (st_h0 L xs) (some (.int 1)) h' hrs p e room_1 s m #[Value.ref b] below meth c (lw_Z below #[Value.ref b] s) 0 0 hx hb hml hown hTW hKg hEs (fun hi => by
    have : ¬ (pg_my pg_law).name = "<init>" := by decide +kernel
    exact absurd hi this) (by decide) (by decide) (by show 0 + (ab_n h' - 1) ≤ 600000; omega) (by show 0 + (ab_t h' - 0) ≤ 7302250; omega) (fun H' locs' pc' ls' r1 r2 r3 => by
      have hd : decode code pc' = .ok (.ireturn, 1) := by
        rcases r3 with ⟨v, ty, -, hd, -⟩ | ⟨v, h1, -⟩ | ⟨h1, -⟩ | ⟨h1, -⟩
        · exact hd
        · cases h1
        · rcases h1 with h1 | ⟨i, h1⟩ <;> cases h1
        · cases h1
      refine va_forget (fun q hq => ?_) ?_
      · have : gc_z g < q.base := r2.2.2 q hq
        rw [hz] at this
        omega
      · refine W.widen (k := 600000) (n := 7302250) ?_ ?_ (lw_ret hx hb hr hlocks hd)
        · show 0 + (ab_n h' - 1) ≤ 600000; omega
        · show 0 + (ab_t h' - 0) ≤ 7302250; omega)
  have hent : ([Value.ref b] : List Value) = ([Value.ref 0] : List Value).map (ab_cv g) := by
    show _ = [Value.ref (ab_ad g 0)]
    have : ab_ad g 0 = b := by unfold ab_ad; rw [if_pos rfl, hbg]
    rw [this]
  have k2 := key s.heap [] _ hRep va_S.rf (ab_L_ent (n := 4) (by decide))
  rw [← hent] at k2
  rw [lg_entry_eq]
  exact k2
