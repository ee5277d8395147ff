/-! ===== other code of the platform: floorDiv (segments printed by wip/whole, contracts own work) ===== -/
theorem fd_at_0 : decode prog_15_method_47_code 0 = .ok (.iload_n 0, 1) := by decide +kernel
theorem fd_at_1 : decode prog_15_method_47_code 1 = .ok (.iload_n 1, 1) := by decide +kernel
theorem fd_at_2 : decode prog_15_method_47_code 2 = .ok (.idiv, 1) := by decide +kernel
theorem fd_at_3 : decode prog_15_method_47_code 3 = .ok (.istore_n 2, 1) := by decide +kernel
theorem fd_at_4 : decode prog_15_method_47_code 4 = .ok (.iload_n 0, 1) := by decide +kernel
theorem fd_at_5 : decode prog_15_method_47_code 5 = .ok (.iload_n 1, 1) := by decide +kernel
theorem fd_at_6 : decode prog_15_method_47_code 6 = .ok (.ixor, 1) := by decide +kernel
theorem fd_at_7 : decode prog_15_method_47_code 7 = .ok (.ifCond .ge 14, 3) := by decide +kernel
theorem fd_at_10 : decode prog_15_method_47_code 10 = .ok (.iload_n 2, 1) := by decide +kernel
theorem fd_at_11 : decode prog_15_method_47_code 11 = .ok (.iload_n 1, 1) := by decide +kernel
theorem fd_at_12 : decode prog_15_method_47_code 12 = .ok (.imul, 1) := by decide +kernel
theorem fd_at_13 : decode prog_15_method_47_code 13 = .ok (.iload_n 0, 1) := by decide +kernel
theorem fd_at_14 : decode prog_15_method_47_code 14 = .ok (.if_icmp .eq 7, 3) := by decide +kernel
theorem fd_at_17 : decode prog_15_method_47_code 17 = .ok (.iload_n 2, 1) := by decide +kernel
theorem fd_at_18 : decode prog_15_method_47_code 18 = .ok (.iconst 1, 1) := by decide +kernel
theorem fd_at_19 : decode prog_15_method_47_code 19 = .ok (.isub, 1) := by decide +kernel
theorem fd_at_20 : decode prog_15_method_47_code 20 = .ok (.ireturn, 1) := by decide +kernel
theorem fd_at_21 : decode prog_15_method_47_code 21 = .ok (.iload_n 2, 1) := by decide +kernel
theorem fd_at_22 : decode prog_15_method_47_code 22 = .ok (.ireturn, 1) := by decide +kernel
def fd_name : MethodName := ⟨"java/lang/Math", "floorDiv", "(II)I"⟩
def fd_v (x y : Int32) : Int32 := if 0 ≤ x ^^^ y then x / y else if x / y * y = x then x / y else x / y - 1
theorem fd_noRow0 : (NativeRow.find? natives fd_name.cls fd_name.name fd_name.desc).isNone = true := by decide +kernel
theorem fd_noRow (p : Program) : NativeRow.find? p.tables.natives fd_name.cls fd_name.name fd_name.desc = none := by
  cases p <;> exact Option.isNone_iff_eq_none.mp fd_noRow0
/-- what floorDiv answers, in the claims' words -/
def fd_spec : Spec where
  pre := .and (.code fd_name prog_15_method_47_code 3 (some .int)) (.and (.count 2) (.and (.isInt (.arg 0)) (.and (.isInt (.arg 1)) (.not (.eq (.arg 1) (.int 0))))))
  post := .and .returned (.or (.and (.le (.int 0) (.op2 .ixor (.arg 0) (.arg 1))) (.eq .result (.div (.arg 0) (.arg 1)))) (.and (.not (.le (.int 0) (.op2 .ixor (.arg 0) (.arg 1)))) (.or (.and (.eq (.mul (.div (.arg 0) (.arg 1)) (.arg 1)) (.arg 0)) (.eq .result (.div (.arg 0) (.arg 1)))) (.and (.not (.eq (.mul (.div (.arg 0) (.arg 1)) (.arg 1)) (.arg 0))) (.eq .result (.sub (.div (.arg 0) (.arg 1)) (.int 1)))))))
  changes := some []
theorem fd_pre {args : Array Value} {s : State} (h : fd_spec.pre.before args s = true) : (Cond.code fd_name prog_15_method_47_code 3 (some .int)).before args s = true ∧ ∃ a b : Int32, args = #[.int a, .int b] ∧ ¬ b = 0 := by
  simp only [fd_spec, Cond.before_and, Bool.and_eq_true] at h
  obtain ⟨h0, h1, h2, h3, h4⟩ := h
  obtain ⟨a, b, rfl⟩ := Cond.two_ints h1 h2 h3
  refine ⟨h0, a, b, rfl, fun hb => ?_⟩
  simp [Cond.before, Cond.holds, Cond.value, Term.eval, hb] at h4
theorem fd_meets (l : Launch) : Meets l fd_name fd_spec := by
  refine Meets.of_body_ov (code := prog_15_method_47_code) (maxLocals := 3) (ret := some .int) fd_noRow (fun args s h => (fd_pre h).1) ?_
  intro p e s m args below meth c s₁ B
  obtain ⟨-, a, b, rfl, hb⟩ := fd_pre B.pre
  have hloc : argsToLocals #[.int a, .int b] 3 = #[.val (.int a), .val (.int b), .unset] := rfl
  have fin : ∀ r : Int32, (∀ fs, Steps p.tables e below (s₁.setTop (entryFrame m #[.int a, .int b] 3)) (s₁.setFrames fs) ∨ handOver s₁ (some (.int r)) below ≠ some fs) →
      (fd_spec.post.after #[.int a, .int b] s (.returned (some (.int r))) = fun _ => true) →
      ∃ s₂ o, Steps p.tables e below (s₁.setTop (entryFrame m #[.int a, .int b] 3)) s₂ ∧ s₂.status = .running ∧ Ended s₂ below o ∧
        fd_spec.ensures #[.int a, .int b] s o s₂ := by
    intro r hwalk hpost
    obtain ⟨fs, hfs⟩ := handOver_isSome (s := s₁) (some (.int r)) B.hears₁
    refine ⟨s₁.setFrames fs, .returned (some (.int r)), (hwalk fs).resolve_right (fun h => h hfs), B.here.running, B.ended hfs (by intro h; cases h), ?_, State.sameBut_nil.mpr ?_⟩
    · rw [hpost]
    · rw [State.frames_setFrames _ B.cur₁, B.back]
  by_cases h1 : 0 ≤ a ^^^ b
  · refine fin (a / b) (fun fs => ?_) (by funext s'; simp [fd_spec, Cond.after, Cond.holds, Cond.value, Term.eval, Binary.apply, hb, h1])
    by_cases hfs : handOver s₁ (some (.int (a / b))) below = some fs
    · left
      unfold entryFrame; rw [hloc]
      refine Steps.instrAtOv (c := _) (by simpa using B.here) ?_
      simp [jvm, wpRun, exec, B.here.top, B.exec, B.bytes, fd_at_0]
      refine Steps.instrAtOv (c := _) (by simpa using B.here) ?_
      simp [jvm, wpRun, exec, B.here.top, B.exec, B.bytes, fd_at_1]
      refine Steps.instrAtOv (c := _) (by simpa using B.here) ?_
      simp [jvm, wpRun, exec, B.here.top, B.exec, B.bytes, fd_at_2, hb]
      refine Steps.instrAtOv (c := _) (by simpa using B.here) ?_
      simp [jvm, wpRun, exec, B.here.top, B.exec, B.bytes, fd_at_3, storeLocals, storeSelf, setAt, Value.category]
      refine Steps.instrAtOv (c := _) (by simpa using B.here) ?_
      simp [jvm, wpRun, exec, B.here.top, B.exec, B.bytes, fd_at_4]
      refine Steps.instrAtOv (c := _) (by simpa using B.here) ?_
      simp [jvm, wpRun, exec, B.here.top, B.exec, B.bytes, fd_at_5]
      refine Steps.instrAtOv (c := _) (by simpa using B.here) ?_
      simp [jvm, wpRun, exec, B.here.top, B.exec, B.bytes, fd_at_6]
      refine Steps.instrAtOv (c := _) (by simpa using B.here) ?_
      simp [jvm, wpRun, exec, B.here.top, B.exec, B.bytes, fd_at_7, ifCond.holds, h1]
      refine Steps.instrAtOv (c := _) (by simpa using B.here) ?_
      simp [jvm, wpRun, exec, B.here.top, B.exec, B.bytes, fd_at_21]
      refine Steps.instrAtOv (c := _) (by simpa using B.here) ?_
      simp [jvm, wpRun, exec, B.here.top, B.exec, B.bytes, fd_at_22, B.method₁, B.returns, narrow]
      intro acts
      rw [ret_to B.frames₁ B.method₁ B.notSynchronized rfl rfl hfs]
      exact Steps.refl _
    · exact Or.inr hfs
  · by_cases h2 : a / b * b = a
    · refine fin (a / b) (fun fs => ?_) (by funext s'; simp [fd_spec, Cond.after, Cond.holds, Cond.value, Term.eval, Binary.apply, hb, h1, h2])
      by_cases hfs : handOver s₁ (some (.int (a / b))) below = some fs
      · left
        unfold entryFrame; rw [hloc]
        refine Steps.instrAtOv (c := _) (by simpa using B.here) ?_
        simp [jvm, wpRun, exec, B.here.top, B.exec, B.bytes, fd_at_0]
        refine Steps.instrAtOv (c := _) (by simpa using B.here) ?_
        simp [jvm, wpRun, exec, B.here.top, B.exec, B.bytes, fd_at_1]
        refine Steps.instrAtOv (c := _) (by simpa using B.here) ?_
        simp [jvm, wpRun, exec, B.here.top, B.exec, B.bytes, fd_at_2, hb]
        refine Steps.instrAtOv (c := _) (by simpa using B.here) ?_
        simp [jvm, wpRun, exec, B.here.top, B.exec, B.bytes, fd_at_3, storeLocals, storeSelf, setAt, Value.category]
        refine Steps.instrAtOv (c := _) (by simpa using B.here) ?_
        simp [jvm, wpRun, exec, B.here.top, B.exec, B.bytes, fd_at_4]
        refine Steps.instrAtOv (c := _) (by simpa using B.here) ?_
        simp [jvm, wpRun, exec, B.here.top, B.exec, B.bytes, fd_at_5]
        refine Steps.instrAtOv (c := _) (by simpa using B.here) ?_
        simp [jvm, wpRun, exec, B.here.top, B.exec, B.bytes, fd_at_6]
        refine Steps.instrAtOv (c := _) (by simpa using B.here) ?_
        simp [jvm, wpRun, exec, B.here.top, B.exec, B.bytes, fd_at_7, ifCond.holds, h1]
        refine Steps.instrAtOv (c := _) (by simpa using B.here) ?_
        simp [jvm, wpRun, exec, B.here.top, B.exec, B.bytes, fd_at_10]
        refine Steps.instrAtOv (c := _) (by simpa using B.here) ?_
        simp [jvm, wpRun, exec, B.here.top, B.exec, B.bytes, fd_at_11]
        refine Steps.instrAtOv (c := _) (by simpa using B.here) ?_
        simp [jvm, wpRun, exec, B.here.top, B.exec, B.bytes, fd_at_12]
        refine Steps.instrAtOv (c := _) (by simpa using B.here) ?_
        simp [jvm, wpRun, exec, B.here.top, B.exec, B.bytes, fd_at_13]
        refine Steps.instrAtOv (c := _) (by simpa using B.here) ?_
        simp [jvm, wpRun, exec, B.here.top, B.exec, B.bytes, fd_at_14, if_icmp.holds, h2]
        refine Steps.instrAtOv (c := _) (by simpa using B.here) ?_
        simp [jvm, wpRun, exec, B.here.top, B.exec, B.bytes, fd_at_21]
        refine Steps.instrAtOv (c := _) (by simpa using B.here) ?_
        simp [jvm, wpRun, exec, B.here.top, B.exec, B.bytes, fd_at_22, B.method₁, B.returns, narrow]
        intro acts
        rw [ret_to B.frames₁ B.method₁ B.notSynchronized rfl rfl hfs]
        exact Steps.refl _
      · exact Or.inr hfs
    · refine fin (a / b - 1) (fun fs => ?_) (by funext s'; simp [fd_spec, Cond.after, Cond.holds, Cond.value, Term.eval, Binary.apply, hb, h1, h2])
      by_cases hfs : handOver s₁ (some (.int (a / b - 1))) below = some fs
      · left
        unfold entryFrame; rw [hloc]
        refine Steps.instrAtOv (c := _) (by simpa using B.here) ?_
        simp [jvm, wpRun, exec, B.here.top, B.exec, B.bytes, fd_at_0]
        refine Steps.instrAtOv (c := _) (by simpa using B.here) ?_
        simp [jvm, wpRun, exec, B.here.top, B.exec, B.bytes, fd_at_1]
        refine Steps.instrAtOv (c := _) (by simpa using B.here) ?_
        simp [jvm, wpRun, exec, B.here.top, B.exec, B.bytes, fd_at_2, hb]
        refine Steps.instrAtOv (c := _) (by simpa using B.here) ?_
        simp [jvm, wpRun, exec, B.here.top, B.exec, B.bytes, fd_at_3, storeLocals, storeSelf, setAt, Value.category]
        refine Steps.instrAtOv (c := _) (by simpa using B.here) ?_
        simp [jvm, wpRun, exec, B.here.top, B.exec, B.bytes, fd_at_4]
        refine Steps.instrAtOv (c := _) (by simpa using B.here) ?_
        simp [jvm, wpRun, exec, B.here.top, B.exec, B.bytes, fd_at_5]
        refine Steps.instrAtOv (c := _) (by simpa using B.here) ?_
        simp [jvm, wpRun, exec, B.here.top, B.exec, B.bytes, fd_at_6]
        refine Steps.instrAtOv (c := _) (by simpa using B.here) ?_
        simp [jvm, wpRun, exec, B.here.top, B.exec, B.bytes, fd_at_7, ifCond.holds, h1]
        refine Steps.instrAtOv (c := _) (by simpa using B.here) ?_
        simp [jvm, wpRun, exec, B.here.top, B.exec, B.bytes, fd_at_10]
        refine Steps.instrAtOv (c := _) (by simpa using B.here) ?_
        simp [jvm, wpRun, exec, B.here.top, B.exec, B.bytes, fd_at_11]
        refine Steps.instrAtOv (c := _) (by simpa using B.here) ?_
        simp [jvm, wpRun, exec, B.here.top, B.exec, B.bytes, fd_at_12]
        refine Steps.instrAtOv (c := _) (by simpa using B.here) ?_
        simp [jvm, wpRun, exec, B.here.top, B.exec, B.bytes, fd_at_13]
        refine Steps.instrAtOv (c := _) (by simpa using B.here) ?_
        simp [jvm, wpRun, exec, B.here.top, B.exec, B.bytes, fd_at_14, if_icmp.holds, h2]
        refine Steps.instrAtOv (c := _) (by simpa using B.here) ?_
        simp [jvm, wpRun, exec, B.here.top, B.exec, B.bytes, fd_at_17]
        refine Steps.instrAtOv (c := _) (by simpa using B.here) ?_
        simp [jvm, wpRun, exec, B.here.top, B.exec, B.bytes, fd_at_18]
        refine Steps.instrAtOv (c := _) (by simpa using B.here) ?_
        simp [jvm, wpRun, exec, B.here.top, B.exec, B.bytes, fd_at_19]
        refine Steps.instrAtOv (c := _) (by simpa using B.here) ?_
        simp [jvm, wpRun, exec, B.here.top, B.exec, B.bytes, fd_at_20, B.method₁, B.returns, narrow]
        intro acts
        rw [ret_to B.frames₁ B.method₁ B.notSynchronized rfl rfl hfs]
        exact Steps.refl _
      · exact Or.inr hfs
section VFD
variable {p : Program} {l : Launch} {e : Env} {R : Room} {s : State} {m : MethodId} {args : Array Value} {below : List Frame} {meth : Method} {c : Code} {cells slots : Nat} {H : Heap} {Q : State → Prop} {T : State} {locs : List Loc} {pc : Nat} {ls : Array Slot} {rest : List Value} {cc : ByteArray}
theorem va_fd (hexec : p.tables.exec = Jvm.exec) (hb : c.code = cc) (hml : c.maxLocals = ls.size) {own : String} {index : Nat} (hown : s.vm.findClass own = some m.cls) (hlink : (Cond.methodLink own index fd_name).before args s = true) (hstat : (Cond.static fd_name).before args s = true) (hini : (Cond.initialized "java/lang/Math").before args s = true) (hcode : (Cond.code fd_name prog_15_method_47_code 3 (some .int)).before args s = true)
    (hframes : 1 ≤ R.frames) (hlocals : (rest.map fun v => v.category).sum + 14 ≤ R.locals) (hc : cells ≤ R.cells) (hs : slots ≤ R.slots) {x y : Int32} (hy : ¬ y = 0) (hdg : decode cc pc = .ok (.invokestatic index, 3))
    (kk : W p l e R s m args below meth c H locs cells slots Q (F0 m (pc + 3) ls (.int (fd_v x y) :: rest))) : W p l e R s m args below meth c H locs cells slots Q (F0 m pc ls (.int y :: .int x :: rest)) := by
  intro T hT X
  obtain ⟨v, vm', X', ⟨first, t, hpost⟩, hstep⟩ := X.staticByContractV hexec hown hlink hstat hini hcode (by decide)
    (Meets.loose_of_no_refs (fd_meets l) fun args' s' h => by
      obtain ⟨-, a, b, rfl, -⟩ := fd_pre h
      intro r hr; simp at hr)
    rfl rfl rfl rfl
    (fun args' first o s₂ h => by
      simp only [fd_spec, Cond.after_and, Bool.and_eq_true] at h
      cases o with
      | returned r => exact ⟨r, rfl⟩
      | threw y => simp [Cond.after, Cond.holds, Cond.value] at h)
    (g := F0 m pc ls (.int y :: .int x :: rest)) rfl (by rw [hml]) (argsL := [.int x, .int y]) (rest := rest)
    (fun sig hs => by
      have h : parseMethodDescriptor "(II)I" = some { parameters := [.int, .int], returnType := some .int } := by decide +kernel
      rw [show fd_name.desc = "(II)I" from rfl, h] at hs
      rw [← Option.some.inj hs]; rfl)
    rfl (by rw [hb]; exact hdg)
    (fun vm' hW => by
      simp only [fd_spec, Cond.before_and, Bool.and_eq_true]
      refine ⟨?_, rfl, rfl, rfl, ?_⟩
      · have q := hcode
        rw [← Cond.code_setVm hW.alike] at q
        simp only [Cond.before, Cond.holds, Cond.value, State.methodNamed?, State.vm_setVm] at q ⊢
        exact q
      · simp [Cond.before, Cond.holds, Cond.value, Term.eval, hy])
    (by show 0 + 1 ≤ R.frames; omega) (by show 2 * 0 + (rest.map fun v => v.category).sum + (3 + 11) + 0 ≤ R.locals; omega) (by show cells + 0 ≤ R.cells; omega) (by show slots + 0 ≤ R.slots; omega)
  have hv : v = some (.int (fd_v x y)) := by
    unfold fd_v
    rcases v with _ | w
    · by_cases h1 : 0 ≤ x ^^^ y <;> by_cases h2 : x / y * y = x <;> simp [fd_spec, Cond.after, Cond.holds, Cond.value, Term.eval, Binary.apply, hy, h1, h2] at hpost
    · by_cases h1 : 0 ≤ x ^^^ y
      · rw [if_pos h1]
        cases w <;> simp [fd_spec, Cond.after, Cond.holds, Cond.value, Term.eval, Binary.apply, hy, h1] at hpost
        rename_i r
        by_cases hr : r = x / y <;> simp [hr] at hpost ⊢
      · rw [if_neg h1]
        by_cases h2 : x / y * y = x
        · rw [if_pos h2]
          cases w <;> simp [fd_spec, Cond.after, Cond.holds, Cond.value, Term.eval, Binary.apply, hy, h1, h2] at hpost
          rename_i r
          by_cases hr : r = x / y <;> simp [hr] at hpost ⊢
        · rw [if_neg h2]
          cases w <;> simp [fd_spec, Cond.after, Cond.holds, Cond.value, Term.eval, Binary.apply, hy, h1, h2] at hpost
          rename_i r
          by_cases hr : r = x / y - 1 <;> simp [hr] at hpost ⊢
  subst hv
  obtain ⟨t, a1, b1⟩ := kk (T.setVm vm') hT X'
  exact ⟨t, hstep t a1, b1⟩
end VFD
section OXF
variable {g : ab_G} {Ts : List Cond} {E : State → Prop} {l : Launch} {sw : Nat → Int × Int × Int × List Int} {cc : ByteArray} {own : String} {nL pc a b k : Nat} {z : Int}
theorem ox_72 (w1 : Cond.methodLink own b fd_name ∈ Ts) (w2 : Cond.static fd_name ∈ Ts) (w3 : Cond.initialized "java/lang/Math" ∈ Ts) (w4 : Cond.code fd_name prog_15_method_47_code 3 (some .int) ∈ Ts) (hd : decode cc pc = .ok (.invokestatic b, 3)) : ab_okX g Ts E l sw cc own nL pc (72, a, b, k, z) := by
  intro p e R s m args below meth c Q cells slots L st h q hx hb hml hown hTW hK hE hf hlo hc hs hq kk
  simp only [ab_ext, ab_x2] at hq
  split at hq
  · split at hq
    · rename_i hr
      obtain ⟨v, hv, hq⟩ := Option.bind_eq_some_iff.mp hq
      try dsimp only at hv
      split at hv
      · cases hv
      · rename_i hy
        cases hv
        cases hq
        intro H locs ls hR hS hL
        have k2 := kk H locs ls hR hS hL
        refine va_fd hx hb (by rw [hml]; exact hL.2.1.symm) hown (hTW _ w1 _) (hTW _ w2 _) (hTW _ w3 _) (hTW _ w4 _) (by omega) (by rw [ab_cats]; omega) hc hs hy hd ?_
        unfold fd_v
        rw [Int32.sub_eq_add_neg]
        exact k2
    · cases hq
  · cases hq
end OXF
