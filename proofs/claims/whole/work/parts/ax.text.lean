/-! ===== other code of the platform: String (segments printed by wip/whole, contracts own work) ===== -/
theorem sd_16_54_0 : decode prog_16_method_54_code 0 = .ok (.aload_n 0, 1) := by decide +kernel
theorem sd_16_54_1 : decode prog_16_method_54_code 1 = .ok (.getfield 9, 3) := by decide +kernel
theorem sd_16_54_4 : decode prog_16_method_54_code 4 = .ok (.arraylength, 1) := by decide +kernel
theorem sd_16_54_5 : decode prog_16_method_54_code 5 = .ok (.aload_n 0, 1) := by decide +kernel
theorem sd_16_54_6 : decode prog_16_method_54_code 6 = .ok (.invokevirtual 335, 3) := by decide +kernel
theorem sd_16_54_9 : decode prog_16_method_54_code 9 = .ok (.ishr, 1) := by decide +kernel
theorem sd_16_54_10 : decode prog_16_method_54_code 10 = .ok (.ireturn, 1) := by decide +kernel
theorem sd_16_56_0 : decode prog_16_method_56_code 0 = .ok (.aload_n 0, 1) := by decide +kernel
theorem sd_16_56_1 : decode prog_16_method_56_code 1 = .ok (.invokevirtual 492, 3) := by decide +kernel
theorem sd_16_56_4 : decode prog_16_method_56_code 4 = .ok (.ifCond .eq 12, 3) := by decide +kernel
theorem sd_16_56_7 : decode prog_16_method_56_code 7 = .ok (.aload_n 0, 1) := by decide +kernel
theorem sd_16_56_8 : decode prog_16_method_56_code 8 = .ok (.getfield 9, 3) := by decide +kernel
theorem sd_16_56_11 : decode prog_16_method_56_code 11 = .ok (.iload_n 1, 1) := by decide +kernel
theorem sd_16_56_12 : decode prog_16_method_56_code 12 = .ok (.invokestatic 495, 3) := by decide +kernel
theorem sd_16_56_15 : decode prog_16_method_56_code 15 = .ok (.ireturn, 1) := by decide +kernel
theorem sd_16_152_0 : decode prog_16_method_152_code 0 = .ok (.getstatic 38, 3) := by decide +kernel
theorem sd_16_152_3 : decode prog_16_method_152_code 3 = .ok (.ifCond .eq 10, 3) := by decide +kernel
theorem sd_16_152_6 : decode prog_16_method_152_code 6 = .ok (.aload_n 0, 1) := by decide +kernel
theorem sd_16_152_7 : decode prog_16_method_152_code 7 = .ok (.getfield 15, 3) := by decide +kernel
theorem sd_16_152_10 : decode prog_16_method_152_code 10 = .ok (.goto 4, 3) := by decide +kernel
theorem sd_16_152_14 : decode prog_16_method_152_code 14 = .ok (.ireturn, 1) := by decide +kernel
theorem sd_16_154_0 : decode prog_16_method_154_code 0 = .ok (.getstatic 38, 3) := by decide +kernel
theorem sd_16_154_3 : decode prog_16_method_154_code 3 = .ok (.ifCond .eq 14, 3) := by decide +kernel
theorem sd_16_154_6 : decode prog_16_method_154_code 6 = .ok (.aload_n 0, 1) := by decide +kernel
theorem sd_16_154_7 : decode prog_16_method_154_code 7 = .ok (.getfield 15, 3) := by decide +kernel
theorem sd_16_154_10 : decode prog_16_method_154_code 10 = .ok (.ifCond .ne 7, 3) := by decide +kernel
theorem sd_16_154_13 : decode prog_16_method_154_code 13 = .ok (.iconst 1, 1) := by decide +kernel
theorem sd_16_154_14 : decode prog_16_method_154_code 14 = .ok (.goto 4, 3) := by decide +kernel
theorem sd_16_154_18 : decode prog_16_method_154_code 18 = .ok (.ireturn, 1) := by decide +kernel
theorem sd_16_155_0 : decode prog_16_method_155_code 0 = .ok (.iload_n 0, 1) := by decide +kernel
theorem sd_16_155_1 : decode prog_16_method_155_code 1 = .ok (.iload_n 1, 1) := by decide +kernel
theorem sd_16_155_2 : decode prog_16_method_155_code 2 = .ok (.getstatic 1053, 3) := by decide +kernel
theorem sd_16_155_5 : decode prog_16_method_155_code 5 = .ok (.invokestatic 1059, 3) := by decide +kernel
theorem sd_16_155_8 : decode prog_16_method_155_code 8 = .ok (.pop, 1) := by decide +kernel
theorem sd_16_155_9 : decode prog_16_method_155_code 9 = .ok (.return_, 1) := by decide +kernel
theorem sd_17_2_0 : decode prog_17_method_2_code 0 = .ok (.iload_n 1, 1) := by decide +kernel
theorem sd_17_2_1 : decode prog_17_method_2_code 1 = .ok (.aload_n 0, 1) := by decide +kernel
theorem sd_17_2_2 : decode prog_17_method_2_code 2 = .ok (.arraylength, 1) := by decide +kernel
theorem sd_17_2_3 : decode prog_17_method_2_code 3 = .ok (.invokestatic 9, 3) := by decide +kernel
theorem sd_17_2_6 : decode prog_17_method_2_code 6 = .ok (.aload_n 0, 1) := by decide +kernel
theorem sd_17_2_7 : decode prog_17_method_2_code 7 = .ok (.iload_n 1, 1) := by decide +kernel
theorem sd_17_2_8 : decode prog_17_method_2_code 8 = .ok (.baload, 1) := by decide +kernel
theorem sd_17_2_9 : decode prog_17_method_2_code 9 = .ok (.sipush 255, 3) := by decide +kernel
theorem sd_17_2_12 : decode prog_17_method_2_code 12 = .ok (.iand, 1) := by decide +kernel
theorem sd_17_2_13 : decode prog_17_method_2_code 13 = .ok (.i2c, 1) := by decide +kernel
theorem sd_17_2_14 : decode prog_17_method_2_code 14 = .ok (.ireturn, 1) := by decide +kernel
theorem sd_21_11_0 : decode prog_21_method_11_code 0 = .ok (.iload_n 0, 1) := by decide +kernel
theorem sd_21_11_1 : decode prog_21_method_11_code 1 = .ok (.ifCond .lt 8, 3) := by decide +kernel
theorem sd_21_11_4 : decode prog_21_method_11_code 4 = .ok (.iload_n 0, 1) := by decide +kernel
theorem sd_21_11_5 : decode prog_21_method_11_code 5 = .ok (.iload_n 1, 1) := by decide +kernel
theorem sd_21_11_6 : decode prog_21_method_11_code 6 = .ok (.if_icmp .lt 10, 3) := by decide +kernel
theorem sd_21_11_16 : decode prog_21_method_11_code 16 = .ok (.iload_n 0, 1) := by decide +kernel
theorem sd_21_11_17 : decode prog_21_method_11_code 17 = .ok (.ireturn, 1) := by decide +kernel
abbrev sy_len : MethodName := ⟨"java/lang/String", "length", "()I"⟩
abbrev sy_at : MethodName := ⟨"java/lang/String", "charAt", "(I)C"⟩
abbrev sy_cod : MethodName := ⟨"java/lang/String", "coder", "()B"⟩
abbrev sy_lat : MethodName := ⟨"java/lang/String", "isLatin1", "()Z"⟩
abbrev sy_chk : MethodName := ⟨"java/lang/String", "checkIndex", "(II)V"⟩
abbrev sy_la : MethodName := ⟨"java/lang/StringLatin1", "charAt", "([BI)C"⟩
abbrev sy_pre : MethodName := ⟨"jdk/internal/util/Preconditions", "checkIndex", "(IILjava/util/function/BiFunction;)I"⟩
section SX
variable {g : ab_G} {Ts : List Cond} {E : State → Prop} {l : Launch}
/-- a method of the platform that keeps the heap: its entry, its answer -/
def sx_P (Ts : List Cond) (E : State → Prop) (as : List Value) : Array Value → State → Prop := fun v U => v = as.toArray ∧ ab_TW Ts U ∧ E U
def sx_Q (r : Option Value) : Array Value → State → Outcome → State → Prop := fun _ st o t => o = .returned r ∧ t.heap = st.heap
def sx_M (Ts : List Cond) (E : State → Prop) (l : Launch) (y : MethodName) (cc : ByteArray) (nL : Nat) (ret : Option FieldType) (fr lo : Nat) (as : List Value) (r : Option Value) : Prop := Met l y [Cond.code y cc nL ret] { frames := fr, cells := 0, slots := 0, locals := lo } (sx_P Ts E as) (sx_Q r) 0 0 (fun _ => False)
theorem sx_blind (hg : ab_good Ts) (hE : ab_cl g E) {as : List Value} : FrameBlind (sx_P Ts E as) := by
  intro a U gg mk hp
  obtain ⟨h1, h2, h3⟩ := hp
  exact ⟨h1, ab_TW_warm (U := U.calling gg mk a) hg (State.WarmedH.refl U) h2, hE U (U.calling gg mk a) U.heap [] h3 va_S.rf rfl (State.WarmedH.refl U)⟩
theorem sx_mk {y : MethodName} {cc : ByteArray} {nL : Nat} {ret : Option FieldType} {fr lo : Nat} {as : List Value} {r : Option Value} (hy : plainName y.cls = true)
    (body : ∀ (p : Program) (e : Env) (s : State) (m : MethodId) (below : List Frame) (meth : Method) (c : Code), p.tables.exec = Jvm.exec → c.code = cc → c.maxLocals = nL → s.vm.findClass y.cls = some m.cls → meth.sig.returnType = ret → meth.locks = false → ab_TW Ts s → E s → W p l e { frames := fr, cells := 0, slots := 0, locals := lo } s m as.toArray below meth c s.heap [] 0 0 (MQ below (sx_Q r) as.toArray s 0 0 (fun _ => False)) (entryFrame m as.toArray nL)) : sx_M Ts E l y cc nL ret fr lo as r := by
  refine Met.ofW (cc := cc) (maxL := nL) (ret := ret) hy rfl ?_
  intro p e s m args below meth c s₁ B hml hP
  obtain ⟨rfl, h1, h2⟩ := hP
  exact body p e s m below meth c B.exec B.bytes hml (findClass_of_methodNamed B.named) B.returns B.notSynchronized h1 h2
theorem sx_len {d : String} {n : Nat} (h : (parseMethodDescriptor d).map (fun q => q.parameters.length) = some n) : ∀ sig, parseMethodDescriptor d = some sig → n = sig.parameters.length := by
  intro sig z
  rw [z] at h
  exact (Option.some.inj h).symm
section SXW
variable {p : Program} {e : Env} {R : Room} {s : State} {m : MethodId} {args : Array Value} {below : List Frame} {meth : Method} {c : Code} {Q : State → Prop} {cells slots : Nat} {H : Heap} {locs : List Loc} {ls : Array Slot} {pc : Nat} {cc : ByteArray} {rest : List Value} {own : String} {index : Nat} {y : MethodName} {cy : ByteArray} {nLy : Nat} {ret : Option FieldType} {fr lo : Nat} {r : Option Value}
theorem sx_after {st0 : List Value} {a : Array Value} (hrun : va_Run p l e R s m args below meth c H locs cells slots 0 0 (F0 m pc ls st0) rest (sx_Q r a) (fun _ => False)) (k : W p l e R s m args below meth c H locs cells slots Q (F0 m (pc + 3) ls (r.toList ++ rest))) : W p l e R s m args below meth c H locs cells slots Q (F0 m pc ls st0) := by
  intro T hT X
  obtain ⟨v, st₀, t, T', LL, h0, X', hLL, e1, e2, ⟨hv, hH⟩, hst⟩ := hrun T hT X
  cases hv
  have hL : LL = [] := List.eq_nil_iff_forall_not_mem.mpr (fun q hq => hLL q hq)
  subst hL
  rw [List.append_nil] at X'
  obtain ⟨t2, a1, b1⟩ := k T' (by rw [e1, hH, h0]) X'
  exact ⟨t2, hst t2 a1, b1⟩
theorem sx_S {as : List Value} (hM : sx_M Ts E l y cy nLy ret fr lo as r) (hgood : ab_good Ts) (hEc : ab_cl g E) (w1 : Cond.code y cy nLy ret ∈ Ts) (w2 : Cond.initialized y.cls ∈ Ts) (w3 : y.cls ≠ "java/lang/invoke/MethodHandle" ∧ y.cls ≠ "java/lang/invoke/VarHandle") (w4 : ∀ sig, parseMethodDescriptor y.desc = some sig → as.length = sig.parameters.length) (w5 : Cond.methodLink own index y ∈ Ts) (w6 : Cond.static y ∈ Ts)
    (hx : p.tables.exec = Jvm.exec) (hb : c.code = cc) (hml : c.maxLocals = ls.size) (hown : s.vm.findClass own = some m.cls) (hTW : ab_TW Ts s) (hEs : E s) (hS : va_S (ab_S g) s.heap H locs) (hfr : fr + 1 ≤ R.frames) (hlo : 8 + (nLy + 11) + lo ≤ R.locals) (hc : cells ≤ R.cells) (hs : slots ≤ R.slots) (hsum : (rest.map fun v => v.category).sum ≤ 8) (hd : decode cc pc = .ok (.invokestatic index, 3))
    (k : W p l e R s m args below meth c H locs cells slots Q (F0 m (pc + 3) ls (r.toList ++ rest))) : W p l e R s m args below meth c H locs cells slots Q (F0 m pc ls (as.reverse ++ rest)) :=
  sx_after (va_runS (Ts := Ts) (own := own) (As := as) ⟨hx, hb, hml, hown, fun w hw => hTW w hw args⟩ hM ⟨⟨rfl, rfl, hfr, hlo, fun w hw a' U hW => (by rw [List.mem_singleton] at hw; subst hw; exact ab_TW_warm hgood hW hTW _ w1 a'), List.mem_singleton.mpr rfl, hTW _ w1 args, hTW _ w2 args, w3, w4, hTW _ w5 args⟩, hTW _ w6 args⟩ ⟨sx_blind hgood hEc, fun U hU hW => ⟨rfl, ab_TW_warm hgood hW hTW, hEc s U H locs hEs hS hU hW⟩⟩ rfl rfl rfl rfl (lv_room hsum) hd ⟨hc, hs⟩) k
theorem sx_V {Bs : List Value} {q : Nat} (hM : sx_M Ts E l y cy nLy ret fr lo (.ref q :: Bs) r) (hgood : ab_good Ts) (hEc : ab_cl g E) (w1 : Cond.code y cy nLy ret ∈ Ts) (w2 : Cond.initialized y.cls ∈ Ts) (w3 : y.cls ≠ "java/lang/invoke/MethodHandle" ∧ y.cls ≠ "java/lang/invoke/VarHandle") (w4 : ∀ sig, parseMethodDescriptor y.desc = some sig → Bs.length = sig.parameters.length) (w5 : Cond.methodLink own index y ∈ Ts) (w6 : Cond.instanceMethod y ∈ Ts) (w7 : Cond.selects y.cls y y ∈ Ts)
    (hx : p.tables.exec = Jvm.exec) (hb : c.code = cc) (hml : c.maxLocals = ls.size) (hown : s.vm.findClass own = some m.cls) (hTW : ab_TW Ts s) (hEs : E s) (hS : va_S (ab_S g) s.heap H locs) (hcell : ∃ cell : Cell, H[q]? = some cell ∧ cell.vm.isStatics = false ∧ s.vm.findClass y.cls = some cell.cls) (hfr : fr + 1 ≤ R.frames) (hlo : 8 + (nLy + 11) + lo ≤ R.locals) (hc : cells ≤ R.cells) (hs : slots ≤ R.slots) (hsum : (rest.map fun v => v.category).sum ≤ 8) (hd : decode cc pc = .ok (.invokevirtual index, 3))
    (k : W p l e R s m args below meth c H locs cells slots Q (F0 m (pc + 3) ls (r.toList ++ rest))) : W p l e R s m args below meth c H locs cells slots Q (F0 m pc ls (Bs.reverse ++ .ref q :: rest)) :=
  sx_after (va_runV (Ts := Ts) (own := own) (C := y.cls) (As := Bs) ⟨hx, hb, hml, hown, fun w hw => hTW w hw args⟩ hM ⟨⟨rfl, rfl, hfr, hlo, fun w hw a' U hW => (by rw [List.mem_singleton] at hw; subst hw; exact ab_TW_warm hgood hW hTW _ w1 a'), List.mem_singleton.mpr rfl, hTW _ w1 args, hTW _ w2 args, w3, w4, hTW _ w5 args⟩, hTW _ w6 args, hTW _ w7 args⟩ ⟨sx_blind hgood hEc, hcell, fun U hU hW => ⟨rfl, ab_TW_warm hgood hW hTW, hEc s U H locs hEs hS hU hW⟩⟩ rfl rfl rfl rfl (lv_room hsum) hd ⟨hc, hs⟩) k
end SXW
end SX
/-- the words of the tables, one by one -/
theorem sw_f9 : Cond.fieldLink "java/lang/String" 9 "java/lang/String" "value" "[B" ∈ pg_Ts := pw_in (by decide +kernel) (by decide +kernel)
theorem sw_f38 : Cond.fieldLink "java/lang/String" 38 "java/lang/String" "COMPACT_STRINGS" "Z" ∈ pg_Ts := pw_in (by decide +kernel) (by decide +kernel)
theorem sw_f15 : Cond.fieldLink "java/lang/String" 15 "java/lang/String" "coder" "B" ∈ pg_Ts := pw_in (by decide +kernel) (by decide +kernel)
theorem sw_f1053 : Cond.fieldLink "java/lang/String" 1053 "jdk/internal/util/Preconditions" "SIOOBE_FORMATTER" "Ljava/util/function/BiFunction;" ∈ pg_Ts := pw_in (by decide +kernel) (by decide +kernel)
theorem sw_i0 : Cond.initialized "java/lang/String" ∈ pg_Ts := pw_in (by decide +kernel) (by decide +kernel)
theorem sw_i1 : Cond.initialized "java/lang/StringLatin1" ∈ pg_Ts := pw_in (by decide +kernel) (by decide +kernel)
theorem sw_i3 : Cond.initialized "jdk/internal/util/Preconditions" ∈ pg_Ts := pw_in (by decide +kernel) (by decide +kernel)
theorem sw_cl : Cond.code sy_len prog_16_method_54_code 1 (some .int) ∈ pg_Ts := pw_in (by decide +kernel) (by decide +kernel)
theorem sw_ca : Cond.code sy_at prog_16_method_56_code 2 (some .char) ∈ pg_Ts := pw_in (by decide +kernel) (by decide +kernel)
theorem sw_cc : Cond.code sy_cod prog_16_method_152_code 1 (some .byte) ∈ pg_Ts := pw_in (by decide +kernel) (by decide +kernel)
theorem sw_ci : Cond.code sy_lat prog_16_method_154_code 1 (some .boolean) ∈ pg_Ts := pw_in (by decide +kernel) (by decide +kernel)
theorem sw_ck : Cond.code sy_chk prog_16_method_155_code 2 none ∈ pg_Ts := pw_in (by decide +kernel) (by decide +kernel)
theorem sw_c1 : Cond.code sy_la prog_17_method_2_code 2 (some .char) ∈ pg_Ts := pw_in (by decide +kernel) (by decide +kernel)
theorem sw_cp : Cond.code sy_pre prog_21_method_11_code 3 (some .int) ∈ pg_Ts := pw_in (by decide +kernel) (by decide +kernel)
theorem sw_nl : Cond.instanceMethod sy_len ∈ pg_Ts := pw_in (by decide +kernel) (by decide +kernel)
theorem sw_na : Cond.instanceMethod sy_at ∈ pg_Ts := pw_in (by decide +kernel) (by decide +kernel)
theorem sw_nc : Cond.instanceMethod sy_cod ∈ pg_Ts := pw_in (by decide +kernel) (by decide +kernel)
theorem sw_ni : Cond.instanceMethod sy_lat ∈ pg_Ts := pw_in (by decide +kernel) (by decide +kernel)
theorem sw_tk : Cond.static sy_chk ∈ pg_Ts := pw_in (by decide +kernel) (by decide +kernel)
theorem sw_t1 : Cond.static sy_la ∈ pg_Ts := pw_in (by decide +kernel) (by decide +kernel)
theorem sw_tp : Cond.static sy_pre ∈ pg_Ts := pw_in (by decide +kernel) (by decide +kernel)
theorem sw_sl : Cond.selects "java/lang/String" sy_len sy_len ∈ pg_Ts := pw_in (by decide +kernel) (by decide +kernel)
theorem sw_sa : Cond.selects "java/lang/String" sy_at sy_at ∈ pg_Ts := pw_in (by decide +kernel) (by decide +kernel)
theorem sw_sc : Cond.selects "java/lang/String" sy_cod sy_cod ∈ pg_Ts := pw_in (by decide +kernel) (by decide +kernel)
theorem sw_si : Cond.selects "java/lang/String" sy_lat sy_lat ∈ pg_Ts := pw_in (by decide +kernel) (by decide +kernel)
theorem sw_l335 : Cond.methodLink "java/lang/String" 335 sy_cod ∈ pg_Ts := pw_in (by decide +kernel) (by decide +kernel)
theorem sw_l492 : Cond.methodLink "java/lang/String" 492 sy_lat ∈ pg_Ts := pw_in (by decide +kernel) (by decide +kernel)
theorem sw_l495 : Cond.methodLink "java/lang/String" 495 sy_la ∈ pg_Ts := pw_in (by decide +kernel) (by decide +kernel)
theorem sw_l9 : Cond.methodLink "java/lang/StringLatin1" 9 sy_chk ∈ pg_Ts := pw_in (by decide +kernel) (by decide +kernel)
theorem sw_l1059 : Cond.methodLink "java/lang/String" 1059 sy_pre ∈ pg_Ts := pw_in (by decide +kernel) (by decide +kernel)
theorem sw_l91 : Cond.methodLink "MillTown$Reader" 91 sy_len ∈ pg_Ts := pw_in (by decide +kernel) (by decide +kernel)
theorem sw_l97 : Cond.methodLink "MillTown$Reader" 97 sy_at ∈ pg_Ts := pw_in (by decide +kernel) (by decide +kernel)
