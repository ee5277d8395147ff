/-! ===== which abstract instructions stand for the bytes, and that their steps are the machine's (own work) ===== -/
def ab_cd (k : Nat) : ClassFile.Cond := match k with
  | 0 => .eq
  | 1 => .ne
  | 2 => .lt
  | 3 => .ge
  | 4 => .gt
  | _ => .le
def ab_okI (g : ab_G) (Ts : List Cond) (sw : Nat → Int × Int × Int × List Int) (cc : ByteArray) (own : String) (ini : Bool) (pc : Nat) (I : ab_I) : Prop := match I with
  | (op, a, b, k, z) => match op with
    | 1 => (a = 1 ∧ decode cc pc = .ok (.iconst z, 1)) ∨ (∃ n, a = 2 ∧ decode cc pc = .ok (.bipush n, 2) ∧ (Int8.ofInt n).toInt32 = Int32.ofInt z) ∨ (∃ n, a = 3 ∧ decode cc pc = .ok (.sipush n, 3) ∧ (Int16.ofInt n).toInt32 = Int32.ofInt z) ∨ (a = 2 ∧ decode cc pc = .ok (.ldc b, 2) ∧ Cond.constant own b (Int32.ofInt z) ∈ Ts) ∨ (a = 3 ∧ decode cc pc = .ok (.ldc_w b, 3) ∧ Cond.constant own b (Int32.ofInt z) ∈ Ts)
    | 2 => (∃ n : Fin 2, a = 1 ∧ decode cc pc = .ok (.lconst n, 1) ∧ Int64.ofNat (n : Nat) = Int64.ofInt z) ∨ (a = 3 ∧ decode cc pc = .ok (.ldc2_w b, 3) ∧ Cond.constantLong own b (Int64.ofInt z) ∈ Ts)
    | 3 => (∃ n : Fin 4, a = 1 ∧ (n : Nat) = k ∧ decode cc pc = .ok (.iload_n n, 1)) ∨ (a = 2 ∧ decode cc pc = .ok (.iload k, 2))
    | 4 => (∃ n : Fin 4, a = 1 ∧ (n : Nat) = k ∧ decode cc pc = .ok (.lload_n n, 1)) ∨ (a = 2 ∧ decode cc pc = .ok (.lload k, 2))
    | 5 => (∃ n : Fin 4, a = 1 ∧ (n : Nat) = k ∧ decode cc pc = .ok (.aload_n n, 1)) ∨ (a = 2 ∧ decode cc pc = .ok (.aload k, 2))
    | 6 => (∃ n : Fin 4, a = 1 ∧ (n : Nat) = k ∧ decode cc pc = .ok (.istore_n n, 1)) ∨ (a = 2 ∧ decode cc pc = .ok (.istore k, 2))
    | 7 => (∃ n : Fin 4, a = 1 ∧ (n : Nat) = k ∧ decode cc pc = .ok (.lstore_n n, 1)) ∨ (a = 2 ∧ decode cc pc = .ok (.lstore k, 2))
    | 8 => (∃ n : Fin 4, a = 1 ∧ (n : Nat) = k ∧ decode cc pc = .ok (.astore_n n, 1)) ∨ (a = 2 ∧ decode cc pc = .ok (.astore k, 2))
    | 9 => decode cc pc = .ok (.iinc k z, 3)
    | 10 => decode cc pc = .ok (.iadd, 1)
    | 11 => decode cc pc = .ok (.isub, 1)
    | 12 => decode cc pc = .ok (.imul, 1)
    | 13 => decode cc pc = .ok (.iand, 1)
    | 14 => decode cc pc = .ok (.ior, 1)
    | 15 => decode cc pc = .ok (.ixor, 1)
    | 16 => decode cc pc = .ok (.idiv, 1)
    | 17 => decode cc pc = .ok (.irem, 1)
    | 18 => decode cc pc = .ok (.ishl, 1)
    | 19 => decode cc pc = .ok (.ishr, 1)
    | 20 => decode cc pc = .ok (.iushr, 1)
    | 21 => decode cc pc = .ok (.ineg, 1)
    | 22 => decode cc pc = .ok (.ladd, 1)
    | 23 => decode cc pc = .ok (.lsub, 1)
    | 24 => decode cc pc = .ok (.lmul, 1)
    | 25 => decode cc pc = .ok (.lor, 1)
    | 26 => decode cc pc = .ok (.ldiv, 1)
    | 27 => decode cc pc = .ok (.lrem, 1)
    | 28 => decode cc pc = .ok (.lcmp, 1)
    | 29 => decode cc pc = .ok (.lneg, 1)
    | 30 => decode cc pc = .ok (.l2i, 1)
    | 31 => decode cc pc = .ok (.i2l, 1)
    | 32 => decode cc pc = .ok (.lshl, 1)
    | 33 => decode cc pc = .ok (.dup, 1)
    | 34 => decode cc pc = .ok (.dup2, 1)
    | 35 => decode cc pc = .ok (.pop, 1)
    | 36 => k < 6 ∧ 0 ≤ (pc : Int) + z ∧ decode cc pc = .ok (.ifCond (ab_cd k) z, 3)
    | 37 => k < 6 ∧ 0 ≤ (pc : Int) + z ∧ decode cc pc = .ok (.if_icmp (ab_cd k) z, 3)
    | 38 => 0 ≤ (pc : Int) + z ∧ decode cc pc = .ok (.goto z, 3)
    | 39 => 0 ≤ (pc : Int) + z ∧ decode cc pc = .ok (.ifnull z, 3)
    | 40 => 0 ≤ (pc : Int) + z ∧ decode cc pc = .ok (.ifnonnull z, 3)
    | 41 => decode cc pc = .ok (.aconst_null, 1)
    | 42 => 0 ≤ (pc : Int) + (sw a).1 ∧ (∀ o ∈ (sw a).2.2.2, 0 ≤ (pc : Int) + o) ∧ decode cc pc = .ok (.tableswitch (sw a).1 (sw a).2.1 (sw a).2.2.1 (sw a).2.2.2.toArray, b)
    | 43 => ab_fld g Ts own a b k ∧ (gc_Y g a k = .int ∨ gc_Y g a k = .boolean) ∧ decode cc pc = .ok (.getfield b, 3)
    | 44 => ab_fld g Ts own a b k ∧ gc_Y g a k = .long ∧ decode cc pc = .ok (.getfield b, 3)
    | 45 => ab_fld g Ts own a b k ∧ ab_ref (gc_Y g a k) = true ∧ decode cc pc = .ok (.getfield b, 3)
    | 46 => ab_pfd g Ts own ini a b k ∧ gc_Y g a k = .int ∧ decode cc pc = .ok (.putfield b, 3)
    | 47 => ab_pfd g Ts own ini a b k ∧ gc_Y g a k = .boolean ∧ decode cc pc = .ok (.putfield b, 3)
    | 48 => ab_pfd g Ts own ini a b k ∧ gc_Y g a k = .long ∧ decode cc pc = .ok (.putfield b, 3)
    | 49 => ab_pfd g Ts own ini a b k ∧ ab_ref (gc_Y g a k) = true ∧ decode cc pc = .ok (.putfield b, 3)
    | 50 => decode cc pc = .ok (.iaload, 1)
    | 51 => decode cc pc = .ok (.baload, 1)
    | 52 => decode cc pc = .ok (.laload, 1)
    | 53 => a < 90 ∧ decode cc pc = .ok (.aaload, 1)
    | 54 => decode cc pc = .ok (.iastore, 1)
    | 55 => decode cc pc = .ok (.bastore, 1)
    | 56 => decode cc pc = .ok (.lastore, 1)
    | 57 => a < 90 ∧ decode cc pc = .ok (.aastore, 1)
    | 58 => a < 100 ∧ decode cc pc = .ok (.arraylength, 1)
    | 59 => (a = 2 ∧ k = 0 ∧ gc_K g 0 = true ∧ Cond.arrayClass .int ∈ Ts ∧ decode cc pc = .ok (.newarray .int, 2)) ∨ (a = 2 ∧ k = 1 ∧ gc_K g 1 = true ∧ Cond.arrayClass .long ∈ Ts ∧ decode cc pc = .ok (.newarray .long, 2)) ∨ (a = 2 ∧ k = 2 ∧ gc_K g 2 = true ∧ Cond.arrayClass .boolean ∈ Ts ∧ decode cc pc = .ok (.newarray .boolean, 2)) ∨ (∃ C, a = 3 ∧ C < 90 ∧ k = 3 + C ∧ gc_K g (3 + C) = true ∧ Cond.classLink own b (gc_N g C) ∈ Ts ∧ decode cc pc = .ok (.anewarray b, 3))
    | 60 => a < gc_C g ∧ k = gc_F g a ∧ Cond.classLink own b (gc_N g a) ∈ Ts ∧ Cond.instantiable (gc_N g a) (gc_F g a) ∈ Ts ∧ Cond.initialized (gc_N g a) ∈ Ts ∧ decode cc pc = .ok (.new b, 3)
    | 61 => Cond.methodLink own b Lib.objectInit ∈ Ts ∧ Cond.instanceMethod Lib.objectInit ∈ Ts ∧ Cond.code Lib.objectInit ⟨#[0xb1]⟩ 1 none ∈ Ts ∧ decode cc pc = .ok (.invokespecial b, 3)
    | 62 => Cond.methodLink own b arraycopyName ∈ Ts ∧ Cond.native arraycopyName ∈ Ts ∧ Cond.static arraycopyName ∈ Ts ∧ Cond.initialized "java/lang/System" ∈ Ts ∧ decode cc pc = .ok (.invokestatic b, 3)
    | _ => True
section ABMONO
variable {sw : Nat → Int × Int × Int × List Int} {I : ab_I} {pc : Nat} {L st : List Value} {h : ab_H} {q : ab_C}
theorem mo_ii {f : Int32 → Int32 → Option Value} (hs : ab_ii f pc L st h = some q) : q.2.2.2 = h := by
  unfold ab_ii at hs
  split at hs
  · obtain ⟨v, -, hv⟩ := Option.bind_eq_some_iff.mp hs
    cases hv; rfl
  · cases hs
theorem mo_ll {f : Int64 → Int64 → Option Value} (hs : ab_ll f pc L st h = some q) : q.2.2.2 = h := by
  unfold ab_ll at hs
  split at hs
  · obtain ⟨v, -, hv⟩ := Option.bind_eq_some_iff.mp hs
    cases hv; rfl
  · cases hs
theorem mo_sti {k : Nat} (hs : ab_sti k pc L st h = some q) : q.2.2.2 = h := by
  unfold ab_sti at hs
  split at hs
  · obtain ⟨v, -, hv⟩ := Option.bind_eq_some_iff.mp hs
    cases hv; rfl
  · cases hs
theorem mo_stl {k : Nat} (hs : ab_stl k pc L st h = some q) : q.2.2.2 = h := by
  unfold ab_stl at hs
  split at hs
  · obtain ⟨v, -, hv⟩ := Option.bind_eq_some_iff.mp hs
    cases hv; rfl
  · cases hs
theorem mo_sta {k : Nat} (hs : ab_sta k pc L st h = some q) : q.2.2.2 = h := by
  unfold ab_sta at hs
  split at hs
  · obtain ⟨v, -, hv⟩ := Option.bind_eq_some_iff.mp hs
    cases hv; rfl
  · obtain ⟨v, -, hv⟩ := Option.bind_eq_some_iff.mp hs
    cases hv; rfl
  · cases hs
theorem mo_inc {k : Nat} {z : Int} (hs : ab_inc k z pc L st h = some q) : q.2.2.2 = h := by
  unfold ab_inc at hs
  split at hs
  · obtain ⟨v, -, hv⟩ := Option.bind_eq_some_iff.mp hs
    cases hv; rfl
  · cases hs
theorem mo_eq {h h' : ab_H} (e : h' = h) : ab_n h ≤ ab_n h' ∧ ab_t h ≤ ab_t h' := by subst e; exact ⟨Nat.le_refl _, Nat.le_refl _⟩
theorem mo_new (h : ab_H) (kd len sl : Nat) : ab_n h ≤ ab_n (ab_new h kd len sl) ∧ ab_t h ≤ ab_t (ab_new h kd len sl) := ⟨Nat.le_succ _, Nat.le_add_right _ _⟩
theorem mo_stp (hs : ab_stp sw I pc L st h = some q) : ab_n h ≤ ab_n q.2.2.2 ∧ ab_t h ≤ ab_t q.2.2.2 := by
  obtain ⟨op, a, b, k, z⟩ := I
  unfold ab_stp at hs
  dsimp only at hs
  split at hs
  all_goals first
    | exact mo_eq (mo_ii hs)
    | exact mo_eq (mo_ll hs)
    | exact mo_eq (mo_sti hs)
    | exact mo_eq (mo_stl hs)
    | exact mo_eq (mo_sta hs)
    | exact mo_eq (mo_inc hs)
    | (cases hs; exact ⟨Nat.le_refl _, Nat.le_refl _⟩)
    | (cases hs; done)
    | (try simp only [ab_i1, ab_l1, ab_ldi, ab_ldl, ab_lda, ab_dup, ab_dup2, ab_pop, ab_if, ab_cmp, ab_nul, ab_sw, ab_gti, ab_gtl, ab_gtr, ab_pti, ab_ptz, ab_ptl, ab_ptr, ab_ali, ab_alz, ab_all, ab_alr, ab_asi, ab_asz, ab_asl, ab_asr, ab_len, ab_nwa, ab_nwo, ab_oin, ab_cpy] at hs
       repeat' split at hs
       all_goals first
         | (cases hs; done)
         | (cases hs; exact ⟨Nat.le_refl _, Nat.le_refl _⟩)
         | (cases hs; exact mo_new _ _ _ _))
end ABMONO
section ABSTP
variable {g : ab_G} {Ts : List Cond} {sw : Nat → Int × Int × Int × List Int} {nL : Nat} {p : Program} {l : Launch} {e : Env} {R : Room} {s : State} {m : MethodId} {args : Array Value} {below : List Frame} {meth : Method} {c : Code} {Q : State → Prop} {cells slots : Nat} {cc : ByteArray} {pc : Nat} {L st : List Value} {h : ab_H} {q : ab_C} {own : String} {ini : Bool} {I : ab_I}
theorem ab_to_eq {z : Int} (h : 0 ≤ (pc : Int) + z) : (pc : Int) + z = (ab_to pc z : Int) := by unfold ab_to; omega
theorem ab_same (hn : q.2.2.2 = h) (k : ab_Wc g nL p l e R s m args below meth c Q (cells + (ab_n q.2.2.2 - ab_n h)) (slots + (ab_t q.2.2.2 - ab_t h)) q) : ab_Wc g nL p l e R s m args below meth c Q cells slots q := by
  rw [hn, Nat.sub_self, Nat.sub_self] at k
  exact k
theorem ab_sama (hn : ab_n q.2.2.2 = ab_n h) (ht : ab_t q.2.2.2 = ab_t h) (k : ab_Wc g nL p l e R s m args below meth c Q (cells + (ab_n q.2.2.2 - ab_n h)) (slots + (ab_t q.2.2.2 - ab_t h)) q) : ab_Wc g nL p l e R s m args below meth c Q cells slots q := by
  rw [hn, ht, Nat.sub_self, Nat.sub_self] at k
  exact k
/-- int puts: of one type or the other -/
theorem os_put {C idx k : Nat} {v : Int32} {i : Nat} {r : List Value} (hY : gc_Y g C k = .int ∨ (gc_Y g C k = .boolean ∧ (v = 0 ∨ v = 1))) (hx : p.tables.exec = Jvm.exec) (hb : c.code = cc) (hts : ∀ w ∈ Ts, w.before args s = true) (hwf : ab_wf g Ts) (hown : s.vm.findClass own = some m.cls) (hin : ini = true → meth.name = "<init>") (hK : ab_K g s) (ho : ab_ok h i (100 + C) = true) (hf : ab_pfd g Ts own ini C idx k) (hd : decode cc pc = .ok (.putfield idx, 3))
    (kk : ab_Wc g nL p l e R s m args below meth c Q cells slots (pc + 3, L, r, ab_pi h i k v)) : ab_Wc g nL p l e R s m args below meth c Q cells slots (pc, L, .int v :: .ref i :: r, h) := by
  intro H locs ls hR hS hL
  refine ho_put hx hb hts hwf hown hin hK hR hS ho hf (ab_ch_i h i k v) ?_ ?_ ?_ hd (fun H1 locs1 r1 r2 => kk H1 locs1 ls r1 r2 hL)
  · rcases hY with hY | ⟨hY, -⟩ <;> (rw [hY]; show _ = Value.int (ab_i _ i k); exact congrArg Value.int ab_up_eq.symm)
  · rcases hY with hY | ⟨hY, hv⟩
    · rw [hY]; rfl
    · rw [hY]; rcases hv with rfl | rfl <;> rfl
  · rcases hY with hY | ⟨hY, hv⟩
    · rw [hY]; rfl
    · rw [hY]; rcases hv with rfl | rfl <;> rfl
theorem os_ptr {C idx k : Nat} {v : Option Nat} {i : Nat} {r : List Value} (hY : ab_ref (gc_Y g C k) = true) (hx : p.tables.exec = Jvm.exec) (hb : c.code = cc) (hts : ∀ w ∈ Ts, w.before args s = true) (hwf : ab_wf g Ts) (hown : s.vm.findClass own = some m.cls) (hin : ini = true → meth.name = "<init>") (hK : ab_K g s) (ho : ab_ok h i (100 + C) = true) (hf : ab_pfd g Ts own ini C idx k) (hd : decode cc pc = .ok (.putfield idx, 3))
    (kk : ab_Wc g nL p l e R s m args below meth c Q cells slots (pc + 3, L, r, ab_pr h i k v)) : ab_Wc g nL p l e R s m args below meth c Q cells slots (pc, L, va_rf v :: .ref i :: r, h) := by
  intro H locs ls hR hS hL
  simp only [List.map_cons, ab_cv_rf]
  have e1 : ab_r (ab_pr h i k v) i k = v := ab_up_eq
  refine ho_put hx hb hts hwf hown hin hK hR hS ho hf (ab_ch_r h i k v) ?_ ?_ ?_ hd (fun H1 locs1 r1 r2 => kk H1 locs1 ls r1 r2 hL)
  · generalize hty : gc_Y g C k = ty at hY
    cases ty <;> simp [ab_ref] at hY <;> simp [ab_fv, e1]
  · generalize hty : gc_Y g C k = ty at hY
    cases ty <;> simp [ab_ref] at hY <;> cases v <;> rfl
  · generalize hty : gc_Y g C k = ty at hY
    cases ty <;> simp [ab_ref] at hY <;> cases v <;> rfl
set_option maxHeartbeats 2000000 in
/-- every plain step -/
theorem os_stp (hx : p.tables.exec = Jvm.exec) (hb : c.code = cc) (hml : c.maxLocals = nL) (hts : ∀ w ∈ Ts, w.before args s = true) (hwf : ab_wf g Ts) (hown : s.vm.findClass own = some m.cls) (hin : ini = true → meth.name = "<init>") (hK : ab_K g s) (hf : 1 ≤ R.frames) (hlo : 60 ≤ R.locals)
    (hok : ab_okI g Ts sw cc own ini pc I) (hs : ab_stp sw I pc L st h = some q) (hcl : cells + (ab_n q.2.2.2 - ab_n h) ≤ R.cells) (hsl : slots + (ab_t q.2.2.2 - ab_t h) ≤ R.slots)
    (k : ab_Wc g nL p l e R s m args below meth c Q (cells + (ab_n q.2.2.2 - ab_n h)) (slots + (ab_t q.2.2.2 - ab_t h)) q) : ab_Wc g nL p l e R s m args below meth c Q cells slots (pc, L, st, h) := by
  obtain ⟨op, a, b, kk, z⟩ := I
  unfold ab_stp at hs
  unfold ab_okI at hok
  dsimp only at hs hok
  split at hs
  · -- 1
    have k := ab_same (by cases hs; rfl) k
    rcases hok with ⟨rfl, hd⟩ | ⟨n, rfl, hd, hv⟩ | ⟨n, rfl, hd, hv⟩ | ⟨rfl, hd, hw⟩ | ⟨rfl, hd, hw⟩
    · exact oq_c hs (fun H locs ls rest kk => lv_iconst hx hb hd rfl kk) k
    · exact oq_c hs (fun H locs ls rest kk => lv_bipush hx hb hd hv kk) k
    · exact oq_c hs (fun H locs ls rest kk => lv_sipush hx hb hd hv kk) k
    · exact oq_c hs (fun H locs ls rest kk => lv_ldc hx hb hown (hts _ hw) hd kk) k
    · exact oq_c hs (fun H locs ls rest kk => lv_ldcw hx hb hown (hts _ hw) hd kk) k
  · -- 2
    have k := ab_same (by cases hs; rfl) k
    rcases hok with ⟨n, rfl, hd, hv⟩ | ⟨rfl, hd, hw⟩
    · exact oq_c hs (fun H locs ls rest kk => lv_lconst hx hb hd hv kk) k
    · exact oq_c hs (fun H locs ls rest kk => lv_ldc2 hx hb hown (hts _ hw) hd kk) k
  · -- 3
    have k := ab_same (by unfold ab_ldi at hs; split at hs <;> cases hs; rfl) k
    rcases hok with ⟨n, rfl, hn, hd⟩ | ⟨rfl, hd⟩
    · exact oq_ldi hs (fun H locs ls rest x hl kk => lv_iload_n hx hb hd hn hl kk) k
    · exact oq_ldi hs (fun H locs ls rest x hl kk => lv_iload hx hb hd hl kk) k
  · -- 4
    have k := ab_same (by unfold ab_ldl at hs; split at hs <;> cases hs; rfl) k
    rcases hok with ⟨n, rfl, hn, hd⟩ | ⟨rfl, hd⟩
    · exact oq_ldl hs (fun H locs ls rest x hl kk => lv_lload_n hx hb hd hn hl kk) k
    · exact oq_ldl hs (fun H locs ls rest x hl kk => lv_lload hx hb hd hl kk) k
  · -- 5
    have k := ab_same (by unfold ab_lda at hs; split at hs <;> cases hs <;> rfl) k
    rcases hok with ⟨n, rfl, hn, hd⟩ | ⟨rfl, hd⟩
    · exact oq_lda hs (fun H locs ls rest x hl kk => lv_aload_n hx hb hd hn hl kk) (fun H locs ls rest hl kk => lv_aload_nN hx hb hd hn hl kk) k
    · exact oq_lda hs (fun H locs ls rest x hl kk => lv_aload hx hb hd hl kk) (fun H locs ls rest hl kk => lv_aloadN hx hb hd hl kk) k
  · -- 6
    have k := ab_same (mo_sti hs) k
    rcases hok with ⟨n, rfl, hn, hd⟩ | ⟨rfl, hd⟩
    · exact oq_sti hs (fun H locs ls rest x hl hi kk => lv_istore_n hx hb hd hn hl hi rfl kk) k
    · exact oq_sti hs (fun H locs ls rest x hl hi kk => lv_istore hx hb hd hl hi rfl kk) k
  · -- 7
    have k := ab_same (mo_stl hs) k
    rcases hok with ⟨n, rfl, hn, hd⟩ | ⟨rfl, hd⟩
    · exact oq_stl hs (fun H locs ls rest x hl hi kk => lv_lstore_n hx hb hd hn hl hi rfl kk) k
    · exact oq_stl hs (fun H locs ls rest x hl hi kk => lv_lstore hx hb hd hl hi rfl kk) k
  · -- 8
    have k := ab_same (mo_sta hs) k
    rcases hok with ⟨n, rfl, hn, hd⟩ | ⟨rfl, hd⟩
    · exact oq_sta hs (fun H locs ls rest x hl hi kk => lv_astore_n hx hb hd hn hl hi rfl kk) (fun H locs ls rest hl hi kk => lv_astore_nN hx hb hd hn hl hi rfl kk) k
    · exact oq_sta hs (fun H locs ls rest x hl hi kk => lv_astore hx hb hd hl hi rfl kk) (fun H locs ls rest hl hi kk => lv_astoreN hx hb hd hl hi rfl kk) k
  · -- 9
    exact oq_inc hx hb hok hs (ab_same (mo_inc hs) k)
  · exact oq_ii hs (fun H locs ls rest x y v ev kk => by cases ev; exact lv_iadd hx hb hok kk) (ab_same (mo_ii hs) k)
  · exact oq_ii hs (fun H locs ls rest x y v ev kk => by cases ev; exact lv_isub hx hb hok kk) (ab_same (mo_ii hs) k)
  · exact oq_ii hs (fun H locs ls rest x y v ev kk => by cases ev; exact lv_imul hx hb hok kk) (ab_same (mo_ii hs) k)
  · exact oq_ii hs (fun H locs ls rest x y v ev kk => by cases ev; exact lv_iand hx hb hok kk) (ab_same (mo_ii hs) k)
  · exact oq_ii hs (fun H locs ls rest x y v ev kk => by cases ev; exact lv_ior hx hb hok kk) (ab_same (mo_ii hs) k)
  · exact oq_ii hs (fun H locs ls rest x y v ev kk => by cases ev; exact lv_ixor hx hb hok kk) (ab_same (mo_ii hs) k)
  · exact oq_ii hs (fun H locs ls rest x y v ev kk => by
      split at ev
      · cases ev
      · rename_i hy; cases ev; exact lv_idiv hx hb hok hy kk) (ab_same (mo_ii hs) k)
  · exact oq_ii hs (fun H locs ls rest x y v ev kk => by
      split at ev
      · cases ev
      · rename_i hy; cases ev; exact lv_irem hx hb hok hy kk) (ab_same (mo_ii hs) k)
  · exact oq_ii hs (fun H locs ls rest x y v ev kk => by cases ev; exact lv_ishl hx hb hok kk) (ab_same (mo_ii hs) k)
  · exact oq_ii hs (fun H locs ls rest x y v ev kk => by cases ev; exact lv_ishr hx hb hok kk) (ab_same (mo_ii hs) k)
  · exact oq_ii hs (fun H locs ls rest x y v ev kk => by cases ev; exact lv_iushr hx hb hok rfl kk) (ab_same (mo_ii hs) k)
  · exact oq_i1 hs (fun H locs ls rest x kk => lv_ineg hx hb hok kk) (ab_same (by unfold ab_i1 at hs; split at hs <;> cases hs; rfl) k)
  · exact oq_ll hs (fun H locs ls rest x y v ev kk => by cases ev; exact lv_ladd hx hb hok kk) (ab_same (mo_ll hs) k)
  · exact oq_ll hs (fun H locs ls rest x y v ev kk => by cases ev; exact lv_lsub hx hb hok kk) (ab_same (mo_ll hs) k)
  · exact oq_ll hs (fun H locs ls rest x y v ev kk => by cases ev; exact lv_lmul hx hb hok kk) (ab_same (mo_ll hs) k)
  · exact oq_ll hs (fun H locs ls rest x y v ev kk => by cases ev; exact lv_lor hx hb hok kk) (ab_same (mo_ll hs) k)
  · exact oq_ll hs (fun H locs ls rest x y v ev kk => by
      split at ev
      · cases ev
      · rename_i hy; cases ev; exact lv_ldiv hx hb hok hy kk) (ab_same (mo_ll hs) k)
  · exact oq_ll hs (fun H locs ls rest x y v ev kk => by
      split at ev
      · cases ev
      · rename_i hy; cases ev; exact lv_lrem hx hb hok hy kk) (ab_same (mo_ll hs) k)
  · exact oq_ll hs (fun H locs ls rest x y v ev kk => by cases ev; exact W.lcmp hx hb hok kk) (ab_same (mo_ll hs) k)
  · exact oq_l1 hs (fun H locs ls rest x kk => lv_lneg hx hb hok kk) (ab_same (by unfold ab_l1 at hs; split at hs <;> cases hs; rfl) k)
  · exact oq_l1 hs (fun H locs ls rest x kk => lv_l2i hx hb hok rfl kk) (ab_same (by unfold ab_l1 at hs; split at hs <;> cases hs; rfl) k)
  · exact oq_i1 hs (fun H locs ls rest x kk => lv_i2l hx hb hok rfl kk) (ab_same (by unfold ab_i1 at hs; split at hs <;> cases hs; rfl) k)
  · -- 32
    split at hs
    · cases hs
      have k := ab_same (h := h) rfl k
      intro H locs ls hR hS hL
      exact lv_lshl hx hb hok rfl (k H locs ls hR hS hL)
    · cases hs
  · exact oq_dup hx hb hok hs (ab_same (by unfold ab_dup at hs; split at hs <;> cases hs <;> rfl) k)
  · exact oq_dup2 hx hb hok hs (ab_same (by unfold ab_dup2 at hs; split at hs <;> cases hs <;> rfl) k)
  · exact oq_pop hx hb hok hs (ab_same (by unfold ab_pop at hs; split at hs <;> cases hs <;> rfl) k)
  · -- 36
    obtain ⟨h6, h7, hd⟩ := hok
    have k := ab_same (by unfold ab_if at hs; split at hs <;> cases hs; rfl) k
    have ht := ab_to_eq h7
    have : kk = 0 ∨ kk = 1 ∨ kk = 2 ∨ kk = 3 ∨ kk = 4 ∨ kk = 5 := by omega
    rcases this with rfl | rfl | rfl | rfl | rfl | rfl
    · exact oq_if hs (fun H locs ls rest x k1 k2 => lv_if_eq hx hb hd ht (fun y => k1 (decide_eq_true y)) (fun y => k2 (decide_eq_false y))) k
    · exact oq_if hs (fun H locs ls rest x k1 k2 => lv_if_ne hx hb hd ht (fun y => k1 (decide_eq_true y)) (fun y => k2 (decide_eq_false (fun n => n y)))) k
    · exact oq_if hs (fun H locs ls rest x k1 k2 => lv_if_lt hx hb hd ht (fun y => k1 (decide_eq_true y)) (fun y => k2 (decide_eq_false y))) k
    · exact oq_if hs (fun H locs ls rest x k1 k2 => lv_if_ge hx hb hd ht (fun y => k1 (decide_eq_true y)) (fun y => k2 (decide_eq_false y))) k
    · exact oq_if hs (fun H locs ls rest x k1 k2 => lv_if_gt hx hb hd ht (fun y => k1 (decide_eq_true y)) (fun y => k2 (decide_eq_false y))) k
    · exact oq_if hs (fun H locs ls rest x k1 k2 => lv_if_le hx hb hd ht (fun y => k1 (decide_eq_true y)) (fun y => k2 (decide_eq_false y))) k
  · -- 37
    obtain ⟨h6, h7, hd⟩ := hok
    have k := ab_same (by unfold ab_cmp at hs; split at hs <;> cases hs; rfl) k
    have ht := ab_to_eq h7
    have : kk = 0 ∨ kk = 1 ∨ kk = 2 ∨ kk = 3 ∨ kk = 4 ∨ kk = 5 := by omega
    rcases this with rfl | rfl | rfl | rfl | rfl | rfl
    · exact oq_cmp hs (fun H locs ls rest x y k1 k2 => lv_icmp_eq hx hb hd ht (fun y => k1 (decide_eq_true y)) (fun y => k2 (decide_eq_false y))) k
    · exact oq_cmp hs (fun H locs ls rest x y k1 k2 => lv_icmp_ne hx hb hd ht (fun y => k1 (decide_eq_true y)) (fun y => k2 (decide_eq_false (fun n => n y)))) k
    · exact oq_cmp hs (fun H locs ls rest x y k1 k2 => lv_icmp_lt hx hb hd ht (fun y => k1 (decide_eq_true y)) (fun y => k2 (decide_eq_false y))) k
    · exact oq_cmp hs (fun H locs ls rest x y k1 k2 => lv_icmp_ge hx hb hd ht (fun y => k1 (decide_eq_true y)) (fun y => k2 (decide_eq_false y))) k
    · exact oq_cmp hs (fun H locs ls rest x y k1 k2 => lv_icmp_gt hx hb hd ht (fun y => k1 (decide_eq_true y)) (fun y => k2 (decide_eq_false y))) k
    · exact oq_cmp hs (fun H locs ls rest x y k1 k2 => lv_icmp_le hx hb hd ht (fun y => k1 (decide_eq_true y)) (fun y => k2 (decide_eq_false y))) k
  · -- 38
    cases hs
    have k := ab_same (h := h) rfl k
    intro H locs ls hR hS hL
    exact lv_goto hx hb hok.2 (ab_to_eq hok.1) (k H locs ls hR hS hL)
  · exact oq_nul hs (fun H locs ls rest kk => lv_ifnullN hx hb hok.2 (ab_to_eq hok.1) kk) (fun H locs ls rest x kk => lv_ifnull hx hb hok.2 kk) (ab_same (by unfold ab_nul at hs; split at hs <;> cases hs <;> rfl) k)
  · exact oq_nul hs (fun H locs ls rest kk => lv_ifnonnullN hx hb hok.2 kk) (fun H locs ls rest x kk => lv_ifnonnull hx hb hok.2 (ab_to_eq hok.1) kk) (ab_same (by unfold ab_nul at hs; split at hs <;> cases hs <;> rfl) k)
  · exact oq_c hs (fun H locs ls rest kk => lv_null hx hb hok kk) (ab_same (by cases hs; rfl) k)
  · -- 42
    exact oq_sw hx hb hok.2.2 hok.1 hok.2.1 hs (ab_same (by
      unfold ab_sw at hs
      split at hs
      · split at hs
        · cases hs; rfl
        · split at hs <;> cases hs; rfl
      · cases hs) k)
  · -- 43
    obtain ⟨h1, h2, hd⟩ := hok
    unfold ab_gti at hs
    split at hs
    · split at hs
      · rename_i ho
        cases hs
        have k := ab_same (h := h) rfl k
        intro H locs ls hR hS hL
        refine ho_get hx hb hts hwf hown hK hR ho h1 hd ?_
        have kk := k H locs ls hR hS hL
        rcases h2 with h2 | h2 <;> (rw [h2]; exact kk)
      · cases hs
    · cases hs
  · -- 44
    obtain ⟨h1, h2, hd⟩ := hok
    unfold ab_gtl at hs
    split at hs
    · split at hs
      · rename_i ho
        cases hs
        have k := ab_same (h := h) rfl k
        intro H locs ls hR hS hL
        refine ho_get hx hb hts hwf hown hK hR ho h1 hd ?_
        have kk := k H locs ls hR hS hL
        rw [h2]; exact kk
      · cases hs
    · cases hs
  · -- 45
    obtain ⟨h1, h2, hd⟩ := hok
    unfold ab_gtr at hs
    split at hs
    · split at hs
      · rename_i i r ho
        cases hs
        have k := ab_same (h := h) rfl k
        intro H locs ls hR hS hL
        refine ho_get hx hb hts hwf hown hK hR ho h1 hd ?_
        have k9 := k H locs ls hR hS hL
        simp only [List.map_cons, ab_cv_rf] at k9
        have e9 : ab_fv g h i (gc_Y g a kk) kk = va_rf ((ab_r h i kk).map (ab_ad g)) := by
          generalize gc_Y g a kk = ty at h2
          cases ty <;> simp [ab_ref] at h2 <;> rfl
        rw [e9]; exact k9
      · cases hs
    · cases hs
  · -- 46
    obtain ⟨h1, h2, hd⟩ := hok
    unfold ab_pti at hs
    split at hs
    · split at hs
      · rename_i ho
        cases hs
        exact os_put (Or.inl h2) hx hb hts hwf hown hin hK ho h1 hd (ab_sama rfl rfl k)
      · cases hs
    · cases hs
  · -- 47
    obtain ⟨h1, h2, hd⟩ := hok
    unfold ab_ptz at hs
    split at hs
    · split at hs
      · rename_i ho
        cases hs
        exact os_put (Or.inr ⟨h2, ho.2⟩) hx hb hts hwf hown hin hK ho.1 h1 hd (ab_sama rfl rfl k)
      · cases hs
    · cases hs
  · -- 48
    obtain ⟨h1, h2, hd⟩ := hok
    unfold ab_ptl at hs
    split at hs
    · split at hs
      · rename_i v i r ho
        cases hs
        have k := ab_sama (h := h) rfl rfl k
        intro H locs ls hR hS hL
        refine ho_put hx hb hts hwf hown hin hK hR hS ho h1 (ab_ch_l h i kk v) ?_ ?_ ?_ hd (fun H1 locs1 r1 r2 => k H1 locs1 ls r1 r2 hL)
        · rw [h2]; show _ = Value.long (ab_l _ i kk); exact congrArg Value.long ab_up_eq.symm
        · rw [h2]; rfl
        · rw [h2]; rfl
      · cases hs
    · cases hs
  · -- 49
    obtain ⟨h1, h2, hd⟩ := hok
    unfold ab_ptr at hs
    split at hs
    · split at hs
      · rename_i ho
        cases hs
        exact os_ptr (v := some _) h2 hx hb hts hwf hown hin hK ho h1 hd (ab_sama rfl rfl k)
      · cases hs
    · split at hs
      · rename_i ho
        cases hs
        exact os_ptr (v := none) h2 hx hb hts hwf hown hin hK ho h1 hd (ab_sama rfl rfl k)
      · cases hs
    · cases hs
  · exact oq_ali hx hb hK hok hs (ab_same (by unfold ab_ali at hs; (repeat' split at hs) <;> cases hs; rfl) k)
  · exact oq_alz hx hb hK hok hs (ab_same (by unfold ab_alz at hs; (repeat' split at hs) <;> cases hs; rfl) k)
  · exact oq_all hx hb hK hok hs (ab_same (by unfold ab_all at hs; (repeat' split at hs) <;> cases hs; rfl) k)
  · exact oq_alr hok.1 hx hb hK hok.2 hs (ab_same (by unfold ab_alr at hs; (repeat' split at hs) <;> cases hs; rfl) k)
  · exact oq_asi hx hb hK hok hs (ab_sama (by unfold ab_asi at hs; (repeat' split at hs) <;> cases hs; rfl) (by unfold ab_asi at hs; (repeat' split at hs) <;> cases hs; rfl) k)
  · exact oq_asz hx hb hK hok hs (ab_sama (by unfold ab_asz at hs; (repeat' split at hs) <;> cases hs; rfl) (by unfold ab_asz at hs; (repeat' split at hs) <;> cases hs; rfl) k)
  · exact oq_asl hx hb hK hok hs (ab_sama (by unfold ab_asl at hs; (repeat' split at hs) <;> cases hs; rfl) (by unfold ab_asl at hs; (repeat' split at hs) <;> cases hs; rfl) k)
  · exact oq_asr hok.1 hx hb hK hok.2 hs (ab_sama (by unfold ab_asr at hs; (repeat' split at hs) <;> cases hs; rfl) (by unfold ab_asr at hs; (repeat' split at hs) <;> cases hs; rfl) k)
  · exact oq_len hok.1 hx hb hK hok.2 hs (ab_same (by unfold ab_len at hs; (repeat' split at hs) <;> cases hs; rfl) k)
  · -- 59
    rcases hok with ⟨rfl, rfl, h1, h2, hd⟩ | ⟨rfl, rfl, h1, h2, hd⟩ | ⟨rfl, rfl, h1, h2, hd⟩ | ⟨C, rfl, hC, rfl, h1, h2, hd⟩
    · exact oq_nwa (kd := 0) (by decide) rfl (show componentBytes .int ≤ 8 by decide) h1 hx hb hK (hts _ h2) hd hs hcl hsl k
    · exact oq_nwa (kd := 1) (by decide) rfl (show componentBytes .long ≤ 8 by decide) h1 hx hb hK (hts _ h2) hd hs hcl hsl k
    · exact oq_nwa (kd := 2) (by decide) rfl (show componentBytes .boolean ≤ 8 by decide) h1 hx hb hK (hts _ h2) hd hs hcl hsl k
    · exact oq_nwr hC h1 hx hb hown hK (hts _ h2) hd hs hcl hsl k
  · -- 60
    obtain ⟨h1, rfl, h3, h4, h5, hd⟩ := hok
    exact oq_nwo h1 hx hb hts hwf hown hK (hts _ h3) (hts _ h4) (hts _ h5) hd hs hcl hsl k
  · -- 61
    obtain ⟨h1, h2, h3, hd⟩ := hok
    exact oq_oin hx hb hml hown (hts _ h1) (hts _ h2) (hts _ h3) hd hs hf hlo (ab_same (by unfold ab_oin at hs; (repeat' split at hs) <;> cases hs; rfl) k)
  · -- 62
    obtain ⟨h1, h2, h3, h4, hd⟩ := hok
    exact oq_cpy hx hb hml hown hK (hts _ h1) (hts _ h2) (hts _ h3) (hts _ h4) hd hs hf hlo (ab_sama (by unfold ab_cpy at hs; (repeat' split at hs) <;> cases hs; rfl) (by unfold ab_cpy at hs; (repeat' split at hs) <;> cases hs; rfl) k)
  · cases hs
end ABSTP
