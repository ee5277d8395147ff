/-! ===== a check of the tables by program (own work) ===== -/
def ck_d (cc : ByteArray) (pc : Nat) (i : Instr) (n : Nat) : Bool := decide (decode cc pc = .ok (i, n))
theorem ck_dt {cc : ByteArray} {pc : Nat} {i : Instr} {n : Nat} (h : ck_d cc pc i n = true) : decode cc pc = .ok (i, n) := of_decide_eq_true h
def ck_I (cT : Nat → u_T) (cF : Nat → Nat) (cY : Nat → Nat → FieldType) (nC : Nat) (cK : Nat → Bool) (sw : Nat → Int × Int × Int × List Int) (FL : List (Nat × Nat × Nat × Nat)) (CL : List (Nat × Nat × Nat)) (KI KL : List (Nat × Nat × Int)) (OB AC : List (Nat × Nat)) (cc : ByteArray) (o : Nat) (ini : Bool) (pc : Nat) (I : ab_I) : Bool := match I with
  | (op, a, b, k, z) => match op with
    | 1 => if b = 0 then (if a = 1 then ck_d cc pc (.iconst z) 1 else if a = 2 then ck_d cc pc (.bipush z) 2 && decide ((Int8.ofInt z).toInt32 = Int32.ofInt z) else decide (a = 3) && (ck_d cc pc (.sipush z) 3 && decide ((Int16.ofInt z).toInt32 = Int32.ofInt z))) else decide ((o, b, z) ∈ KI) && (if a = 2 then ck_d cc pc (.ldc b) 2 else decide (a = 3) && ck_d cc pc (.ldc_w b) 3)
    | 2 => if b = 0 then decide (a = 1) && (if z = 0 then ck_d cc pc (.lconst 0) 1 else decide (z = 1) && ck_d cc pc (.lconst 1) 1) else decide (a = 3) && (decide ((o, b, z) ∈ KL) && ck_d cc pc (.ldc2_w b) 3)
    | 3 => if a = 1 then (if h : k < 4 then ck_d cc pc (.iload_n ⟨k, h⟩) 1 else false) else decide (a = 2) && ck_d cc pc (.iload k) 2
    | 4 => if a = 1 then (if h : k < 4 then ck_d cc pc (.lload_n ⟨k, h⟩) 1 else false) else decide (a = 2) && ck_d cc pc (.lload k) 2
    | 5 => if a = 1 then (if h : k < 4 then ck_d cc pc (.aload_n ⟨k, h⟩) 1 else false) else decide (a = 2) && ck_d cc pc (.aload k) 2
    | 6 => if a = 1 then (if h : k < 4 then ck_d cc pc (.istore_n ⟨k, h⟩) 1 else false) else decide (a = 2) && ck_d cc pc (.istore k) 2
    | 7 => if a = 1 then (if h : k < 4 then ck_d cc pc (.lstore_n ⟨k, h⟩) 1 else false) else decide (a = 2) && ck_d cc pc (.lstore k) 2
    | 8 => if a = 1 then (if h : k < 4 then ck_d cc pc (.astore_n ⟨k, h⟩) 1 else false) else decide (a = 2) && ck_d cc pc (.astore k) 2
    | 9 => ck_d cc pc (.iinc k z) 3
    | 10 => ck_d cc pc .iadd 1
    | 11 => ck_d cc pc .isub 1
    | 12 => ck_d cc pc .imul 1
    | 13 => ck_d cc pc .iand 1
    | 14 => ck_d cc pc .ior 1
    | 15 => ck_d cc pc .ixor 1
    | 16 => ck_d cc pc .idiv 1
    | 17 => ck_d cc pc .irem 1
    | 18 => ck_d cc pc .ishl 1
    | 19 => ck_d cc pc .ishr 1
    | 20 => ck_d cc pc .iushr 1
    | 21 => ck_d cc pc .ineg 1
    | 22 => ck_d cc pc .ladd 1
    | 23 => ck_d cc pc .lsub 1
    | 24 => ck_d cc pc .lmul 1
    | 25 => ck_d cc pc .lor 1
    | 26 => ck_d cc pc .ldiv 1
    | 27 => ck_d cc pc .lrem 1
    | 28 => ck_d cc pc .lcmp 1
    | 29 => ck_d cc pc .lneg 1
    | 30 => ck_d cc pc .l2i 1
    | 31 => ck_d cc pc .i2l 1
    | 32 => ck_d cc pc .lshl 1
    | 33 => ck_d cc pc .dup 1
    | 34 => ck_d cc pc .dup2 1
    | 35 => ck_d cc pc .pop 1
    | 36 => decide (k < 6) && (decide (0 ≤ (pc : Int) + z) && ck_d cc pc (.ifCond (ab_cd k) z) 3)
    | 37 => decide (k < 6) && (decide (0 ≤ (pc : Int) + z) && ck_d cc pc (.if_icmp (ab_cd k) z) 3)
    | 38 => decide (0 ≤ (pc : Int) + z) && ck_d cc pc (.goto z) 3
    | 39 => decide (0 ≤ (pc : Int) + z) && ck_d cc pc (.ifnull z) 3
    | 40 => decide (0 ≤ (pc : Int) + z) && ck_d cc pc (.ifnonnull z) 3
    | 41 => ck_d cc pc .aconst_null 1
    | 42 => decide (0 ≤ (pc : Int) + (sw a).1) && (decide (∀ o ∈ (sw a).2.2.2, 0 ≤ (pc : Int) + o) && ck_d cc pc (.tableswitch (sw a).1 (sw a).2.1 (sw a).2.2.1 (sw a).2.2.2.toArray) b)
    | 43 => (decide (a < nC) && (decide (k < cF a) && decide ((o, b, a, k) ∈ FL))) && (decide (cY a k = .int ∨ cY a k = .boolean) && ck_d cc pc (.getfield b) 3)
    | 44 => (decide (a < nC) && (decide (k < cF a) && decide ((o, b, a, k) ∈ FL))) && (decide (cY a k = .long) && ck_d cc pc (.getfield b) 3)
    | 45 => (decide (a < nC) && (decide (k < cF a) && decide ((o, b, a, k) ∈ FL))) && (ab_ref (cY a k) && ck_d cc pc (.getfield b) 3)
    | 46 => (decide (a < nC) && (decide (k < cF a) && (decide ((o, b, a, k) ∈ FL) && (decide ((cT a k).2.2.2 = false) || (ini && decide (a = o)))))) && (decide (cY a k = .int) && ck_d cc pc (.putfield b) 3)
    | 47 => (decide (a < nC) && (decide (k < cF a) && (decide ((o, b, a, k) ∈ FL) && (decide ((cT a k).2.2.2 = false) || (ini && decide (a = o)))))) && (decide (cY a k = .boolean) && ck_d cc pc (.putfield b) 3)
    | 48 => (decide (a < nC) && (decide (k < cF a) && (decide ((o, b, a, k) ∈ FL) && (decide ((cT a k).2.2.2 = false) || (ini && decide (a = o)))))) && (decide (cY a k = .long) && ck_d cc pc (.putfield b) 3)
    | 49 => (decide (a < nC) && (decide (k < cF a) && (decide ((o, b, a, k) ∈ FL) && (decide ((cT a k).2.2.2 = false) || (ini && decide (a = o)))))) && (ab_ref (cY a k) && ck_d cc pc (.putfield b) 3)
    | 50 => ck_d cc pc .iaload 1
    | 51 => ck_d cc pc .baload 1
    | 52 => ck_d cc pc .laload 1
    | 53 => decide (a < 90) && ck_d cc pc .aaload 1
    | 54 => ck_d cc pc .iastore 1
    | 55 => ck_d cc pc .bastore 1
    | 56 => ck_d cc pc .lastore 1
    | 57 => decide (a < 90) && ck_d cc pc .aastore 1
    | 58 => decide (a < 100) && ck_d cc pc .arraylength 1
    | 59 => if a = 2 then cK k && (if k = 0 then ck_d cc pc (.newarray .int) 2 else if k = 1 then ck_d cc pc (.newarray .long) 2 else decide (k = 2) && ck_d cc pc (.newarray .boolean) 2) else decide (a = 3) && (decide (3 ≤ k ∧ k < 93) && (cK k && (decide ((o, b, k - 3) ∈ CL) && ck_d cc pc (.anewarray b) 3)))
    | 60 => decide (a < nC) && (decide (k = cF a) && (decide ((o, b, a) ∈ CL) && ck_d cc pc (.new b) 3))
    | 61 => decide ((o, b) ∈ OB) && ck_d cc pc (.invokespecial b) 3
    | 62 => decide ((o, b) ∈ AC) && ck_d cc pc (.invokestatic b) 3
    | 0 => true
    | _ => false
/-- what the link tables say is among the words -/
def ck_W (g : ab_G) (Ts : List Cond) (oN : Nat → String) (FL : List (Nat × Nat × Nat × Nat)) (CL : List (Nat × Nat × Nat)) (KI KL : List (Nat × Nat × Int)) (OB AC : List (Nat × Nat)) : Prop :=
  (∀ q ∈ FL, Cond.fieldLink (oN q.1) q.2.1 (gc_T g q.2.2.1 q.2.2.2).1 (gc_T g q.2.2.1 q.2.2.2).2.1 (gc_T g q.2.2.1 q.2.2.2).2.2.1 ∈ Ts) ∧
  (∀ q ∈ CL, Cond.classLink (oN q.1) q.2.1 (gc_N g q.2.2) ∈ Ts) ∧ (∀ q ∈ KI, Cond.constant (oN q.1) q.2.1 (Int32.ofInt q.2.2) ∈ Ts) ∧ (∀ q ∈ KL, Cond.constantLong (oN q.1) q.2.1 (Int64.ofInt q.2.2) ∈ Ts) ∧
  ((∀ q ∈ OB, Cond.methodLink (oN q.1) q.2 Lib.objectInit ∈ Ts) ∧ Cond.instanceMethod Lib.objectInit ∈ Ts ∧ Cond.code Lib.objectInit ⟨#[0xb1]⟩ 1 none ∈ Ts) ∧
  ((∀ q ∈ AC, Cond.methodLink (oN q.1) q.2 arraycopyName ∈ Ts) ∧ Cond.native arraycopyName ∈ Ts ∧ Cond.static arraycopyName ∈ Ts ∧ Cond.initialized "java/lang/System" ∈ Ts) ∧
  (Cond.arrayClass .int ∈ Ts ∧ Cond.arrayClass .long ∈ Ts ∧ Cond.arrayClass .boolean ∈ Ts) ∧ (∀ c, c < gc_C g → Cond.instantiable (gc_N g c) (gc_F g c) ∈ Ts ∧ Cond.initialized (gc_N g c) ∈ Ts) ∧ (∀ c k, c < gc_C g → k < gc_F g c → (gc_T g c k).1 = gc_N g c ∧ gc_N g c = oN c)
section CKOK
variable {g : ab_G} {Ts : List Cond} {sw : Nat → Int × Int × Int × List Int} {FL : List (Nat × Nat × Nat × Nat)} {CL : List (Nat × Nat × Nat)} {KI KL : List (Nat × Nat × Int)} {OB AC : List (Nat × Nat)} {cc : ByteArray} {o : Nat} {ini : Bool} {pc : Nat} {I : ab_I} {oN : Nat → String}
theorem ck_pfd {a b k : Nat} (hw : ck_W g Ts oN FL CL KI KL OB AC) (h : a < gc_C g ∧ k < gc_F g a ∧ (o, b, a, k) ∈ FL ∧ ((gc_T g a k).2.2.2 = false ∨ (ini = true ∧ a = o))) : ab_pfd g Ts (oN o) ini a b k := by
  obtain ⟨h1, h2, h3, h4⟩ := h
  have hf := hw.1 _ h3
  refine ⟨h1, h2, ?_⟩
  by_cases hfin : (gc_T g a k).2.2.2 = false
  · exact Or.inl ⟨hfin, Or.inl hf⟩
  · obtain ⟨h5, h6⟩ := h4.resolve_left hfin
    subst h6
    obtain ⟨e1, e2⟩ := hw.2.2.2.2.2.2.2.2 a k h1 h2
    exact Or.inr ⟨by simpa using hfin, h5, e1.trans e2, hf⟩
set_option maxHeartbeats 4000000 in
theorem ck_I_ok (hw : ck_W g Ts oN FL CL KI KL OB AC) (h : ck_I (gc_T g) (gc_F g) (gc_Y g) (gc_C g) (gc_K g) sw FL CL KI KL OB AC cc o ini pc I = true) : ab_okI g Ts sw cc (oN o) ini pc I := by
  obtain ⟨op, a, b, k, z⟩ := I
  unfold ck_I at h
  unfold ab_okI
  dsimp only at h ⊢
  split at h
  · -- 1
    split at h
    · split at h
      · rename_i ea; exact Or.inl ⟨ea, of_decide_eq_true h⟩
      · split at h
        · rename_i ea
          simp only [Bool.and_eq_true] at h
          exact Or.inr (Or.inl ⟨z, ea, of_decide_eq_true h.1, of_decide_eq_true h.2⟩)
        · simp only [Bool.and_eq_true] at h
          exact Or.inr (Or.inr (Or.inl ⟨z, of_decide_eq_true h.1, of_decide_eq_true h.2.1, of_decide_eq_true h.2.2⟩))
    · simp only [Bool.and_eq_true] at h
      obtain ⟨h1, h2⟩ := h
      have hc := hw.2.2.1 _ (of_decide_eq_true h1)
      split at h2
      · rename_i ea; exact Or.inr (Or.inr (Or.inr (Or.inl ⟨ea, of_decide_eq_true h2, hc⟩)))
      · simp only [Bool.and_eq_true] at h2
        exact Or.inr (Or.inr (Or.inr (Or.inr ⟨of_decide_eq_true h2.1, of_decide_eq_true h2.2, hc⟩)))
  · -- 2
    split at h
    · simp only [Bool.and_eq_true] at h
      obtain ⟨h1, h2⟩ := h
      split at h2
      · rename_i ez; subst ez; exact Or.inl ⟨0, of_decide_eq_true h1, of_decide_eq_true h2, rfl⟩
      · simp only [Bool.and_eq_true] at h2
        have ez := of_decide_eq_true h2.1
        subst ez
        exact Or.inl ⟨1, of_decide_eq_true h1, of_decide_eq_true h2.2, rfl⟩
    · simp only [Bool.and_eq_true] at h
      exact Or.inr ⟨of_decide_eq_true h.1, of_decide_eq_true h.2.2, hw.2.2.2.1 _ (of_decide_eq_true h.2.1)⟩
  · -- 3
    split at h
    · rename_i ea
      split at h
      · rename_i hk; exact Or.inl ⟨⟨k, hk⟩, ea, rfl, of_decide_eq_true h⟩
      · cases h
    · simp only [Bool.and_eq_true] at h
      exact Or.inr ⟨of_decide_eq_true h.1, of_decide_eq_true h.2⟩
  · -- 4
    split at h
    · rename_i ea
      split at h
      · rename_i hk; exact Or.inl ⟨⟨k, hk⟩, ea, rfl, of_decide_eq_true h⟩
      · cases h
    · simp only [Bool.and_eq_true] at h
      exact Or.inr ⟨of_decide_eq_true h.1, of_decide_eq_true h.2⟩
  · -- 5
    split at h
    · rename_i ea
      split at h
      · rename_i hk; exact Or.inl ⟨⟨k, hk⟩, ea, rfl, of_decide_eq_true h⟩
      · cases h
    · simp only [Bool.and_eq_true] at h
      exact Or.inr ⟨of_decide_eq_true h.1, of_decide_eq_true h.2⟩
  · -- 6
    split at h
    · rename_i ea
      split at h
      · rename_i hk; exact Or.inl ⟨⟨k, hk⟩, ea, rfl, of_decide_eq_true h⟩
      · cases h
    · simp only [Bool.and_eq_true] at h
      exact Or.inr ⟨of_decide_eq_true h.1, of_decide_eq_true h.2⟩
  · -- 7
    split at h
    · rename_i ea
      split at h
      · rename_i hk; exact Or.inl ⟨⟨k, hk⟩, ea, rfl, of_decide_eq_true h⟩
      · cases h
    · simp only [Bool.and_eq_true] at h
      exact Or.inr ⟨of_decide_eq_true h.1, of_decide_eq_true h.2⟩
  · -- 8
    split at h
    · rename_i ea
      split at h
      · rename_i hk; exact Or.inl ⟨⟨k, hk⟩, ea, rfl, of_decide_eq_true h⟩
      · cases h
    · simp only [Bool.and_eq_true] at h
      exact Or.inr ⟨of_decide_eq_true h.1, of_decide_eq_true h.2⟩
  · exact ck_dt h
  · exact ck_dt h
  · exact ck_dt h
  · exact ck_dt h
  · exact ck_dt h
  · exact ck_dt h
  · exact ck_dt h
  · exact ck_dt h
  · exact ck_dt h
  · exact ck_dt h
  · exact ck_dt h
  · exact ck_dt h
  · exact ck_dt h
  · exact ck_dt h
  · exact ck_dt h
  · exact ck_dt h
  · exact ck_dt h
  · exact ck_dt h
  · exact ck_dt h
  · exact ck_dt h
  · exact ck_dt h
  · exact ck_dt h
  · exact ck_dt h
  · exact ck_dt h
  · exact ck_dt h
  · exact ck_dt h
  · exact ck_dt h
  · simp only [Bool.and_eq_true] at h
    exact ⟨of_decide_eq_true h.1, of_decide_eq_true h.2.1, of_decide_eq_true h.2.2⟩
  · simp only [Bool.and_eq_true] at h
    exact ⟨of_decide_eq_true h.1, of_decide_eq_true h.2.1, of_decide_eq_true h.2.2⟩
  · simp only [Bool.and_eq_true] at h
    exact ⟨of_decide_eq_true h.1, of_decide_eq_true h.2⟩
  · simp only [Bool.and_eq_true] at h
    exact ⟨of_decide_eq_true h.1, of_decide_eq_true h.2⟩
  · simp only [Bool.and_eq_true] at h
    exact ⟨of_decide_eq_true h.1, of_decide_eq_true h.2⟩
  · exact ck_dt h
  · simp only [Bool.and_eq_true] at h
    exact ⟨of_decide_eq_true h.1, of_decide_eq_true h.2.1, of_decide_eq_true h.2.2⟩
  · -- 43
    simp only [Bool.and_eq_true] at h
    exact ⟨⟨of_decide_eq_true h.1.1, of_decide_eq_true h.1.2.1, Or.inl (hw.1 _ (of_decide_eq_true h.1.2.2))⟩, of_decide_eq_true h.2.1, of_decide_eq_true h.2.2⟩
  · simp only [Bool.and_eq_true] at h
    exact ⟨⟨of_decide_eq_true h.1.1, of_decide_eq_true h.1.2.1, Or.inl (hw.1 _ (of_decide_eq_true h.1.2.2))⟩, of_decide_eq_true h.2.1, of_decide_eq_true h.2.2⟩
  · simp only [Bool.and_eq_true] at h
    exact ⟨⟨of_decide_eq_true h.1.1, of_decide_eq_true h.1.2.1, Or.inl (hw.1 _ (of_decide_eq_true h.1.2.2))⟩, h.2.1, of_decide_eq_true h.2.2⟩
  · -- 46
    simp only [Bool.and_eq_true, Bool.or_eq_true, decide_eq_true_eq] at h
    exact ⟨ck_pfd hw h.1, h.2.1, of_decide_eq_true h.2.2⟩
  · -- 47
    simp only [Bool.and_eq_true, Bool.or_eq_true, decide_eq_true_eq] at h
    exact ⟨ck_pfd hw h.1, h.2.1, of_decide_eq_true h.2.2⟩
  · -- 48
    simp only [Bool.and_eq_true, Bool.or_eq_true, decide_eq_true_eq] at h
    exact ⟨ck_pfd hw h.1, h.2.1, of_decide_eq_true h.2.2⟩
  · -- 49
    simp only [Bool.and_eq_true, Bool.or_eq_true, decide_eq_true_eq] at h
    exact ⟨ck_pfd hw h.1, h.2.1, of_decide_eq_true h.2.2⟩
  · exact ck_dt h
  · exact ck_dt h
  · exact ck_dt h
  · simp only [Bool.and_eq_true] at h
    exact ⟨of_decide_eq_true h.1, of_decide_eq_true h.2⟩
  · exact ck_dt h
  · exact ck_dt h
  · exact ck_dt h
  · simp only [Bool.and_eq_true] at h
    exact ⟨of_decide_eq_true h.1, of_decide_eq_true h.2⟩
  · simp only [Bool.and_eq_true] at h
    exact ⟨of_decide_eq_true h.1, of_decide_eq_true h.2⟩
  · -- 59
    obtain ⟨w1, w2, w3⟩ := hw.2.2.2.2.2.2.1
    split at h
    · rename_i ea
      simp only [Bool.and_eq_true] at h
      obtain ⟨h1, h2⟩ := h
      split at h2
      · rename_i ek; subst ek; exact Or.inl ⟨ea, rfl, h1, w1, of_decide_eq_true h2⟩
      · split at h2
        · rename_i ek; subst ek; exact Or.inr (Or.inl ⟨ea, rfl, h1, w2, of_decide_eq_true h2⟩)
        · simp only [Bool.and_eq_true] at h2
          have ek := of_decide_eq_true h2.1
          subst ek
          exact Or.inr (Or.inr (Or.inl ⟨ea, rfl, h1, w3, of_decide_eq_true h2.2⟩))
    · simp only [Bool.and_eq_true] at h
      obtain ⟨h1, h2, h3, h4, h5⟩ := h
      have hk := of_decide_eq_true h2
      have e3 : k = 3 + (k - 3) := by omega
      refine Or.inr (Or.inr (Or.inr ⟨k - 3, of_decide_eq_true h1, by omega, e3, by rw [← e3]; exact h3, hw.2.1 _ (of_decide_eq_true h4), of_decide_eq_true h5⟩))
  · -- 60
    simp only [Bool.and_eq_true] at h
    have hc := hw.2.2.2.2.2.2.2.1 a (of_decide_eq_true h.1)
    exact ⟨of_decide_eq_true h.1, of_decide_eq_true h.2.1, hw.2.1 _ (of_decide_eq_true h.2.2.1), hc.1, hc.2, of_decide_eq_true h.2.2.2⟩
  · -- 61
    simp only [Bool.and_eq_true] at h
    obtain ⟨w1, w2, w3⟩ := hw.2.2.2.2.1
    exact ⟨w1 _ (of_decide_eq_true h.1), w2, w3, of_decide_eq_true h.2⟩
  · -- 62
    simp only [Bool.and_eq_true] at h
    obtain ⟨w1, w2, w3, w4⟩ := hw.2.2.2.2.2.1
    exact ⟨w1 _ (of_decide_eq_true h.1), w2, w3, w4, of_decide_eq_true h.2⟩
  · trivial
  · cases h
def ck_E (cc : ByteArray) (rt : Option FieldType) (pc op : Nat) : Bool := match op with
  | 90 => ck_d cc pc .ireturn 1 && decide (rt = some .int)
  | 91 => ck_d cc pc .ireturn 1 && decide (rt = some .boolean)
  | 92 => ck_d cc pc .lreturn 1 && decide (rt = some .long)
  | 93 => ck_d cc pc .areturn 1 && (match rt with
    | some ty => ab_ref ty
    | none => false)
  | 94 => ck_d cc pc .return_ 1 && decide (rt = none)
  | _ => false
theorem ck_E_ok {rt : Option FieldType} {op : Nat} (h : ck_E cc rt pc op = true) : ab_okE cc rt pc op := by
  unfold ck_E at h
  split at h
  · simp only [Bool.and_eq_true] at h
    exact Or.inl ⟨rfl, ck_dt h.1, of_decide_eq_true h.2⟩
  · simp only [Bool.and_eq_true] at h
    exact Or.inr (Or.inl ⟨rfl, ck_dt h.1, of_decide_eq_true h.2⟩)
  · simp only [Bool.and_eq_true] at h
    exact Or.inr (Or.inr (Or.inl ⟨rfl, ck_dt h.1, of_decide_eq_true h.2⟩))
  · simp only [Bool.and_eq_true] at h
    obtain ⟨h1, h2⟩ := h
    split at h2
    · rename_i ty
      exact Or.inr (Or.inr (Or.inr (Or.inl ⟨rfl, ck_dt h1, ty, rfl, h2⟩)))
    · cases h2
  · simp only [Bool.and_eq_true] at h
    exact Or.inr (Or.inr (Or.inr (Or.inr ⟨rfl, ck_dt h.1, of_decide_eq_true h.2⟩)))
  · cases h
/-- a call: of an object (kind 0), a constructor (1), static (2) -/
def ck_C (ML : List (Nat × Nat × Nat)) (mk : Nat → Nat) (cc : ByteArray) (o pc op M idx : Nat) : Bool := decide ((o, idx, M) ∈ ML) && (if op = 80 then (if mk M = 0 then ck_d cc pc (.invokevirtual idx) 3 else decide (mk M = 1) && ck_d cc pc (.invokespecial idx) 3) else decide (op = 81) && (decide (mk M = 2) && ck_d cc pc (.invokestatic idx) 3))
/-- what the method tables say is among the words -/
def ck_V (g : ab_G) (Ts : List Cond) (oN : Nat → String) (ML : List (Nat × Nat × Nat)) (my : Nat → MethodName) (mb : Nat → ByteArray) (mx : Nat → Nat) (mr : Nat → Option FieldType) (na mc mk : Nat → Nat) : Prop :=
  ∀ q ∈ ML, ab_lk Ts (oN q.1) q.2.1 (my q.2.2) ∧ (Cond.code (my q.2.2) (mb q.2.2) (mx q.2.2) (mr q.2.2) ∈ Ts ∧ goodWord (Cond.code (my q.2.2) (mb q.2.2) (mx q.2.2) (mr q.2.2)) = true ∧ Cond.initialized (my q.2.2).cls ∈ Ts ∧ plainName (my q.2.2).cls = true ∧ mx q.2.2 ≤ 40) ∧ ((my q.2.2).cls ≠ "java/lang/invoke/MethodHandle" ∧ (my q.2.2).cls ≠ "java/lang/invoke/VarHandle" ∧ (parseMethodDescriptor (my q.2.2).desc).map (fun d => d.parameters.length) = some (na q.2.2)) ∧
    (mk q.2.2 = 0 → mc q.2.2 < gc_C g ∧ gc_N g (mc q.2.2) = (my q.2.2).cls ∧ Cond.instanceMethod (my q.2.2) ∈ Ts ∧ Cond.selects (my q.2.2).cls (my q.2.2) (my q.2.2) ∈ Ts) ∧ (mk q.2.2 = 1 → mc q.2.2 < gc_C g ∧ gc_N g (mc q.2.2) = (my q.2.2).cls ∧ Cond.instanceMethod (my q.2.2) ∈ Ts ∧ (my q.2.2).name = "<init>" ∧ mr q.2.2 = none) ∧ (mk q.2.2 = 2 → Cond.static (my q.2.2) ∈ Ts)
theorem ck_C_ok {ML : List (Nat × Nat × Nat)} {my : Nat → MethodName} {mb : Nat → ByteArray} {mx : Nat → Nat} {mr : Nat → Option FieldType} {na mc mk : Nat → Nat} {op M idx : Nat} (hv : ck_V g Ts oN ML my mb mx mr na mc mk) (h : ck_C ML mk cc o pc op M idx = true) : ab_okC g Ts my mb mx mr na mc cc (oN o) pc op M idx := by
  unfold ck_C at h
  simp only [Bool.and_eq_true] at h
  obtain ⟨h1, h2⟩ := h
  obtain ⟨v1, v2, v3, v4, v5, v6⟩ := hv _ (of_decide_eq_true h1)
  refine ⟨v2, v3, ?_⟩
  split at h2
  · rename_i e80
    split at h2
    · rename_i e0
      obtain ⟨w1, w2, w3, w4⟩ := v4 e0
      exact Or.inl ⟨e80, w1, w2, w3, v1, Or.inl ⟨ck_dt h2, w4⟩⟩
    · simp only [Bool.and_eq_true] at h2
      obtain ⟨w1, w2, w3, w4, w5⟩ := v5 (of_decide_eq_true h2.1)
      exact Or.inl ⟨e80, w1, w2, w3, v1, Or.inr ⟨ck_dt h2.2, w4, w5⟩⟩
  · simp only [Bool.and_eq_true] at h2
    exact Or.inr ⟨of_decide_eq_true h2.1, v6 (of_decide_eq_true h2.2.1), v1, ck_dt h2.2.2⟩
end CKOK
