/-! ===== a logic of runs over the abstract machine (own work) ===== -/
theorem ab_rs_up {cd : Nat → Nat → ab_I} {sw : Nat → Int × Int × Int × List Int} {na mx mc : Nat → Nat} : ∀ (n d M pc : Nat) (L st : List Value) (h : ab_H) (o : Option Value × ab_H), ab_rs cd sw na mx mc n d M pc L st h = some o → ab_rs cd sw na mx mc (n + 1) d M pc L st h = some o
  | 0, d, M, pc, L, st, h, o, hs => by simp [ab_rs] at hs
  | n + 1, d, M, pc, L, st, h, o, hs => by
    rw [ab_rs_succ] at hs ⊢
    split at hs
    · rename_i c; rw [if_pos c]; exact hs
    · rename_i c
      rw [if_neg c]
      split at hs
      · rename_i c1
        rw [if_pos c1]
        cases d with
        | zero => cases hs
        | succ d =>
          dsimp only at hs ⊢
          obtain ⟨q, e1, hs⟩ := Option.bind_eq_some_iff.mp hs
          obtain ⟨u, e2, hs⟩ := Option.bind_eq_some_iff.mp hs
          exact Option.bind_eq_some_iff.mpr ⟨q, e1, Option.bind_eq_some_iff.mpr ⟨u, ab_rs_up n d _ _ _ _ _ _ e2, ab_rs_up n (d + 1) _ _ _ _ _ _ hs⟩⟩
      · rename_i c1
        rw [if_neg c1]
        split at hs
        · rename_i c2
          rw [if_pos c2]
          split at hs
          · rename_i c3
            rw [if_pos c3]
            obtain ⟨q, e1, hs⟩ := Option.bind_eq_some_iff.mp hs
            exact Option.bind_eq_some_iff.mpr ⟨q, e1, ab_rs_up n d _ _ _ _ _ _ hs⟩
          · cases hs
        · rename_i c2
          rw [if_neg c2]
          obtain ⟨q, e1, hs⟩ := Option.bind_eq_some_iff.mp hs
          exact Option.bind_eq_some_iff.mpr ⟨q, e1, ab_rs_up n d _ _ _ _ _ _ hs⟩
theorem ab_rs_le {cd : Nat → Nat → ab_I} {sw : Nat → Int × Int × Int × List Int} {na mx mc : Nat → Nat} {n m d M pc : Nat} {L st : List Value} {h : ab_H} {o : Option Value × ab_H} (hle : n ≤ m) (hs : ab_rs cd sw na mx mc n d M pc L st h = some o) : ab_rs cd sw na mx mc m d M pc L st h = some o := by
  obtain ⟨k, rfl⟩ := Nat.le.dest hle
  induction k with
  | zero => exact hs
  | succ k ih => exact ab_rs_up _ _ _ _ _ _ _ _ (ih (Nat.le_add_right _ _))
/-- from here the run ends, with an answer and a heap of that kind -/
def wq (d M pc : Nat) (L st : List Value) (h : ab_H) (Q : Option Value → ab_H → Prop) : Prop := ∃ n r h', ab_rs pg_cd pg_sw pg_na pg_mx pg_mc n d M pc L st h = some (r, h') ∧ Q r h'
/-- a call of a method -/
def wm (d M : Nat) (As : List Value) (h : ab_H) (Q : Option Value → ab_H → Prop) : Prop := wq d M 0 (ab_ent As (pg_mx M)) [] h Q
theorem wq_to {d M pc : Nat} {L st : List Value} {h : ab_H} {Q Q' : Option Value → ab_H → Prop} (k : wq d M pc L st h Q) (hQ : ∀ r h', Q r h' → Q' r h') : wq d M pc L st h Q' := by
  obtain ⟨n, r, h', e, q⟩ := k
  exact ⟨n, r, h', e, hQ r h' q⟩
theorem wq_s {d M pc : Nat} {L st : List Value} {h : ab_H} {Q : Option Value → ab_H → Prop} {q : ab_C} (hop : (pg_cd M pc).1 < 70) (hs : ab_stp pg_sw (pg_cd M pc) pc L st h = some q) (k : wq d M q.1 q.2.1 q.2.2.1 q.2.2.2 Q) : wq d M pc L st h Q := by
  obtain ⟨n, r, h', e, hq⟩ := k
  refine ⟨n + 1, r, h', ?_, hq⟩
  rw [ab_rs_succ, if_neg (by omega), if_neg (by omega), if_neg (by omega), hs]
  exact e
theorem wq_x {d M pc : Nat} {L st : List Value} {h : ab_H} {Q : Option Value → ab_H → Prop} {q : ab_C} (hop : 70 ≤ (pg_cd M pc).1 ∧ (pg_cd M pc).1 < 80) (hd : 7 ≤ d) (hs : ab_ext pg_sw (pg_cd M pc) pc L st h = some q) (k : wq d M q.1 q.2.1 q.2.2.1 q.2.2.2 Q) : wq d M pc L st h Q := by
  obtain ⟨n, r, h', e, hq⟩ := k
  refine ⟨n + 1, r, h', ?_, hq⟩
  rw [ab_rs_succ, if_neg (by omega), if_neg (by omega), if_pos (by omega), if_pos hd, hs]
  exact e
theorem wq_r {d M pc : Nat} {L st : List Value} {h h' : ab_H} {r : Option Value} {Q : Option Value → ab_H → Prop} (hop : 90 ≤ (pg_cd M pc).1) (hs : ab_ret (pg_cd M pc).1 st h = some (r, h')) (k : Q r h') : wq d M pc L st h Q :=
  ⟨1, r, h', by rw [ab_rs_succ, if_pos hop]; exact hs, k⟩
theorem wq_c {d M pc : Nat} {L st As rest : List Value} {h : ab_H} {Q : Option Value → ab_H → Prop} (hop : 80 ≤ (pg_cd M pc).1 ∧ (pg_cd M pc).1 < 90) (hs : ab_args pg_mc pg_na pg_mx (pg_cd M pc) st h = some (As, rest)) (k : wm d (pg_cd M pc).2.1 As h (fun r h' => wq (d + 1) M (pc + 3) L (r.toList ++ rest) h' Q)) : wq (d + 1) M pc L st h Q := by
  obtain ⟨n, r, h', e, n2, r2, h2, e2, hq⟩ := k
  refine ⟨max n n2 + 1, r2, h2, ?_, hq⟩
  rw [ab_rs_succ, if_neg (by omega), if_pos hop.1]
  dsimp only
  rw [hs]
  refine Option.bind_eq_some_iff.mpr ⟨_, rfl, Option.bind_eq_some_iff.mpr ⟨(r, h'), ab_rs_le (Nat.le_max_left _ _) e, ab_rs_le (Nat.le_max_right _ _) e2⟩⟩
section GOP
variable {d M pc : Nat} {L st L' : List Value} {h : ab_H} {Q : Option Value → ab_H → Prop} {a b k : Nat} {z : Int}
theorem gp {op : Nat} {q : ab_C} (hI : pg_cd M pc = (op, a, b, k, z)) (hop : op < 70) (hs : ab_stp pg_sw (op, a, b, k, z) pc L st h = some q) (kk : wq d M q.1 q.2.1 q.2.2.1 q.2.2.2 Q) : wq d M pc L st h Q :=
  wq_s (by rw [hI]; exact hop) (by rw [hI]; exact hs) kk
theorem g1 {x : Int32} (hI : pg_cd M pc = (1, a, b, k, z)) (hx : Int32.ofInt z = x) (t : wq d M (pc + a) L (.int x :: st) h Q) : wq d M pc L st h Q := by subst hx; exact gp hI (by decide) rfl t
theorem g2 {x : Int64} (hI : pg_cd M pc = (2, a, b, k, z)) (hx : Int64.ofInt z = x) (t : wq d M (pc + a) L (.long x :: st) h Q) : wq d M pc L st h Q := by subst hx; exact gp hI (by decide) rfl t
theorem g3 {x : Int32} (hI : pg_cd M pc = (3, a, b, k, z)) (hL : L[k]? = some (.int x)) (t : wq d M (pc + a) L (.int x :: st) h Q) : wq d M pc L st h Q := gp (q := (pc + a, L, .int x :: st, h)) hI (by decide) (by simp only [ab_stp, ab_ldi, hL]) t
theorem g4 {x : Int64} (hI : pg_cd M pc = (4, a, b, k, z)) (hL : L[k]? = some (.long x)) (t : wq d M (pc + a) L (.long x :: st) h Q) : wq d M pc L st h Q := gp (q := (pc + a, L, .long x :: st, h)) hI (by decide) (by simp only [ab_stp, ab_ldl, hL]) t
theorem g5 {x : Nat} (hI : pg_cd M pc = (5, a, b, k, z)) (hL : L[k]? = some (.ref x)) (t : wq d M (pc + a) L (.ref x :: st) h Q) : wq d M pc L st h Q := gp (q := (pc + a, L, .ref x :: st, h)) hI (by decide) (by simp only [ab_stp, ab_lda, hL]) t
theorem g5n (hI : pg_cd M pc = (5, a, b, k, z)) (hL : L[k]? = some .null) (t : wq d M (pc + a) L (.null :: st) h Q) : wq d M pc L st h Q := gp (q := (pc + a, L, .null :: st, h)) hI (by decide) (by simp only [ab_stp, ab_lda, hL]) t
theorem g6 {x : Int32} (hI : pg_cd M pc = (6, a, b, k, z)) (hL : ab_st1 L k (.int x) = some L') (t : wq d M (pc + a) L' st h Q) : wq d M pc L (.int x :: st) h Q := gp (q := (pc + a, L', st, h)) hI (by decide) (by simp only [ab_stp, ab_sti, hL, Option.bind_some]) t
theorem g7 {x : Int64} (hI : pg_cd M pc = (7, a, b, k, z)) (hL : ab_st2 L k (.long x) = some L') (t : wq d M (pc + a) L' st h Q) : wq d M pc L (.long x :: st) h Q := gp (q := (pc + a, L', st, h)) hI (by decide) (by simp only [ab_stp, ab_stl, hL, Option.bind_some]) t
theorem g8 {x : Nat} (hI : pg_cd M pc = (8, a, b, k, z)) (hL : ab_st1 L k (.ref x) = some L') (t : wq d M (pc + a) L' st h Q) : wq d M pc L (.ref x :: st) h Q := gp (q := (pc + a, L', st, h)) hI (by decide) (by simp only [ab_stp, ab_sta, hL, Option.bind_some]) t
theorem g8n (hI : pg_cd M pc = (8, a, b, k, z)) (hL : ab_st1 L k .null = some L') (t : wq d M (pc + a) L' st h Q) : wq d M pc L (.null :: st) h Q := gp (q := (pc + a, L', st, h)) hI (by decide) (by simp only [ab_stp, ab_sta, hL, Option.bind_some]) t
theorem g9 {x y : Int32} (hI : pg_cd M pc = (9, a, b, k, z)) (hx : L[k]? = some (.int x)) (hz : Int32.ofInt z = y) (hL : ab_st1 L k (.int (x + y)) = some L') (t : wq d M (pc + 3) L' st h Q) : wq d M pc L st h Q := gp (q := (pc + 3, L', st, h)) hI (by decide) (by subst hz; simp only [ab_stp, ab_inc, hx, hL, Option.bind_some]) t
theorem g6y {x : Int32} {Lf : Int32 → List Value} (hI : pg_cd M pc = (6, a, b, k, z)) (hL : ∀ y, ab_st1 L k (.int y) = some (Lf y)) (t : ∀ y : Int32, y = x → wq d M (pc + a) (Lf y) st h Q) : wq d M pc L (.int x :: st) h Q := g6 hI (hL x) (t x rfl)
theorem g7y {x : Int64} {Lf : Int64 → List Value} (hI : pg_cd M pc = (7, a, b, k, z)) (hL : ∀ y, ab_st2 L k (.long y) = some (Lf y)) (t : ∀ y : Int64, y = x → wq d M (pc + a) (Lf y) st h Q) : wq d M pc L (.long x :: st) h Q := g7 hI (hL x) (t x rfl)
theorem g16 {x y : Int32} (hI : pg_cd M pc = (16, a, b, k, z)) (hy : ¬ y = 0) (t : wq d M (pc + 1) L (.int (x / y) :: st) h Q) : wq d M pc L (.int y :: .int x :: st) h Q := gp (q := (pc + 1, L, .int (x / y) :: st, h)) hI (by decide) (by simp only [ab_stp, ab_ii, if_neg hy, Option.bind_some]) t
theorem g17 {x y : Int32} (hI : pg_cd M pc = (17, a, b, k, z)) (hy : ¬ y = 0) (t : wq d M (pc + 1) L (.int (x - x / y * y) :: st) h Q) : wq d M pc L (.int y :: .int x :: st) h Q := gp (q := (pc + 1, L, .int (x - x / y * y) :: st, h)) hI (by decide) (by simp only [ab_stp, ab_ii, if_neg hy, Option.bind_some]) t
theorem g26 {x y : Int64} (hI : pg_cd M pc = (26, a, b, k, z)) (hy : ¬ y = 0) (t : wq d M (pc + 1) L (.long (x / y) :: st) h Q) : wq d M pc L (.long y :: .long x :: st) h Q := gp (q := (pc + 1, L, .long (x / y) :: st, h)) hI (by decide) (by simp only [ab_stp, ab_ll, if_neg hy, Option.bind_some]) t
theorem g27 {x y : Int64} (hI : pg_cd M pc = (27, a, b, k, z)) (hy : ¬ y = 0) (t : wq d M (pc + 1) L (.long (x - x / y * y) :: st) h Q) : wq d M pc L (.long y :: .long x :: st) h Q := gp (q := (pc + 1, L, .long (x - x / y * y) :: st, h)) hI (by decide) (by simp only [ab_stp, ab_ll, if_neg hy, Option.bind_some]) t
theorem g10 {x y : Int32} (hI : pg_cd M pc = (10, a, b, k, z)) (t : wq d M (pc + 1) L (.int (x + y) :: st) h Q) : wq d M pc L (.int y :: .int x :: st) h Q := gp hI (by decide) rfl t
theorem g11 {x y : Int32} (hI : pg_cd M pc = (11, a, b, k, z)) (t : wq d M (pc + 1) L (.int (x - y) :: st) h Q) : wq d M pc L (.int y :: .int x :: st) h Q := gp hI (by decide) rfl t
theorem g12 {x y : Int32} (hI : pg_cd M pc = (12, a, b, k, z)) (t : wq d M (pc + 1) L (.int (x * y) :: st) h Q) : wq d M pc L (.int y :: .int x :: st) h Q := gp hI (by decide) rfl t
theorem g13 {x y : Int32} (hI : pg_cd M pc = (13, a, b, k, z)) (t : wq d M (pc + 1) L (.int (x &&& y) :: st) h Q) : wq d M pc L (.int y :: .int x :: st) h Q := gp hI (by decide) rfl t
theorem g14 {x y : Int32} (hI : pg_cd M pc = (14, a, b, k, z)) (t : wq d M (pc + 1) L (.int (x ||| y) :: st) h Q) : wq d M pc L (.int y :: .int x :: st) h Q := gp hI (by decide) rfl t
theorem g15 {x y : Int32} (hI : pg_cd M pc = (15, a, b, k, z)) (t : wq d M (pc + 1) L (.int (x ^^^ y) :: st) h Q) : wq d M pc L (.int y :: .int x :: st) h Q := gp hI (by decide) rfl t
theorem g18 {x y : Int32} (hI : pg_cd M pc = (18, a, b, k, z)) (t : wq d M (pc + 1) L (.int (x <<< (y &&& 31)) :: st) h Q) : wq d M pc L (.int y :: .int x :: st) h Q := gp hI (by decide) rfl t
theorem g19 {x y : Int32} (hI : pg_cd M pc = (19, a, b, k, z)) (t : wq d M (pc + 1) L (.int (x >>> (y &&& 31)) :: st) h Q) : wq d M pc L (.int y :: .int x :: st) h Q := gp hI (by decide) rfl t
theorem g20 {x y : Int32} (hI : pg_cd M pc = (20, a, b, k, z)) (t : wq d M (pc + 1) L (.int ((x.toUInt32 >>> (y.toUInt32 &&& Int32.toUInt32 31)).toInt32) :: st) h Q) : wq d M pc L (.int y :: .int x :: st) h Q := gp hI (by decide) rfl t
theorem g22 {x y : Int64} (hI : pg_cd M pc = (22, a, b, k, z)) (t : wq d M (pc + 1) L (.long (x + y) :: st) h Q) : wq d M pc L (.long y :: .long x :: st) h Q := gp hI (by decide) rfl t
theorem g23 {x y : Int64} (hI : pg_cd M pc = (23, a, b, k, z)) (t : wq d M (pc + 1) L (.long (x - y) :: st) h Q) : wq d M pc L (.long y :: .long x :: st) h Q := gp hI (by decide) rfl t
theorem g24 {x y : Int64} (hI : pg_cd M pc = (24, a, b, k, z)) (t : wq d M (pc + 1) L (.long (x * y) :: st) h Q) : wq d M pc L (.long y :: .long x :: st) h Q := gp hI (by decide) rfl t
theorem g25 {x y : Int64} (hI : pg_cd M pc = (25, a, b, k, z)) (t : wq d M (pc + 1) L (.long (x ||| y) :: st) h Q) : wq d M pc L (.long y :: .long x :: st) h Q := gp hI (by decide) rfl t
theorem g28 {x y : Int64} (hI : pg_cd M pc = (28, a, b, k, z)) (t : wq d M (pc + 1) L (.int (lg_cmp x y) :: st) h Q) : wq d M pc L (.long y :: .long x :: st) h Q := gp hI (by decide) rfl t
theorem g21 {x : Int32} (hI : pg_cd M pc = (21, a, b, k, z)) (t : wq d M (pc + 1) L (.int (-x) :: st) h Q) : wq d M pc L (.int x :: st) h Q := gp hI (by decide) rfl t
theorem g29 {x : Int64} (hI : pg_cd M pc = (29, a, b, k, z)) (t : wq d M (pc + 1) L (.long (-x) :: st) h Q) : wq d M pc L (.long x :: st) h Q := gp hI (by decide) rfl t
theorem g30 {x : Int64} (hI : pg_cd M pc = (30, a, b, k, z)) (t : wq d M (pc + 1) L (.int x.toInt32 :: st) h Q) : wq d M pc L (.long x :: st) h Q := gp hI (by decide) rfl t
theorem g31 {x : Int32} (hI : pg_cd M pc = (31, a, b, k, z)) (t : wq d M (pc + 1) L (.long x.toInt64 :: st) h Q) : wq d M pc L (.int x :: st) h Q := gp hI (by decide) rfl t
theorem g32 {x : Int64} {y : Int32} (hI : pg_cd M pc = (32, a, b, k, z)) (t : wq d M (pc + 1) L (.long (x <<< (y.toInt64 &&& 63)) :: st) h Q) : wq d M pc L (.int y :: .long x :: st) h Q := gp hI (by decide) rfl t
theorem g33i {x : Int32} (hI : pg_cd M pc = (33, a, b, k, z)) (t : wq d M (pc + 1) L (.int x :: .int x :: st) h Q) : wq d M pc L (.int x :: st) h Q := gp hI (by decide) rfl t
theorem g33a {x : Nat} (hI : pg_cd M pc = (33, a, b, k, z)) (t : wq d M (pc + 1) L (.ref x :: .ref x :: st) h Q) : wq d M pc L (.ref x :: st) h Q := gp hI (by decide) rfl t
theorem g34a {x : Int32} {y : Nat} (hI : pg_cd M pc = (34, a, b, k, z)) (t : wq d M (pc + 1) L (.int x :: .ref y :: .int x :: .ref y :: st) h Q) : wq d M pc L (.int x :: .ref y :: st) h Q := gp hI (by decide) rfl t
theorem g34i {x y : Int32} (hI : pg_cd M pc = (34, a, b, k, z)) (t : wq d M (pc + 1) L (.int x :: .int y :: .int x :: .int y :: st) h Q) : wq d M pc L (.int x :: .int y :: st) h Q := gp hI (by decide) rfl t
theorem g34l {x : Int64} (hI : pg_cd M pc = (34, a, b, k, z)) (t : wq d M (pc + 1) L (.long x :: .long x :: st) h Q) : wq d M pc L (.long x :: st) h Q := gp hI (by decide) rfl t
theorem g35i {x : Int32} (hI : pg_cd M pc = (35, a, b, k, z)) (t : wq d M (pc + 1) L st h Q) : wq d M pc L (.int x :: st) h Q := gp hI (by decide) rfl t
theorem g35a {x : Nat} (hI : pg_cd M pc = (35, a, b, k, z)) (t : wq d M (pc + 1) L st h Q) : wq d M pc L (.ref x :: st) h Q := gp hI (by decide) rfl t
theorem g38 {pc1 : Nat} (hI : pg_cd M pc = (38, a, b, k, z)) (hp : ab_to pc z = pc1) (t : wq d M pc1 L st h Q) : wq d M pc L st h Q := by subst hp; exact gp hI (by decide) rfl t
theorem g41 (hI : pg_cd M pc = (41, a, b, k, z)) (t : wq d M (pc + 1) L (.null :: st) h Q) : wq d M pc L st h Q := gp hI (by decide) rfl t
theorem gif {x : Int32} (hI : pg_cd M pc = (36, a, b, k, z)) (t : wq d M (bif ab_cond k x 0 then ab_to pc z else pc + 3) L st h Q) : wq d M pc L (.int x :: st) h Q := gp hI (by decide) rfl t
theorem gcm {x y : Int32} (hI : pg_cd M pc = (37, a, b, k, z)) (t : wq d M (bif ab_cond k x y then ab_to pc z else pc + 3) L st h Q) : wq d M pc L (.int y :: .int x :: st) h Q := gp hI (by decide) rfl t
theorem gbr {c : Prop} {pc1 pc2 pc3 : Nat} {bb : Bool} [hd : Decidable c] {A B : Prop} (t : if c then A else B) (hb : bb = decide c) (hp : pc1 = pc3) (f : c → A → wq d M pc3 L st h Q) (g : ¬ c → B → wq d M pc2 L st h Q) : wq d M (bif bb then pc1 else pc2) L st h Q := by
  subst hb
  subst hp
  by_cases hc : c
  · rw [if_pos hc] at t; rw [decide_eq_true hc]; exact f hc t
  · rw [if_neg hc] at t; rw [decide_eq_false hc]; exact g hc t
theorem ab_c1 (x y : Int32) : ab_cond 1 x y = !decide (x = y) := decide_not
/-- of ne: the branch is taken where it isn't so -/
theorem gbn {c : Prop} {pc1 pc2 pc3 : Nat} {bb : Bool} [hd : Decidable c] {A B : Prop} (t : if c then A else B) (hb : bb = !decide c) (hp : pc1 = pc3) (f : c → A → wq d M pc2 L st h Q) (g : ¬ c → B → wq d M pc3 L st h Q) : wq d M (bif bb then pc1 else pc2) L st h Q := by
  subst hb
  subst hp
  by_cases hc : c
  · rw [if_pos hc] at t; rw [decide_eq_true hc]; exact f hc t
  · rw [if_neg hc] at t; rw [decide_eq_false hc]; exact g hc t
theorem g39n {pc1 : Nat} (hI : pg_cd M pc = (39, a, b, k, z)) (hp : ab_to pc z = pc1) (t : wq d M pc1 L st h Q) : wq d M pc L (.null :: st) h Q := by subst hp; exact gp hI (by decide) rfl t
theorem g39a {x : Nat} (hI : pg_cd M pc = (39, a, b, k, z)) (t : wq d M (pc + 3) L st h Q) : wq d M pc L (.ref x :: st) h Q := gp hI (by decide) rfl t
theorem g40n (hI : pg_cd M pc = (40, a, b, k, z)) (t : wq d M (pc + 3) L st h Q) : wq d M pc L (.null :: st) h Q := gp hI (by decide) rfl t
theorem g40a {x pc1 : Nat} (hI : pg_cd M pc = (40, a, b, k, z)) (hp : ab_to pc z = pc1) (t : wq d M pc1 L st h Q) : wq d M pc L (.ref x :: st) h Q := by subst hp; exact gp hI (by decide) rfl t
theorem g43 {i : Nat} (hI : pg_cd M pc = (43, a, b, k, z)) (ho : ab_ok h i (100 + a) = true) (t : wq d M (pc + 3) L (.int (ab_i h i k) :: st) h Q) : wq d M pc L (.ref i :: st) h Q := gp (q := (pc + 3, L, .int (ab_i h i k) :: st, h)) hI (by decide) (by simp only [ab_stp, ab_gti, if_pos ho]) t
theorem g44 {i : Nat} (hI : pg_cd M pc = (44, a, b, k, z)) (ho : ab_ok h i (100 + a) = true) (t : wq d M (pc + 3) L (.long (ab_l h i k) :: st) h Q) : wq d M pc L (.ref i :: st) h Q := gp (q := (pc + 3, L, .long (ab_l h i k) :: st, h)) hI (by decide) (by simp only [ab_stp, ab_gtl, if_pos ho]) t
theorem g45 {i j : Nat} (hI : pg_cd M pc = (45, a, b, k, z)) (ho : ab_ok h i (100 + a) = true) (hr : ab_r h i k = some j) (t : wq d M (pc + 3) L (.ref j :: st) h Q) : wq d M pc L (.ref i :: st) h Q := gp (q := (pc + 3, L, .ref j :: st, h)) hI (by decide) (by simp only [ab_stp, ab_gtr, if_pos ho, hr, va_rf]) t
theorem g46 {x : Int32} {i : Nat} (hI : pg_cd M pc = (46, a, b, k, z)) (ho : ab_ok h i (100 + a) = true) (t : ∀ h1 : ab_H, h1 = ab_pi h i k x → wq d M (pc + 3) L st h1 Q) : wq d M pc L (.int x :: .ref i :: st) h Q := gp (q := (pc + 3, L, st, ab_pi h i k x)) hI (by decide) (by simp only [ab_stp, ab_pti, if_pos ho]) (t _ rfl)
theorem g47 {x : Int32} {i : Nat} (hI : pg_cd M pc = (47, a, b, k, z)) (ho : ab_ok h i (100 + a) = true ∧ (x = 0 ∨ x = 1)) (t : ∀ h1 : ab_H, h1 = ab_pi h i k x → wq d M (pc + 3) L st h1 Q) : wq d M pc L (.int x :: .ref i :: st) h Q := gp (q := (pc + 3, L, st, ab_pi h i k x)) hI (by decide) (by simp only [ab_stp, ab_ptz, if_pos ho]) (t _ rfl)
theorem g48 {x : Int64} {i : Nat} (hI : pg_cd M pc = (48, a, b, k, z)) (ho : ab_ok h i (100 + a) = true) (t : ∀ h1 : ab_H, h1 = ab_pl h i k x → wq d M (pc + 3) L st h1 Q) : wq d M pc L (.long x :: .ref i :: st) h Q := gp (q := (pc + 3, L, st, ab_pl h i k x)) hI (by decide) (by simp only [ab_stp, ab_ptl, if_pos ho]) (t _ rfl)
theorem g49 {x i : Nat} (hI : pg_cd M pc = (49, a, b, k, z)) (ho : ab_ok h i (100 + a) = true) (t : ∀ h1 : ab_H, h1 = ab_pr h i k (some x) → wq d M (pc + 3) L st h1 Q) : wq d M pc L (.ref x :: .ref i :: st) h Q := gp (q := (pc + 3, L, st, ab_pr h i k (some x))) hI (by decide) (by simp only [ab_stp, ab_ptr, if_pos ho]) (t _ rfl)
theorem g50 {x : Int32} {i : Nat} (hI : pg_cd M pc = (50, a, b, k, z)) (ho : (i = 0 ∨ ab_ok h i 0 = true) ∧ ab_in x (ab_s h i).2 = true) (t : wq d M (pc + 1) L (.int (ab_i h i x.toNatClampNeg) :: st) h Q) : wq d M pc L (.int x :: .ref i :: st) h Q := gp (q := (pc + 1, L, .int (ab_i h i x.toNatClampNeg) :: st, h)) hI (by decide) (by simp only [ab_stp, ab_ali, if_pos ho.1, if_pos ho.2]) t
theorem g51 {x : Int32} {i : Nat} (hI : pg_cd M pc = (51, a, b, k, z)) (ho : ab_ok h i 2 = true ∧ ab_in x (ab_s h i).2 = true) (t : wq d M (pc + 1) L (.int (ab_i h i x.toNatClampNeg) :: st) h Q) : wq d M pc L (.int x :: .ref i :: st) h Q := gp (q := (pc + 1, L, .int (ab_i h i x.toNatClampNeg) :: st, h)) hI (by decide) (by simp only [ab_stp, ab_alz, if_pos ho]) t
theorem g52 {x : Int32} {i : Nat} (hI : pg_cd M pc = (52, a, b, k, z)) (ho : ab_ok h i 1 = true ∧ ab_in x (ab_s h i).2 = true) (t : wq d M (pc + 1) L (.long (ab_l h i x.toNatClampNeg) :: st) h Q) : wq d M pc L (.int x :: .ref i :: st) h Q := gp (q := (pc + 1, L, .long (ab_l h i x.toNatClampNeg) :: st, h)) hI (by decide) (by simp only [ab_stp, ab_all, if_pos ho]) t
theorem g53 {x : Int32} {i : Nat} (hI : pg_cd M pc = (53, a, b, k, z)) (ho : ab_ok h i (3 + a) = true ∧ ab_in x (ab_s h i).2 = true) (t : wq d M (pc + 1) L (va_rf (ab_r h i x.toNatClampNeg) :: st) h Q) : wq d M pc L (.int x :: .ref i :: st) h Q := gp (q := (pc + 1, L, va_rf (ab_r h i x.toNatClampNeg) :: st, h)) hI (by decide) (by simp only [ab_stp, ab_alr, if_pos ho]) t
theorem g53b {x : Int32} {i : Nat} (hI : pg_cd M pc = (53, a, b, k, z)) (ho : ab_ok h i (3 + a) = true ∧ ab_in x (ab_s h i).2 = true) (n : ab_r h i x.toNatClampNeg = none → wq d M (pc + 1) L (.null :: st) h Q) (t : ∀ j : Nat, ab_r h i x.toNatClampNeg = some j → wq d M (pc + 1) L (.ref j :: st) h Q) : wq d M pc L (.int x :: .ref i :: st) h Q := by
  refine g53 hI ho ?_
  cases hr : ab_r h i x.toNatClampNeg with
  | none => exact n hr
  | some j => exact t j hr
theorem g54 {v x : Int32} {i : Nat} (hI : pg_cd M pc = (54, a, b, k, z)) (ho : ab_ok h i 0 = true ∧ ab_in x (ab_s h i).2 = true) (t : ∀ h1 : ab_H, h1 = ab_pi h i x.toNatClampNeg v → wq d M (pc + 1) L st h1 Q) : wq d M pc L (.int v :: .int x :: .ref i :: st) h Q := gp (q := (pc + 1, L, st, ab_pi h i x.toNatClampNeg v)) hI (by decide) (by simp only [ab_stp, ab_asi, if_pos ho]) (t _ rfl)
theorem g55 {v x : Int32} {i : Nat} (hI : pg_cd M pc = (55, a, b, k, z)) (ho : ab_ok h i 2 = true ∧ ab_in x (ab_s h i).2 = true) (t : ∀ h1 : ab_H, h1 = ab_pi h i x.toNatClampNeg (v &&& 1) → wq d M (pc + 1) L st h1 Q) : wq d M pc L (.int v :: .int x :: .ref i :: st) h Q := gp (q := (pc + 1, L, st, ab_pi h i x.toNatClampNeg (v &&& 1))) hI (by decide) (by simp only [ab_stp, ab_asz, if_pos ho]) (t _ rfl)
theorem g56 {v : Int64} {x : Int32} {i : Nat} (hI : pg_cd M pc = (56, a, b, k, z)) (ho : ab_ok h i 1 = true ∧ ab_in x (ab_s h i).2 = true) (t : ∀ h1 : ab_H, h1 = ab_pl h i x.toNatClampNeg v → wq d M (pc + 1) L st h1 Q) : wq d M pc L (.long v :: .int x :: .ref i :: st) h Q := gp (q := (pc + 1, L, st, ab_pl h i x.toNatClampNeg v)) hI (by decide) (by simp only [ab_stp, ab_asl, if_pos ho]) (t _ rfl)
theorem g57 {v i : Nat} {x : Int32} (hI : pg_cd M pc = (57, a, b, k, z)) (ho : (ab_ok h i (3 + a) = true ∧ ab_ok h v (100 + a) = true) ∧ ab_in x (ab_s h i).2 = true) (t : ∀ h1 : ab_H, h1 = ab_pr h i x.toNatClampNeg (some v) → wq d M (pc + 1) L st h1 Q) : wq d M pc L (.ref v :: .int x :: .ref i :: st) h Q := gp (q := (pc + 1, L, st, ab_pr h i x.toNatClampNeg (some v))) hI (by decide) (by simp only [ab_stp, ab_asr, if_pos ho]) (t _ rfl)
theorem g58 {i : Nat} (hI : pg_cd M pc = (58, a, b, k, z)) (ho : (i = 0 ∧ a = 0) ∨ ab_ok h i a = true) (t : wq d M (pc + 1) L (.int (Int32.ofNat (ab_s h i).2) :: st) h Q) : wq d M pc L (.ref i :: st) h Q := gp (q := (pc + 1, L, .int (Int32.ofNat (ab_s h i).2) :: st, h)) hI (by decide) (by simp only [ab_stp, ab_len, if_pos ho]) t
theorem g59 {x : Int32} (hI : pg_cd M pc = (59, a, b, k, z)) (ho : ¬ x < 0 ∧ x.toNatClampNeg ≤ 1000000) (t : ∀ h1 : ab_H, h1 = ab_new h k x.toNatClampNeg x.toNatClampNeg → wq d M (pc + a) L (.ref (ab_n h) :: st) h1 Q) : wq d M pc L (.int x :: st) h Q := gp (q := (pc + a, L, .ref (ab_n h) :: st, ab_new h k x.toNatClampNeg x.toNatClampNeg)) hI (by decide) (by simp only [ab_stp, ab_nwa, if_pos ho]) (t _ rfl)
theorem g60 (hI : pg_cd M pc = (60, a, b, k, z)) (t : ∀ h1 : ab_H, h1 = ab_new h (100 + a) 0 k → wq d M (pc + 3) L (.ref (ab_n h) :: st) h1 Q) : wq d M pc L st h Q := gp hI (by decide) rfl (t _ rfl)
theorem g61 {i : Nat} (hI : pg_cd M pc = (61, a, b, k, z)) (ho : (st.map fun v => v.category).sum ≤ 8) (t : wq d M (pc + 3) L st h Q) : wq d M pc L (.ref i :: st) h Q := gp (q := (pc + 3, L, st, h)) hI (by decide) (by simp only [ab_stp, ab_oin, if_pos ho]) t
theorem g90 {v : Int32} (hI : pg_cd M pc = (90, a, b, k, z)) (t : Q (some (.int v)) h) : wq d M pc L [.int v] h Q := wq_r (r := some (.int v)) (h' := h) (by rw [hI]; exact Nat.le_refl _) (by rw [hI]; rfl) t
theorem g91 {v : Int32} (hI : pg_cd M pc = (91, a, b, k, z)) (t : (v = 0 ∨ v = 1) ∧ Q (some (.int v)) h) : wq d M pc L [.int v] h Q := wq_r (r := some (.int v)) (h' := h) (by rw [hI]; exact (show 90 ≤ 91 by decide)) (by rw [hI]; simp only [ab_ret, if_pos t.1]) t.2
theorem g92 {v : Int64} (hI : pg_cd M pc = (92, a, b, k, z)) (t : Q (some (.long v)) h) : wq d M pc L [.long v] h Q := wq_r (r := some (.long v)) (h' := h) (by rw [hI]; exact (show 90 ≤ 92 by decide)) (by rw [hI]; rfl) t
theorem g93a {v : Nat} (hI : pg_cd M pc = (93, a, b, k, z)) (t : Q (some (.ref v)) h) : wq d M pc L [.ref v] h Q := wq_r (r := some (.ref v)) (h' := h) (by rw [hI]; exact (show 90 ≤ 93 by decide)) (by rw [hI]; rfl) t
theorem g93n (hI : pg_cd M pc = (93, a, b, k, z)) (t : Q (some .null) h) : wq d M pc L [.null] h Q := wq_r (r := some .null) (h' := h) (by rw [hI]; exact (show 90 ≤ 93 by decide)) (by rw [hI]; rfl) t
theorem g94 (hI : pg_cd M pc = (94, a, b, k, z)) (t : Q none h) : wq d M pc L [] h Q := wq_r (r := none) (h' := h) (by rw [hI]; exact (show 90 ≤ 94 by decide)) (by rw [hI]; rfl) t
/-- a call of an object's method: the arguments stand above it -/
theorem g80 {As rest : List Value} {i : Nat} (hI : pg_cd M pc = (80, a, b, k, z)) (hst : st = As.reverse ++ .ref i :: rest) (hn : As.length = pg_na a) (hr : (rest.map fun v => v.category).sum ≤ 8) (hl : (ab_sl (.ref i :: As)).length ≤ pg_mx a) (ho : ab_ok h i (100 + pg_mc a) = true) (t : wm d a (.ref i :: As) h (fun r h' => wq (d + 1) M (pc + 3) L (r.toList ++ rest) h' Q)) : wq (d + 1) M pc L st h Q := by
  have e1 : st.take (pg_na a) = As.reverse := by rw [hst, ← hn, ← List.length_reverse, List.take_left]
  have e2 : st.drop (pg_na a) = .ref i :: rest := by rw [hst, ← hn, ← List.length_reverse, List.drop_left]
  refine wq_c (As := .ref i :: As) (rest := rest) (by rw [hI]; exact ⟨Nat.le_refl _, (show 80 < 90 by decide)⟩) ?_ (by rw [hI]; exact t)
  rw [hI]
  simp only [ab_args]
  rw [if_neg (by decide), e2]
  dsimp only
  rw [e1, List.reverse_reverse, if_pos ⟨ho, hr, hl, by rw [List.length_reverse]; exact hn⟩]
theorem g81 {As rest : List Value} (hI : pg_cd M pc = (81, a, b, k, z)) (hst : st = As.reverse ++ rest) (hn : As.length = pg_na a) (hr : (rest.map fun v => v.category).sum ≤ 8) (hl : (ab_sl As).length ≤ pg_mx a) (t : wm d a As h (fun r h' => wq (d + 1) M (pc + 3) L (r.toList ++ rest) h' Q)) : wq (d + 1) M pc L st h Q := by
  have e1 : st.take (pg_na a) = As.reverse := by rw [hst, ← hn, ← List.length_reverse, List.take_left]
  have e2 : st.drop (pg_na a) = rest := by rw [hst, ← hn, ← List.length_reverse, List.drop_left]
  refine wq_c (As := As) (rest := rest) (by rw [hI]; exact ⟨(show 80 ≤ 81 by decide), (show 81 < 90 by decide)⟩) ?_ (by rw [hI]; exact t)
  rw [hI]
  simp only [ab_args]
  rw [if_pos trivial, e1, e2, List.reverse_reverse, if_pos ⟨by rw [hst, List.length_append, List.length_reverse]; omega, hr, hl⟩]
theorem g42 {x : Int32} {pc1 : Nat} {o : Int} {lo hi df : Int} {os : List Int} (hI : pg_cd M pc = (42, a, b, k, z)) (hw : pg_sw a = (df, lo, hi, os)) (h1 : ¬ (x.toInt < lo ∨ hi < x.toInt)) (h2 : os[(x.toInt - lo).toNat]? = some o) (hp : ab_to pc o = pc1) (t : wq d M pc1 L st h Q) : wq d M pc L (.int x :: st) h Q := by
  subst hp
  exact gp (q := (ab_to pc o, L, st, h)) hI (by decide) (by simp only [ab_stp, ab_sw, hw, if_neg h1, h2]) t
theorem g42d {x : Int32} {pc1 : Nat} {lo hi df : Int} {os : List Int} (hI : pg_cd M pc = (42, a, b, k, z)) (hw : pg_sw a = (df, lo, hi, os)) (h1 : x.toInt < lo ∨ hi < x.toInt) (hp : ab_to pc df = pc1) (t : wq d M pc1 L st h Q) : wq d M pc L (.int x :: st) h Q := by
  subst hp
  exact gp (q := (ab_to pc df, L, st, h)) hI (by decide) (by simp only [ab_stp, ab_sw, hw, if_pos h1]) t
theorem gsw_out {x : Int32} {lo hi : Int} {n : Nat} (hn : lo + n = hi + 1) (hr : -1000 ≤ lo ∧ hi ≤ 1000) (h : ∀ i : Nat, i < n → ¬ x = Int32.ofInt (lo + i)) : x.toInt < lo ∨ hi < x.toInt := by
  by_cases h1 : x.toInt < lo
  · exact Or.inl h1
  · by_cases h2 : hi < x.toInt
    · exact Or.inr h2
    · exfalso
      refine h (x.toInt - lo).toNat (by omega) ?_
      apply Int32.toInt_inj.mp
      rw [show lo + ((x.toInt - lo).toNat : Int) = x.toInt by omega, Int32.ofInt_toInt]
theorem g62 {n dp sp : Int32} {i j : Nat} (hI : pg_cd M pc = (62, a, b, k, z)) (ho : (ab_ok h i 0 = true ∧ ab_ok h j 0 = true) ∧ (¬ sp < 0 ∧ ¬ dp < 0 ∧ ¬ n < 0) ∧ sp.toNatClampNeg + n.toNatClampNeg ≤ (ab_s h i).2 ∧ dp.toNatClampNeg + n.toNatClampNeg ≤ (ab_s h j).2 ∧ (st.map fun v => v.category).sum ≤ 8)
    (t : ∀ h1 : ab_H, h1 = ab_row h j (va_cpy (ab_i h i) (ab_i h j) sp.toNatClampNeg dp.toNatClampNeg n.toNatClampNeg) → wq d M (pc + 3) L st h1 Q) : wq d M pc L (.int n :: .int dp :: .ref j :: .int sp :: .ref i :: st) h Q := gp (q := (pc + 3, L, st, ab_row h j (va_cpy (ab_i h i) (ab_i h j) sp.toNatClampNeg dp.toNatClampNeg n.toNatClampNeg))) hI (by decide) (by simp only [ab_stp, ab_cpy, if_pos ho]) (t _ rfl)
theorem gx {op : Nat} {q : ab_C} (hI : pg_cd M pc = (op, a, b, k, z)) (hop : 70 ≤ op ∧ op < 80) (hd : 7 ≤ d) (hs : ab_ext pg_sw (op, a, b, k, z) pc L st h = some q) (kk : wq d M q.1 q.2.1 q.2.2.1 q.2.2.2 Q) : wq d M pc L st h Q :=
  wq_x (by rw [hI]; exact hop) hd (by rw [hI]; exact hs) kk
theorem g72 {x y : Int32} (hI : pg_cd M pc = (72, a, b, k, z)) (hr : (st.map fun v => v.category).sum ≤ 8) (hd : 7 ≤ d) (hy : ¬ y = 0) (t : wq d M (pc + 3) L (.int (if 0 ≤ x ^^^ y then x / y else if x / y * y = x then x / y else x / y + (-1)) :: st) h Q) : wq d M pc L (.int y :: .int x :: st) h Q := gx (q := (pc + 3, L, .int (if 0 ≤ x ^^^ y then x / y else if x / y * y = x then x / y else x / y + (-1)) :: st, h)) hI (by decide) hd (by simp only [ab_ext, ab_x2, if_pos hr, if_neg hy, Option.bind_some]) t
theorem g73 {x y : Int32} (hI : pg_cd M pc = (73, a, b, k, z)) (hr : (st.map fun v => v.category).sum ≤ 8) (hd : 7 ≤ d) (t : wq d M (pc + 3) L (.int (if x < y then y else x) :: st) h Q) : wq d M pc L (.int y :: .int x :: st) h Q := gx (q := (pc + 3, L, .int (if x < y then y else x) :: st, h)) hI (by decide) hd (by simp only [ab_ext, ab_x2, if_pos hr, Option.bind_some]) t
theorem g74 {x y : Int32} (hI : pg_cd M pc = (74, a, b, k, z)) (hr : (st.map fun v => v.category).sum ≤ 8) (hd : 7 ≤ d) (t : wq d M (pc + 3) L (.int (if y < x then y else x) :: st) h Q) : wq d M pc L (.int y :: .int x :: st) h Q := gx (q := (pc + 3, L, .int (if y < x then y else x) :: st, h)) hI (by decide) hd (by simp only [ab_ext, ab_x2, if_pos hr, Option.bind_some]) t
theorem g75 {x : Int32} (hI : pg_cd M pc = (75, a, b, k, z)) (hr : (st.map fun v => v.category).sum ≤ 8) (hd : 7 ≤ d) (t : wq d M (pc + 3) L (.int (if 0 ≤ x then x else 0 - x) :: st) h Q) : wq d M pc L (.int x :: st) h Q := gx (q := (pc + 3, L, .int (if 0 ≤ x then x else 0 - x) :: st, h)) hI (by decide) hd (by simp only [ab_ext, if_pos hr]) t
theorem g76 {x y : Int64} (hI : pg_cd M pc = (76, a, b, k, z)) (hr : (st.map fun v => v.category).sum ≤ 8) (hd : 7 ≤ d) (t : wq d M (pc + 3) L (.long (if y < x then x else y) :: st) h Q) : wq d M pc L (.long y :: .long x :: st) h Q := gx (q := (pc + 3, L, .long (if y < x then x else y) :: st, h)) hI (by decide) hd (by simp only [ab_ext, if_pos hr]) t
theorem g77 {x y : Int64} (hI : pg_cd M pc = (77, a, b, k, z)) (hr : (st.map fun v => v.category).sum ≤ 8) (hd : 7 ≤ d) (t : wq d M (pc + 3) L (.long (if y < x then y else x) :: st) h Q) : wq d M pc L (.long y :: .long x :: st) h Q := gx (q := (pc + 3, L, .long (if y < x then y else x) :: st, h)) hI (by decide) hd (by simp only [ab_ext, if_pos hr]) t
theorem g78 (hI : pg_cd M pc = (78, a, b, k, z)) (hd : 7 ≤ d) (t : wq d M (pc + a) L (.retAddr 1 :: st) h Q) : wq d M pc L st h Q := gx hI (by decide) hd rfl t
theorem g70 (hI : pg_cd M pc = (70, a, b, k, z)) (hr : (st.map fun v => v.category).sum ≤ 8) (hd : 7 ≤ d) (t : wq d M (pc + 3) L (.int (Int32.ofNat pg_tx.length) :: st) h Q) : wq d M pc L (.retAddr 1 :: st) h Q := gx (q := (pc + 3, L, .int (Int32.ofNat pg_tx.length) :: st, h)) hI (by decide) hd (by simp only [ab_ext, if_pos hr, pg_sw, if_true]) t
theorem g71 {x : Int32} (hI : pg_cd M pc = (71, a, b, k, z)) (hr : (st.map fun v => v.category).sum ≤ 8) (hd : 7 ≤ d) (hx : ab_in x pg_tx.length = true) (t : wq d M (pc + 3) L (.int (Int32.ofInt (pg_tx.getD x.toNatClampNeg 0)) :: st) h Q) : wq d M pc L (.int x :: .retAddr 1 :: st) h Q := gx (q := (pc + 3, L, .int (Int32.ofInt (pg_tx.getD x.toNatClampNeg 0)) :: st, h)) hI (by decide) hd (by simp only [ab_ext, pg_sw, if_true]; rw [if_pos ⟨hx, hr⟩]) t
end GOP
