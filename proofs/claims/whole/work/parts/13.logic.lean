/-! ===== a logic of runs over the abstract machine (own work) ===== -/
theorem ab_rs_up {cd : Nat → Nat → ab_I} {sw : Nat → Int × Int × Int × List Int} {na mx mc : Nat → Nat} : ∀ (n d M pc : Nat) (L st : List Value) (h : ab_H) (o : Option Value × ab_H), ab_rs cd sw na mx mc n d M pc L st h = some o → ab_rs cd sw na mx mc (n + 1) d M pc L st h = some o
  | 0, d, M, pc, L, st, h, o, hs => by simp [ab_rs] at hs
  | n + 1, d, M, pc, L, st, h, o, hs => by
    rw [ab_rs_succ] at hs ⊢
    split at hs
    · rename_i c; rw [if_pos c]; exact hs
    · rename_i c
      rw [if_neg c]
      split at hs
      · rename_i c1
        rw [if_pos c1]
        cases d with
        | zero => cases hs
        | succ d =>
          dsimp only at hs ⊢
          obtain ⟨q, e1, hs⟩ := Option.bind_eq_some_iff.mp hs
          obtain ⟨u, e2, hs⟩ := Option.bind_eq_some_iff.mp hs
          exact Option.bind_eq_some_iff.mpr ⟨q, e1, Option.bind_eq_some_iff.mpr ⟨u, ab_rs_up n d _ _ _ _ _ _ e2, ab_rs_up n (d + 1) _ _ _ _ _ _ hs⟩⟩
      · rename_i c1
        rw [if_neg c1]
        split at hs
        · rename_i c2
          rw [if_pos c2]
          split at hs
          · rename_i c3
            rw [if_pos c3]
            obtain ⟨q, e1, hs⟩ := Option.bind_eq_some_iff.mp hs
            exact Option.bind_eq_some_iff.mpr ⟨q, e1, ab_rs_up n d _ _ _ _ _ _ hs⟩
          · cases hs
        · rename_i c2
          rw [if_neg c2]
          obtain ⟨q, e1, hs⟩ := Option.bind_eq_some_iff.mp hs
          exact Option.bind_eq_some_iff.mpr ⟨q, e1, ab_rs_up n d _ _ _ _ _ _ hs⟩
theorem ab_rs_le {cd : Nat → Nat → ab_I} {sw : Nat → Int × Int × Int × List Int} {na mx mc : Nat → Nat} {n m d M pc : Nat} {L st : List Value} {h : ab_H} {o : Option Value × ab_H} (hle : n ≤ m) (hs : ab_rs cd sw na mx mc n d M pc L st h = some o) : ab_rs cd sw na mx mc m d M pc L st h = some o := by
  obtain ⟨k, rfl⟩ := Nat.le.dest hle
  induction k with
  | zero => exact hs
  | succ k ih => exact ab_rs_up _ _ _ _ _ _ _ _ (ih (Nat.le_add_right _ _))
/-- from here the run ends, with an answer and a heap of that kind -/
def wq (d M pc : Nat) (L st : List Value) (h : ab_H) (Q : Option Value → ab_H → Prop) : Prop := ∃ n r h', ab_rs pg_cd pg_sw pg_na pg_mx pg_mc n d M pc L st h = some (r, h') ∧ Q r h'
/-- a call of a method -/
def wm (d M : Nat) (As : List Value) (h : ab_H) (Q : Option Value → ab_H → Prop) : Prop := wq d M 0 (ab_ent As (pg_mx M)) [] h Q
theorem wq_to {d M pc : Nat} {L st : List Value} {h : ab_H} {Q Q' : Option Value → ab_H → Prop} (k : wq d M pc L st h Q) (hQ : ∀ r h', Q r h' → Q' r h') : wq d M pc L st h Q' := by
  obtain ⟨n, r, h', e, q⟩ := k
  exact ⟨n, r, h', e, hQ r h' q⟩
theorem wq_s {d M pc : Nat} {L st : List Value} {h : ab_H} {Q : Option Value → ab_H → Prop} {q : ab_C} (hop : (pg_cd M pc).1 < 70) (hs : ab_stp pg_sw (pg_cd M pc) pc L st h = some q) (k : wq d M q.1 q.2.1 q.2.2.1 q.2.2.2 Q) : wq d M pc L st h Q := by
  obtain ⟨n, r, h', e, hq⟩ := k
  refine ⟨n + 1, r, h', ?_, hq⟩
  rw [ab_rs_succ, if_neg (by omega), if_neg (by omega), if_neg (by omega), hs]
  exact e
theorem wq_x {d M pc : Nat} {L st : List Value} {h : ab_H} {Q : Option Value → ab_H → Prop} {q : ab_C} (hop : 70 ≤ (pg_cd M pc).1 ∧ (pg_cd M pc).1 < 80) (hd : 7 ≤ d) (hs : ab_ext pg_sw (pg_cd M pc) pc L st h = some q) (k : wq d M q.1 q.2.1 q.2.2.1 q.2.2.2 Q) : wq d M pc L st h Q := by
  obtain ⟨n, r, h', e, hq⟩ := k
  refine ⟨n + 1, r, h', ?_, hq⟩
  rw [ab_rs_succ, if_neg (by omega), if_neg (by omega), if_pos (by omega), if_pos hd, hs]
  exact e
theorem wq_r {d M pc : Nat} {L st : List Value} {h h' : ab_H} {r : Option Value} {Q : Option Value → ab_H → Prop} (hop : 90 ≤ (pg_cd M pc).1) (hs : ab_ret (pg_cd M pc).1 st h = some (r, h')) (k : Q r h') : wq d M pc L st h Q :=
  ⟨1, r, h', by rw [ab_rs_succ, if_pos hop]; exact hs, k⟩
theorem wq_c {d M pc : Nat} {L st As rest : List Value} {h : ab_H} {Q : Option Value → ab_H → Prop} (hop : 80 ≤ (pg_cd M pc).1 ∧ (pg_cd M pc).1 < 90) (hs : ab_args pg_mc pg_na pg_mx (pg_cd M pc) st h = some (As, rest)) (k : wm d (pg_cd M pc).2.1 As h (fun r h' => wq (d + 1) M (pc + 3) L (r.toList ++ rest) h' Q)) : wq (d + 1) M pc L st h Q := by
  obtain ⟨n, r, h', e, n2, r2, h2, e2, hq⟩ := k
  refine ⟨max n n2 + 1, r2, h2, ?_, hq⟩
  rw [ab_rs_succ, if_neg (by omega), if_pos hop.1]
  dsimp only
  rw [hs]
  refine Option.bind_eq_some_iff.mpr ⟨_, rfl, Option.bind_eq_some_iff.mpr ⟨(r, h'), ab_rs_le (Nat.le_max_left _ _) e, ab_rs_le (Nat.le_max_right _ _) e2⟩⟩
/-- the run as a proposition: n steps, or up to a place of S; behind a branch both ways -/
def sx (S : List Nat) : Nat → Nat → Nat → Nat → List Value → List Value → ab_H → (Option Value → ab_H → Prop) → Prop
  | 0, d, M, pc, L, st, h, Q => wq d M pc L st h Q
  | n + 1, d, M, pc, L, st, h, Q =>
    match pg_cd M pc with
    | (op, a, b, k, z) =>
      let go := fun (pc : Nat) (L st : List Value) (h : ab_H) => if pc ∈ S then wq d M pc L st h Q else sx S n d M pc L st h Q
      match op with
      | 36 => match st with
        | .int x :: r => match k with
          | 0 => if x = 0 then go (ab_to pc z) L r h else go (pc + 3) L r h
          | 1 => if x = 0 then go (pc + 3) L r h else go (ab_to pc z) L r h
          | 2 => if x < 0 then go (ab_to pc z) L r h else go (pc + 3) L r h
          | 3 => if 0 ≤ x then go (ab_to pc z) L r h else go (pc + 3) L r h
          | 4 => if 0 < x then go (ab_to pc z) L r h else go (pc + 3) L r h
          | 5 => if x ≤ 0 then go (ab_to pc z) L r h else go (pc + 3) L r h
          | _ => False
        | _ => False
      | 37 => match st with
        | .int y :: .int x :: r => match k with
          | 0 => if x = y then go (ab_to pc z) L r h else go (pc + 3) L r h
          | 1 => if x = y then go (pc + 3) L r h else go (ab_to pc z) L r h
          | 2 => if x < y then go (ab_to pc z) L r h else go (pc + 3) L r h
          | 3 => if y ≤ x then go (ab_to pc z) L r h else go (pc + 3) L r h
          | 4 => if y < x then go (ab_to pc z) L r h else go (pc + 3) L r h
          | 5 => if x ≤ y then go (ab_to pc z) L r h else go (pc + 3) L r h
          | _ => False
        | _ => False
      | 43 => match st with
        | .ref i :: r => ab_ok h i (100 + a) = true ∧ go (pc + 3) L (.int (ab_i h i k) :: r) h
        | _ => False
      | 44 => match st with
        | .ref i :: r => ab_ok h i (100 + a) = true ∧ go (pc + 3) L (.long (ab_l h i k) :: r) h
        | _ => False
      | 45 => match st with
        | .ref i :: r => ab_ok h i (100 + a) = true ∧ ∃ j, ab_r h i k = some j ∧ go (pc + 3) L (.ref j :: r) h
        | _ => False
      | 46 => match st with
        | .int x :: .ref i :: r => ab_ok h i (100 + a) = true ∧ go (pc + 3) L r (ab_pi h i k x)
        | _ => False
      | 47 => match st with
        | .int x :: .ref i :: r => (ab_ok h i (100 + a) = true ∧ (x = 0 ∨ x = 1)) ∧ go (pc + 3) L r (ab_pi h i k x)
        | _ => False
      | 48 => match st with
        | .long x :: .ref i :: r => ab_ok h i (100 + a) = true ∧ go (pc + 3) L r (ab_pl h i k x)
        | _ => False
      | 49 => match st with
        | .ref x :: .ref i :: r => ab_ok h i (100 + a) = true ∧ go (pc + 3) L r (ab_pr h i k (some x))
        | _ => False
      | 50 => match st with
        | .int x :: .ref i :: r => ((i = 0 ∨ ab_ok h i 0 = true) ∧ ab_in x (ab_s h i).2 = true) ∧ go (pc + 1) L (.int (ab_i h i x.toNatClampNeg) :: r) h
        | _ => False
      | 51 => match st with
        | .int x :: .ref i :: r => (ab_ok h i 2 = true ∧ ab_in x (ab_s h i).2 = true) ∧ go (pc + 1) L (.int (ab_i h i x.toNatClampNeg) :: r) h
        | _ => False
      | 52 => match st with
        | .int x :: .ref i :: r => (ab_ok h i 1 = true ∧ ab_in x (ab_s h i).2 = true) ∧ go (pc + 1) L (.long (ab_l h i x.toNatClampNeg) :: r) h
        | _ => False
      | 54 => match st with
        | .int v :: .int x :: .ref i :: r => (ab_ok h i 0 = true ∧ ab_in x (ab_s h i).2 = true) ∧ go (pc + 1) L r (ab_pi h i x.toNatClampNeg v)
        | _ => False
      | 55 => match st with
        | .int v :: .int x :: .ref i :: r => (ab_ok h i 2 = true ∧ ab_in x (ab_s h i).2 = true) ∧ go (pc + 1) L r (ab_pi h i x.toNatClampNeg (v &&& 1))
        | _ => False
      | 56 => match st with
        | .long v :: .int x :: .ref i :: r => (ab_ok h i 1 = true ∧ ab_in x (ab_s h i).2 = true) ∧ go (pc + 1) L r (ab_pl h i x.toNatClampNeg v)
        | _ => False
      | 16 => match st with
        | .int y :: .int x :: r => ¬ y = 0 ∧ go (pc + 1) L (.int (x / y) :: r) h
        | _ => False
      | 17 => match st with
        | .int y :: .int x :: r => ¬ y = 0 ∧ go (pc + 1) L (.int (x - x / y * y) :: r) h
        | _ => False
      | 26 => match st with
        | .long y :: .long x :: r => ¬ y = 0 ∧ go (pc + 1) L (.long (x / y) :: r) h
        | _ => False
      | 27 => match st with
        | .long y :: .long x :: r => ¬ y = 0 ∧ go (pc + 1) L (.long (x - x / y * y) :: r) h
        | _ => False
      | 58 => match st with
        | .ref i :: r => (i = 0 ∧ a = 0 ∨ ab_ok h i a = true) ∧ go (pc + 1) L (.int (Int32.ofNat (ab_s h i).2) :: r) h
        | _ => False
      | _ =>
        if 90 ≤ op then (match ab_ret op st h with
          | some q => Q q.1 q.2
          | none => False)
        else if 80 ≤ op then (match d with
          | 0 => False
          | d + 1 => if op = 81 then
              (pg_na a ≤ st.length ∧ ((st.drop (pg_na a)).map fun v => v.category).sum ≤ 8 ∧ (ab_sl (st.take (pg_na a)).reverse).length ≤ pg_mx a) ∧ wm d a (st.take (pg_na a)).reverse h (fun r h' => wq (d + 1) M (pc + 3) L (r.toList ++ st.drop (pg_na a)) h' Q)
            else match st.drop (pg_na a) with
              | .ref i :: r => (ab_ok h i (100 + pg_mc a) = true ∧ ((r.map fun v => v.category).sum ≤ 8 ∧ (ab_sl (.ref i :: (st.take (pg_na a)).reverse)).length ≤ pg_mx a ∧ (st.take (pg_na a)).length = pg_na a)) ∧ wm d a (.ref i :: (st.take (pg_na a)).reverse) h (fun r' h' => wq (d + 1) M (pc + 3) L (r'.toList ++ r) h' Q)
              | _ => False)
        else if 70 ≤ op then (match ab_ext pg_sw (op, a, b, k, z) pc L st h with
          | some q => 7 ≤ d ∧ go q.1 q.2.1 q.2.2.1 q.2.2.2
          | none => False)
        else (match ab_stp pg_sw (op, a, b, k, z) pc L st h with
          | some q => go q.1 q.2.1 q.2.2.1 q.2.2.2
          | none => False)
section SXOK
variable {d M pc : Nat} {L st : List Value} {h : ab_H} {Q : Option Value → ab_H → Prop} {a b k : Nat} {z : Int}
theorem sx_p {op : Nat} {q : ab_C} (hI : pg_cd M pc = (op, a, b, k, z)) (hop : op < 70) (hs : ab_stp pg_sw (op, a, b, k, z) pc L st h = some q) (kk : wq d M q.1 q.2.1 q.2.2.1 q.2.2.2 Q) : wq d M pc L st h Q :=
  wq_s (by rw [hI]; exact hop) (by rw [hI]; exact hs) kk
theorem sx_if {x : Int32} {r : List Value} (hI : pg_cd M pc = (36, a, b, k, z)) (kk : wq d M (bif ab_cond k x 0 then ab_to pc z else pc + 3) L r h Q) : wq d M pc L (.int x :: r) h Q := sx_p hI (by decide) rfl kk
theorem sx_cmp {x y : Int32} {r : List Value} (hI : pg_cd M pc = (37, a, b, k, z)) (kk : wq d M (bif ab_cond k x y then ab_to pc z else pc + 3) L r h Q) : wq d M pc L (.int y :: .int x :: r) h Q := sx_p hI (by decide) rfl kk
theorem sx_b {c : Prop} {pc1 pc2 : Nat} {bb : Bool} [hd : Decidable c] (hb : bb = decide c) (t : c → wq d M pc1 L st h Q) (f : ¬ c → wq d M pc2 L st h Q) : wq d M (bif bb then pc1 else pc2) L st h Q := by
  subst hb
  by_cases hc : c
  · rw [decide_eq_true hc]; exact t hc
  · rw [decide_eq_false hc]; exact f hc
set_option maxHeartbeats 4000000 in
theorem sx_ok (S : List Nat) : ∀ (n d M pc : Nat) (L st : List Value) (h : ab_H) (Q : Option Value → ab_H → Prop), sx S n d M pc L st h Q → wq d M pc L st h Q
  | 0, d, M, pc, L, st, h, Q, t => t
  | n + 1, d, M, pc, L, st, h, Q, t => by
    have go : ∀ (pc : Nat) (L st : List Value) (h : ab_H), (if pc ∈ S then wq d M pc L st h Q else sx S n d M pc L st h Q) → wq d M pc L st h Q := by
      intro pc L st h u
      split at u
      · exact u
      · exact sx_ok S n d M pc L st h Q u
    rw [sx] at t
    obtain ⟨op, a, b, k, z, hI⟩ : ∃ op a b k z, pg_cd M pc = (op, a, b, k, z) := ⟨_, _, _, _, _, rfl⟩
    rw [hI] at t
    dsimp only at t
    split at t
    · -- 36
      split at t
      · refine sx_if hI ?_
        split at t
        · exact sx_b rfl (fun c => go _ _ _ _ (by rw [if_pos c] at t; exact t)) (fun c => go _ _ _ _ (by rw [if_neg c] at t; exact t))
        · rename_i x r _
          by_cases c : x = 0
          · rw [if_pos c] at t
            rw [show ab_cond 1 x 0 = false from decide_eq_false (fun q => q c)]
            exact go _ _ _ _ t
          · rw [if_neg c] at t
            rw [show ab_cond 1 x 0 = true from decide_eq_true c]
            exact go _ _ _ _ t
        · exact sx_b rfl (fun c => go _ _ _ _ (by rw [if_pos c] at t; exact t)) (fun c => go _ _ _ _ (by rw [if_neg c] at t; exact t))
        · exact sx_b rfl (fun c => go _ _ _ _ (by rw [if_pos c] at t; exact t)) (fun c => go _ _ _ _ (by rw [if_neg c] at t; exact t))
        · exact sx_b rfl (fun c => go _ _ _ _ (by rw [if_pos c] at t; exact t)) (fun c => go _ _ _ _ (by rw [if_neg c] at t; exact t))
        · exact sx_b rfl (fun c => go _ _ _ _ (by rw [if_pos c] at t; exact t)) (fun c => go _ _ _ _ (by rw [if_neg c] at t; exact t))
        · cases t
      · cases t
    · -- 37
      split at t
      · refine sx_cmp hI ?_
        split at t
        · exact sx_b rfl (fun c => go _ _ _ _ (by rw [if_pos c] at t; exact t)) (fun c => go _ _ _ _ (by rw [if_neg c] at t; exact t))
        · rename_i y x r _
          by_cases c : x = y
          · rw [if_pos c] at t
            rw [show ab_cond 1 x y = false from decide_eq_false (fun q => q c)]
            exact go _ _ _ _ t
          · rw [if_neg c] at t
            rw [show ab_cond 1 x y = true from decide_eq_true c]
            exact go _ _ _ _ t
        · exact sx_b rfl (fun c => go _ _ _ _ (by rw [if_pos c] at t; exact t)) (fun c => go _ _ _ _ (by rw [if_neg c] at t; exact t))
        · exact sx_b rfl (fun c => go _ _ _ _ (by rw [if_pos c] at t; exact t)) (fun c => go _ _ _ _ (by rw [if_neg c] at t; exact t))
        · exact sx_b rfl (fun c => go _ _ _ _ (by rw [if_pos c] at t; exact t)) (fun c => go _ _ _ _ (by rw [if_neg c] at t; exact t))
        · exact sx_b rfl (fun c => go _ _ _ _ (by rw [if_pos c] at t; exact t)) (fun c => go _ _ _ _ (by rw [if_neg c] at t; exact t))
        · cases t
      · cases t
    · split at t
      · exact sx_p hI (by decide) (by simp only [ab_stp, ab_gti]; rw [if_pos t.1]) (go _ _ _ _ t.2)
      · cases t
    · split at t
      · exact sx_p hI (by decide) (by simp only [ab_stp, ab_gtl]; rw [if_pos t.1]) (go _ _ _ _ t.2)
      · cases t
    · split at t
      · obtain ⟨t1, j, t2, t3⟩ := t
        exact sx_p hI (by decide) (by simp only [ab_stp, ab_gtr]; rw [if_pos t1, t2]) (go _ _ _ _ t3)
      · cases t
    · split at t
      · exact sx_p hI (by decide) (by simp only [ab_stp, ab_pti]; rw [if_pos t.1]) (go _ _ _ _ t.2)
      · cases t
    · split at t
      · exact sx_p hI (by decide) (by simp only [ab_stp, ab_ptz]; rw [if_pos t.1]) (go _ _ _ _ t.2)
      · cases t
    · split at t
      · exact sx_p hI (by decide) (by simp only [ab_stp, ab_ptl]; rw [if_pos t.1]) (go _ _ _ _ t.2)
      · cases t
    · split at t
      · exact sx_p hI (by decide) (by simp only [ab_stp, ab_ptr]; rw [if_pos t.1]) (go _ _ _ _ t.2)
      · cases t
    · split at t
      · exact sx_p hI (by decide) (by simp only [ab_stp, ab_ali]; rw [if_pos t.1.1, if_pos t.1.2]) (go _ _ _ _ t.2)
      · cases t
    · split at t
      · exact sx_p hI (by decide) (by simp only [ab_stp, ab_alz]; rw [if_pos t.1]) (go _ _ _ _ t.2)
      · cases t
    · split at t
      · exact sx_p hI (by decide) (by simp only [ab_stp, ab_all]; rw [if_pos t.1]) (go _ _ _ _ t.2)
      · cases t
    · split at t
      · exact sx_p hI (by decide) (by simp only [ab_stp, ab_asi]; rw [if_pos t.1]) (go _ _ _ _ t.2)
      · cases t
    · split at t
      · exact sx_p hI (by decide) (by simp only [ab_stp, ab_asz]; rw [if_pos t.1]) (go _ _ _ _ t.2)
      · cases t
    · split at t
      · exact sx_p hI (by decide) (by simp only [ab_stp, ab_asl]; rw [if_pos t.1]) (go _ _ _ _ t.2)
      · cases t
    · split at t
      · exact sx_p hI (by decide) (by simp only [ab_stp, ab_ii]; rw [if_neg t.1]; rfl) (go _ _ _ _ t.2)
      · cases t
    · split at t
      · exact sx_p hI (by decide) (by simp only [ab_stp, ab_ii]; rw [if_neg t.1]; rfl) (go _ _ _ _ t.2)
      · cases t
    · split at t
      · exact sx_p hI (by decide) (by simp only [ab_stp, ab_ll]; rw [if_neg t.1]; rfl) (go _ _ _ _ t.2)
      · cases t
    · split at t
      · exact sx_p hI (by decide) (by simp only [ab_stp, ab_ll]; rw [if_neg t.1]; rfl) (go _ _ _ _ t.2)
      · cases t
    · split at t
      · exact sx_p hI (by decide) (by simp only [ab_stp, ab_len]; rw [if_pos t.1]) (go _ _ _ _ t.2)
      · cases t
    · split at t
      · rename_i c90
        split at t
        · rename_i q hq
          exact wq_r (by rw [hI]; exact c90) (by rw [hI]; exact hq) t
        · cases t
      · rename_i c90
        split at t
        · rename_i c80
          cases d with
          | zero => cases t
          | succ d =>
            dsimp only at t
            split at t
            · rename_i c81
              subst c81
              refine wq_c (by rw [hI]; exact ⟨show 80 ≤ 81 by decide, show 81 < 90 by decide⟩) (by rw [hI]; simp only [ab_args]; rw [if_pos trivial, if_pos t.1]) (by rw [hI]; exact t.2)
            · rename_i c81
              split at t
              · rename_i i r hd
                refine wq_c (by rw [hI]; exact ⟨c80, by omega⟩) (by rw [hI]; simp only [ab_args]; rw [if_neg c81, hd]; dsimp only; rw [if_pos t.1]) (by rw [hI]; exact t.2)
              · cases t
        · rename_i c80
          split at t
          · rename_i c70
            split at t
            · rename_i q hq
              exact wq_x (by rw [hI]; exact ⟨c70, by omega⟩) t.1 (by rw [hI]; exact hq) (go _ _ _ _ t.2)
            · cases t
          · rename_i c70
            split at t
            · rename_i q hq
              exact sx_p hI (by omega) hq (go _ _ _ _ t)
            · cases t
end SXOK
