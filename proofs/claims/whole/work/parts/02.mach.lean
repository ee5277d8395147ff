/-! ===== AN ABSTRACT MACHINE: its heap, its steps, its runs (own work) ===== -/
/-- a heap: how many cells, how many slots were made, each cell's kind and length, ints, longs, references by cell and place.
kinds: 0 int[], 1 long[], 2 boolean[], 3 + c an array over the class c, 100 + c an object of the class c; the cell 0 is the script -/
abbrev ab_H : Type := Nat × Nat × (Nat → Nat × Nat) × (Nat → Nat → Int32) × (Nat → Nat → Int64) × (Nat → Nat → Option Nat)
abbrev ab_I : Type := Nat × Nat × Nat × Nat × Int
def ab_n (h : ab_H) : Nat := h.1
def ab_t (h : ab_H) : Nat := h.2.1
def ab_s (h : ab_H) : Nat → Nat × Nat := h.2.2.1
def ab_i (h : ab_H) : Nat → Nat → Int32 := h.2.2.2.1
def ab_l (h : ab_H) : Nat → Nat → Int64 := h.2.2.2.2.1
def ab_r (h : ab_H) : Nat → Nat → Option Nat := h.2.2.2.2.2
def ab_up {α : Type} (f : Nat → Nat → α) (i k : Nat) (v : α) : Nat → Nat → α := fun a b => if a = i then (if b = k then v else f a b) else f a b
def ab_pi (h : ab_H) (i k : Nat) (v : Int32) : ab_H := (h.1, h.2.1, h.2.2.1, ab_up h.2.2.2.1 i k v, h.2.2.2.2.1, h.2.2.2.2.2)
def ab_pl (h : ab_H) (i k : Nat) (v : Int64) : ab_H := (h.1, h.2.1, h.2.2.1, h.2.2.2.1, ab_up h.2.2.2.2.1 i k v, h.2.2.2.2.2)
def ab_pr (h : ab_H) (i k : Nat) (v : Option Nat) : ab_H := (h.1, h.2.1, h.2.2.1, h.2.2.2.1, h.2.2.2.2.1, ab_up h.2.2.2.2.2 i k v)
def ab_row (h : ab_H) (i : Nat) (f : Nat → Int32) : ab_H := (h.1, h.2.1, h.2.2.1, fun a => if a = i then f else h.2.2.2.1 a, h.2.2.2.2.1, h.2.2.2.2.2)
def ab_new (h : ab_H) (kd len sl : Nat) : ab_H :=
  (h.1 + 1, h.2.1 + sl, fun a => if a = h.1 then (kd, len) else h.2.2.1 a, fun a => if a = h.1 then fun _ => 0 else h.2.2.2.1 a, fun a => if a = h.1 then fun _ => 0 else h.2.2.2.2.1 a, fun a => if a = h.1 then fun _ => none else h.2.2.2.2.2 a)
def ab_ok (h : ab_H) (i kd : Nat) : Bool := decide (0 < i) && decide (i < ab_n h) && decide ((ab_s h i).1 = kd)
def ab_in (x : Int32) (n : Nat) : Bool := !(decide (x < 0) || decide (n ≤ x.toNatClampNeg))
theorem ab_in_vp {x : Int32} {n : Nat} (h : ab_in x n = true) : vp_in x n := by
  intro q
  unfold ab_in at h
  rcases q with q | q <;> simp [q] at h
theorem ab_ok_iff {h : ab_H} {i kd : Nat} (q : ab_ok h i kd = true) : 0 < i ∧ i < ab_n h ∧ (ab_s h i).1 = kd := by
  simpa [ab_ok, and_assoc] using q
/-- a long stands just ahead of the place k -/
def ab_lg (L : List Value) (k : Nat) : Bool := match k with
  | 0 => false
  | j + 1 => match L[j]? with
    | some (.long _) => true
    | _ => false
def ab_st1 (L : List Value) (k : Nat) (v : Value) : Option (List Value) := if ab_lg L k = true then none else if k < L.length then some (L.set k v) else none
def ab_st2 (L : List Value) (k : Nat) (v : Value) : Option (List Value) := if ab_lg L k = true then none else if k + 1 < L.length then some ((L.set k v).set (k + 1) (.retAddr 0)) else none
def ab_cond (k : Nat) (x y : Int32) : Bool := match k with
  | 0 => decide (x = y)
  | 1 => decide (¬ x = y)
  | 2 => decide (x < y)
  | 3 => decide (y ≤ x)
  | 4 => decide (y < x)
  | _ => decide (x ≤ y)
def ab_to (pc : Nat) (z : Int) : Nat := ((pc : Int) + z).toNat
abbrev ab_C : Type := Nat × List Value × List Value × ab_H
/-- two ints, two longs, one of them -/
def ab_ii (f : Int32 → Int32 → Option Value) (pc : Nat) (L st : List Value) (h : ab_H) : Option ab_C := match st with
  | .int y :: .int x :: r => (f x y).bind fun v => some (pc, L, v :: r, h)
  | _ => none
def ab_ll (f : Int64 → Int64 → Option Value) (pc : Nat) (L st : List Value) (h : ab_H) : Option ab_C := match st with
  | .long y :: .long x :: r => (f x y).bind fun v => some (pc, L, v :: r, h)
  | _ => none
def ab_i1 (f : Int32 → Value) (pc : Nat) (L st : List Value) (h : ab_H) : Option ab_C := match st with
  | .int x :: r => some (pc, L, f x :: r, h)
  | _ => none
def ab_l1 (f : Int64 → Value) (pc : Nat) (L st : List Value) (h : ab_H) : Option ab_C := match st with
  | .long x :: r => some (pc, L, f x :: r, h)
  | _ => none
def ab_ldi (k pc : Nat) (L st : List Value) (h : ab_H) : Option ab_C := match L[k]? with
  | some (.int x) => some (pc, L, .int x :: st, h)
  | _ => none
def ab_ldl (k pc : Nat) (L st : List Value) (h : ab_H) : Option ab_C := match L[k]? with
  | some (.long x) => some (pc, L, .long x :: st, h)
  | _ => none
def ab_lda (k pc : Nat) (L st : List Value) (h : ab_H) : Option ab_C := match L[k]? with
  | some (.ref x) => some (pc, L, .ref x :: st, h)
  | some .null => some (pc, L, .null :: st, h)
  | _ => none
def ab_sti (k pc : Nat) (L st : List Value) (h : ab_H) : Option ab_C := match st with
  | .int x :: r => (ab_st1 L k (.int x)).bind fun L' => some (pc, L', r, h)
  | _ => none
def ab_stl (k pc : Nat) (L st : List Value) (h : ab_H) : Option ab_C := match st with
  | .long x :: r => (ab_st2 L k (.long x)).bind fun L' => some (pc, L', r, h)
  | _ => none
def ab_sta (k pc : Nat) (L st : List Value) (h : ab_H) : Option ab_C := match st with
  | .ref x :: r => (ab_st1 L k (.ref x)).bind fun L' => some (pc, L', r, h)
  | .null :: r => (ab_st1 L k .null).bind fun L' => some (pc, L', r, h)
  | _ => none
def ab_inc (k : Nat) (z : Int) (pc : Nat) (L st : List Value) (h : ab_H) : Option ab_C := match L[k]? with
  | some (.int x) => (ab_st1 L k (.int (x + Int32.ofInt z))).bind fun L' => some (pc, L', st, h)
  | _ => none
def ab_dup (pc : Nat) (L st : List Value) (h : ab_H) : Option ab_C := match st with
  | .int x :: r => some (pc, L, .int x :: .int x :: r, h)
  | .ref x :: r => some (pc, L, .ref x :: .ref x :: r, h)
  | _ => none
def ab_dup2 (pc : Nat) (L st : List Value) (h : ab_H) : Option ab_C := match st with
  | .int x :: .ref y :: r => some (pc, L, .int x :: .ref y :: .int x :: .ref y :: r, h)
  | .int x :: .int y :: r => some (pc, L, .int x :: .int y :: .int x :: .int y :: r, h)
  | .long x :: r => some (pc, L, .long x :: .long x :: r, h)
  | _ => none
def ab_pop (pc : Nat) (L st : List Value) (h : ab_H) : Option ab_C := match st with
  | .int _ :: r => some (pc, L, r, h)
  | .ref _ :: r => some (pc, L, r, h)
  | _ => none
def ab_if (k tgt nxt : Nat) (L st : List Value) (h : ab_H) : Option ab_C := match st with
  | .int x :: r => some (bif ab_cond k x 0 then tgt else nxt, L, r, h)
  | _ => none
def ab_cmp (k tgt nxt : Nat) (L st : List Value) (h : ab_H) : Option ab_C := match st with
  | .int y :: .int x :: r => some (bif ab_cond k x y then tgt else nxt, L, r, h)
  | _ => none
/-- of a reference: to one place if it is null, to another if it isn't -/
def ab_nul (tn ts : Nat) (L st : List Value) (h : ab_H) : Option ab_C := match st with
  | .null :: r => some (tn, L, r, h)
  | .ref _ :: r => some (ts, L, r, h)
  | _ => none
def ab_sw (pc : Nat) (q : Int × Int × Int × List Int) (L st : List Value) (h : ab_H) : Option ab_C := match st with
  | .int x :: r => if x.toInt < q.2.1 ∨ q.2.2.1 < x.toInt then some (ab_to pc q.1, L, r, h) else
      match q.2.2.2[(x.toInt - q.2.1).toNat]? with
      | some o => some (ab_to pc o, L, r, h)
      | none => none
  | _ => none
def ab_gti (c k pc : Nat) (L st : List Value) (h : ab_H) : Option ab_C := match st with
  | .ref i :: r => if ab_ok h i (100 + c) = true then some (pc, L, .int (ab_i h i k) :: r, h) else none
  | _ => none
def ab_gtl (c k pc : Nat) (L st : List Value) (h : ab_H) : Option ab_C := match st with
  | .ref i :: r => if ab_ok h i (100 + c) = true then some (pc, L, .long (ab_l h i k) :: r, h) else none
  | _ => none
def ab_gtr (c k pc : Nat) (L st : List Value) (h : ab_H) : Option ab_C := match st with
  | .ref i :: r => if ab_ok h i (100 + c) = true then some (pc, L, va_rf (ab_r h i k) :: r, h) else none
  | _ => none
def ab_pti (c k pc : Nat) (L st : List Value) (h : ab_H) : Option ab_C := match st with
  | .int x :: .ref i :: r => if ab_ok h i (100 + c) = true then some (pc, L, r, ab_pi h i k x) else none
  | _ => none
def ab_ptz (c k pc : Nat) (L st : List Value) (h : ab_H) : Option ab_C := match st with
  | .int x :: .ref i :: r => if ab_ok h i (100 + c) = true ∧ (x = 0 ∨ x = 1) then some (pc, L, r, ab_pi h i k x) else none
  | _ => none
def ab_ptl (c k pc : Nat) (L st : List Value) (h : ab_H) : Option ab_C := match st with
  | .long x :: .ref i :: r => if ab_ok h i (100 + c) = true then some (pc, L, r, ab_pl h i k x) else none
  | _ => none
def ab_ptr (c k pc : Nat) (L st : List Value) (h : ab_H) : Option ab_C := match st with
  | .ref x :: .ref i :: r => if ab_ok h i (100 + c) = true then some (pc, L, r, ab_pr h i k (some x)) else none
  | .null :: .ref i :: r => if ab_ok h i (100 + c) = true then some (pc, L, r, ab_pr h i k none) else none
  | _ => none
def ab_ali (pc : Nat) (L st : List Value) (h : ab_H) : Option ab_C := match st with
  | .int x :: .ref i :: r => if i = 0 ∨ ab_ok h i 0 = true then (if ab_in x (ab_s h i).2 = true then some (pc, L, .int (ab_i h i x.toNatClampNeg) :: r, h) else none) else none
  | _ => none
def ab_alz (pc : Nat) (L st : List Value) (h : ab_H) : Option ab_C := match st with
  | .int x :: .ref i :: r => if ab_ok h i 2 = true ∧ ab_in x (ab_s h i).2 = true then some (pc, L, .int (ab_i h i x.toNatClampNeg) :: r, h) else none
  | _ => none
def ab_all (pc : Nat) (L st : List Value) (h : ab_H) : Option ab_C := match st with
  | .int x :: .ref i :: r => if ab_ok h i 1 = true ∧ ab_in x (ab_s h i).2 = true then some (pc, L, .long (ab_l h i x.toNatClampNeg) :: r, h) else none
  | _ => none
def ab_alr (c pc : Nat) (L st : List Value) (h : ab_H) : Option ab_C := match st with
  | .int x :: .ref i :: r => if ab_ok h i (3 + c) = true ∧ ab_in x (ab_s h i).2 = true then some (pc, L, va_rf (ab_r h i x.toNatClampNeg) :: r, h) else none
  | _ => none
def ab_asi (pc : Nat) (L st : List Value) (h : ab_H) : Option ab_C := match st with
  | .int v :: .int x :: .ref i :: r => if ab_ok h i 0 = true ∧ ab_in x (ab_s h i).2 = true then some (pc, L, r, ab_pi h i x.toNatClampNeg v) else none
  | _ => none
def ab_asz (pc : Nat) (L st : List Value) (h : ab_H) : Option ab_C := match st with
  | .int v :: .int x :: .ref i :: r => if ab_ok h i 2 = true ∧ ab_in x (ab_s h i).2 = true then some (pc, L, r, ab_pi h i x.toNatClampNeg (v &&& 1)) else none
  | _ => none
def ab_asl (pc : Nat) (L st : List Value) (h : ab_H) : Option ab_C := match st with
  | .long v :: .int x :: .ref i :: r => if ab_ok h i 1 = true ∧ ab_in x (ab_s h i).2 = true then some (pc, L, r, ab_pl h i x.toNatClampNeg v) else none
  | _ => none
def ab_asr (c pc : Nat) (L st : List Value) (h : ab_H) : Option ab_C := match st with
  | .ref v :: .int x :: .ref i :: r => if (ab_ok h i (3 + c) = true ∧ ab_ok h v (100 + c) = true) ∧ ab_in x (ab_s h i).2 = true then some (pc, L, r, ab_pr h i x.toNatClampNeg (some v)) else none
  | _ => none
def ab_len (kd pc : Nat) (L st : List Value) (h : ab_H) : Option ab_C := match st with
  | .ref i :: r => if (i = 0 ∧ kd = 0) ∨ ab_ok h i kd = true then some (pc, L, .int (Int32.ofNat (ab_s h i).2) :: r, h) else none
  | _ => none
def ab_nwa (kd pc : Nat) (L st : List Value) (h : ab_H) : Option ab_C := match st with
  | .int x :: r => if ¬ x < 0 ∧ x.toNatClampNeg ≤ 1000000 then some (pc, L, .ref (ab_n h) :: r, ab_new h kd x.toNatClampNeg x.toNatClampNeg) else none
  | _ => none
def ab_nwo (c sl pc : Nat) (L st : List Value) (h : ab_H) : Option ab_C := some (pc, L, .ref (ab_n h) :: st, ab_new h (100 + c) 0 sl)
def ab_oin (pc : Nat) (L st : List Value) (h : ab_H) : Option ab_C := match st with
  | .ref _ :: r => if (r.map fun v => v.category).sum ≤ 8 then some (pc, L, r, h) else none
  | _ => none
def ab_cpy (pc : Nat) (L st : List Value) (h : ab_H) : Option ab_C := match st with
  | .int n :: .int dp :: .ref j :: .int sp :: .ref i :: r =>
    if (ab_ok h i 0 = true ∧ ab_ok h j 0 = true) ∧ (¬ sp < 0 ∧ ¬ dp < 0 ∧ ¬ n < 0) ∧ sp.toNatClampNeg + n.toNatClampNeg ≤ (ab_s h i).2 ∧ dp.toNatClampNeg + n.toNatClampNeg ≤ (ab_s h j).2 ∧ (r.map fun v => v.category).sum ≤ 8 then
      some (pc, L, r, ab_row h j (va_cpy (ab_i h i) (ab_i h j) sp.toNatClampNeg dp.toNatClampNeg n.toNatClampNeg)) else none
  | _ => none
/-- the steps that are no calls and no returns -/
def ab_stp (sw : Nat → Int × Int × Int × List Int) (I : ab_I) (pc : Nat) (L st : List Value) (h : ab_H) : Option ab_C := match I with
  | (op, a, b, k, z) => match op with
    | 1 => some (pc + a, L, .int (Int32.ofInt z) :: st, h)
    | 2 => some (pc + a, L, .long (Int64.ofInt z) :: st, h)
    | 3 => ab_ldi k (pc + a) L st h
    | 4 => ab_ldl k (pc + a) L st h
    | 5 => ab_lda k (pc + a) L st h
    | 6 => ab_sti k (pc + a) L st h
    | 7 => ab_stl k (pc + a) L st h
    | 8 => ab_sta k (pc + a) L st h
    | 9 => ab_inc k z (pc + 3) L st h
    | 10 => ab_ii (fun x y => some (.int (x + y))) (pc + 1) L st h
    | 11 => ab_ii (fun x y => some (.int (x - y))) (pc + 1) L st h
    | 12 => ab_ii (fun x y => some (.int (x * y))) (pc + 1) L st h
    | 13 => ab_ii (fun x y => some (.int (x &&& y))) (pc + 1) L st h
    | 14 => ab_ii (fun x y => some (.int (x ||| y))) (pc + 1) L st h
    | 15 => ab_ii (fun x y => some (.int (x ^^^ y))) (pc + 1) L st h
    | 16 => ab_ii (fun x y => if y = 0 then none else some (.int (x / y))) (pc + 1) L st h
    | 17 => ab_ii (fun x y => if y = 0 then none else some (.int (x - x / y * y))) (pc + 1) L st h
    | 18 => ab_ii (fun x y => some (.int (x <<< (y &&& 31)))) (pc + 1) L st h
    | 19 => ab_ii (fun x y => some (.int (x >>> (y &&& 31)))) (pc + 1) L st h
    | 20 => ab_ii (fun x y => some (.int ((x.toUInt32 >>> (y.toUInt32 &&& Int32.toUInt32 31)).toInt32))) (pc + 1) L st h
    | 21 => ab_i1 (fun x => .int (-x)) (pc + 1) L st h
    | 22 => ab_ll (fun x y => some (.long (x + y))) (pc + 1) L st h
    | 23 => ab_ll (fun x y => some (.long (x - y))) (pc + 1) L st h
    | 24 => ab_ll (fun x y => some (.long (x * y))) (pc + 1) L st h
    | 25 => ab_ll (fun x y => some (.long (x ||| y))) (pc + 1) L st h
    | 26 => ab_ll (fun x y => if y = 0 then none else some (.long (x / y))) (pc + 1) L st h
    | 27 => ab_ll (fun x y => if y = 0 then none else some (.long (x - x / y * y))) (pc + 1) L st h
    | 28 => ab_ll (fun x y => some (.int (lg_cmp x y))) (pc + 1) L st h
    | 29 => ab_l1 (fun x => .long (-x)) (pc + 1) L st h
    | 30 => ab_l1 (fun x => .int x.toInt32) (pc + 1) L st h
    | 31 => ab_i1 (fun x => .long x.toInt64) (pc + 1) L st h
    | 32 => match st with
      | .int y :: .long x :: r => some (pc + 1, L, .long (x <<< (y.toInt64 &&& 63)) :: r, h)
      | _ => none
    | 33 => ab_dup (pc + 1) L st h
    | 34 => ab_dup2 (pc + 1) L st h
    | 35 => ab_pop (pc + 1) L st h
    | 36 => ab_if k (ab_to pc z) (pc + 3) L st h
    | 37 => ab_cmp k (ab_to pc z) (pc + 3) L st h
    | 38 => some (ab_to pc z, L, st, h)
    | 39 => ab_nul (ab_to pc z) (pc + 3) L st h
    | 40 => ab_nul (pc + 3) (ab_to pc z) L st h
    | 41 => some (pc + 1, L, .null :: st, h)
    | 42 => ab_sw pc (sw a) L st h
    | 43 => ab_gti a k (pc + 3) L st h
    | 44 => ab_gtl a k (pc + 3) L st h
    | 45 => ab_gtr a k (pc + 3) L st h
    | 46 => ab_pti a k (pc + 3) L st h
    | 47 => ab_ptz a k (pc + 3) L st h
    | 48 => ab_ptl a k (pc + 3) L st h
    | 49 => ab_ptr a k (pc + 3) L st h
    | 50 => ab_ali (pc + 1) L st h
    | 51 => ab_alz (pc + 1) L st h
    | 52 => ab_all (pc + 1) L st h
    | 53 => ab_alr a (pc + 1) L st h
    | 54 => ab_asi (pc + 1) L st h
    | 55 => ab_asz (pc + 1) L st h
    | 56 => ab_asl (pc + 1) L st h
    | 57 => ab_asr a (pc + 1) L st h
    | 58 => ab_len a (pc + 1) L st h
    | 59 => ab_nwa k (pc + a) L st h
    | 60 => ab_nwo a k (pc + 3) L st h
    | 61 => ab_oin (pc + 3) L st h
    | 62 => ab_cpy (pc + 3) L st h
    | _ => none
/-- steps that other code of the platform does: 70 a text's length, 71 its sign at a place, 72 floorDiv, 73 max, 74 min, 75 abs, 76 max of longs, 77 min of longs, 78 the text itself -/
def ab_x2 (f : Int32 → Int32 → Option Value) (pc : Nat) (L st : List Value) (h : ab_H) : Option ab_C := match st with
  | .int y :: .int x :: r => if (r.map fun v => v.category).sum ≤ 8 then (f x y).bind fun v => some (pc, L, v :: r, h) else none
  | _ => none
def ab_ext (sw : Nat → Int × Int × Int × List Int) (I : ab_I) (pc : Nat) (L st : List Value) (h : ab_H) : Option ab_C := match I with
  | (op, a, _, _, _) => match op with
    | 70 => match st with
      | .retAddr _ :: r => if (r.map fun v => v.category).sum ≤ 8 then some (pc + 3, L, .int (Int32.ofNat (sw 1000).2.2.2.length) :: r, h) else none
      | _ => none
    | 71 => match st with
      | .int x :: .retAddr _ :: r => if ab_in x (sw 1000).2.2.2.length = true ∧ (r.map fun v => v.category).sum ≤ 8 then some (pc + 3, L, .int (Int32.ofInt ((sw 1000).2.2.2.getD x.toNatClampNeg 0)) :: r, h) else none
      | _ => none
    | 72 => ab_x2 (fun x y => if y = 0 then none else some (.int (if 0 ≤ x ^^^ y then x / y else if x / y * y = x then x / y else x / y + (-1)))) (pc + 3) L st h
    | 73 => ab_x2 (fun x y => some (.int (if x < y then y else x))) (pc + 3) L st h
    | 74 => ab_x2 (fun x y => some (.int (if y < x then y else x))) (pc + 3) L st h
    | 75 => match st with
      | .int x :: r => if (r.map fun v => v.category).sum ≤ 8 then some (pc + 3, L, .int (if 0 ≤ x then x else 0 - x) :: r, h) else none
      | _ => none
    | 76 => match st with
      | .long y :: .long x :: r => if (r.map fun v => v.category).sum ≤ 8 then some (pc + 3, L, .long (if y < x then x else y) :: r, h) else none
      | _ => none
    | 77 => match st with
      | .long y :: .long x :: r => if (r.map fun v => v.category).sum ≤ 8 then some (pc + 3, L, .long (if y < x then y else x) :: r, h) else none
      | _ => none
    | 78 => some (pc + a, L, .retAddr 1 :: st, h)
    | _ => none
/-- the locals at a method's entry -/
def ab_sl : List Value → List Value
  | [] => []
  | .long x :: r => .long x :: .retAddr 0 :: ab_sl r
  | .double _ :: r => .retAddr 0 :: .retAddr 0 :: ab_sl r
  | v :: r => v :: ab_sl r
def ab_ent (As : List Value) (n : Nat) : List Value := ab_sl As ++ List.replicate (n - (ab_sl As).length) (.retAddr 0)
/-- a call's arguments: op 80 of an object, op 81 static; na counts the descriptor's parameters -/
def ab_args (mc na mx : Nat → Nat) (I : ab_I) (st : List Value) (h : ab_H) : Option (List Value × List Value) :=
  if I.1 = 81 then
    (if na I.2.1 ≤ st.length ∧ ((st.drop (na I.2.1)).map fun v => v.category).sum ≤ 8 ∧ (ab_sl (st.take (na I.2.1)).reverse).length ≤ mx I.2.1 then some ((st.take (na I.2.1)).reverse, st.drop (na I.2.1)) else none)
  else match st.drop (na I.2.1) with
    | .ref i :: r => if ab_ok h i (100 + mc I.2.1) = true ∧ (r.map fun v => v.category).sum ≤ 8 ∧ (ab_sl (.ref i :: (st.take (na I.2.1)).reverse)).length ≤ mx I.2.1 ∧ (st.take (na I.2.1)).length = na I.2.1 then some (.ref i :: (st.take (na I.2.1)).reverse, r) else none
    | _ => none
/-- returns: 90 int, 91 boolean, 92 long, 93 a reference, else nothing -/
def ab_ret (op : Nat) (st : List Value) (h : ab_H) : Option (Option Value × ab_H) := match op with
  | 90 => match st with
    | [.int v] => some (some (.int v), h)
    | _ => none
  | 91 => match st with
    | [.int v] => if v = 0 ∨ v = 1 then some (some (.int v), h) else none
    | _ => none
  | 92 => match st with
    | [.long v] => some (some (.long v), h)
    | _ => none
  | 93 => match st with
    | [.ref v] => some (some (.ref v), h)
    | [.null] => some (some .null, h)
    | _ => none
  | 94 => match st with
    | [] => some (none, h)
    | _ => none
  | _ => none
def ab_rs (cd : Nat → Nat → ab_I) (sw : Nat → Int × Int × Int × List Int) (na mx mc : Nat → Nat) : Nat → Nat → Nat → Nat → List Value → List Value → ab_H → Option (Option Value × ab_H)
  | 0, _, _, _, _, _, _ => none
  | n + 1, d, M, pc, L, st, h =>
    if 90 ≤ (cd M pc).1 then ab_ret (cd M pc).1 st h
    else if 80 ≤ (cd M pc).1 then
      match d with
      | 0 => none
      | d + 1 => (ab_args mc na mx (cd M pc) st h).bind fun q => (ab_rs cd sw na mx mc n d (cd M pc).2.1 0 (ab_ent q.1 (mx (cd M pc).2.1)) [] h).bind fun o => ab_rs cd sw na mx mc n (d + 1) M (pc + 3) L (o.1.toList ++ q.2) o.2
    else if 70 ≤ (cd M pc).1 then (if 7 ≤ d then (ab_ext sw (cd M pc) pc L st h).bind fun q => ab_rs cd sw na mx mc n d M q.1 q.2.1 q.2.2.1 q.2.2.2 else none)
    else (ab_stp sw (cd M pc) pc L st h).bind fun q => ab_rs cd sw na mx mc n d M q.1 q.2.1 q.2.2.1 q.2.2.2
