/-! ===== what a CLAUSE comes to (segments printed by wip/whole, contracts own work) ===== -/
/-- a sound piece of code -/
def SG (L : List (Int × Int)) (i j m' b' : Int) : Prop := ∃ L0 M L1 : List (Int × Int), L = L0 ++ M ++ L1 ∧ (L0.length : Int) = i ∧ i + M.length = j ∧ wzL M 0 0 m' b'
theorem SG_a {L N : List (Int × Int)} {i j m b : Int} (h : SG L i j m b) : SG (L ++ N) i j m b := by
  obtain ⟨L0, M, L1, e, h1, h2, h3⟩ := h
  exact ⟨L0, M, L1 ++ N, by rw [e]; simp only [List.append_assoc], h1, h2, h3⟩
theorem SG_i {L0 M L1 : List (Int × Int)} {i j m b : Int} (h1 : (L0.length : Int) = i) (h2 : i + M.length = j) (w : wzL M 0 0 m b) : SG (L0 ++ M ++ L1) i j m b := ⟨L0, M, L1, rfl, h1, h2, w⟩
/-- a CLAUSE that stands at C, over a code -/
def JC (a : Int → Int) (C : Int) (L : List (Int × Int)) : Prop := (1 ≤ a C ∧ a C ≤ 9) ∧ (a C = 2 ∨ a C = 3 → 0 ≤ a (C + 1) ∧ a (C + 1) ≤ 29) ∧ (a C = 6 → 0 ≤ a (C + 1) ∧ a (C + 1) ≤ 9999) ∧ (a C = 7 → (0 ≤ a (C + 1) ∧ a (C + 1) ≤ 99) ∧ (0 ≤ a (C + 2) ∧ a (C + 2) ≤ 99) ∧ (0 ≤ a (C + 3) ∧ a (C + 3) ≤ 80)) ∧ (8 ≤ a C → 0 ≤ a (C + 1) ∧ a (C + 1) ≤ 20) ∧ (a C ≤ 5 → SG L (a (C + 6)) (a (C + 7)) 1 0) ∧ (a C = 4 ∨ a C = 5 → SG L (a (C + 4)) (a (C + 5)) 0 1)
theorem JC_a {a : Int → Int} {C : Int} {L N : List (Int × Int)} (h : JC a C L) : JC a C (L ++ N) := by
  obtain ⟨h1, h2, h3, h4, h5, h6, h7⟩ := h
  exact ⟨h1, h2, h3, h4, h5, fun z => SG_a (h6 z), fun z => SG_a (h7 z)⟩
theorem JC_c {a a' : Int → Int} {C : Int} {L : List (Int × Int)} (h : JC a C L) (e : ∀ k, 0 ≤ k → k < 8 → a' (C + k) = a (C + k)) : JC a' C L := by
  have e0 := e 0 (by omega) (by omega)
  rw [show C + 0 = C by omega] at e0
  unfold JC
  rw [e0, e 1 (by omega) (by omega), e 2 (by omega) (by omega), e 3 (by omega) (by omega), e 4 (by omega) (by omega), e 5 (by omega) (by omega), e 6 (by omega) (by omega), e 7 (by omega) (by omega)]
  exact h
theorem TC_c {f f' a a' : Int → Int} {c C : Int} (h : TC f c a C) (e : ∀ k, 0 ≤ k → k < 8 → a' (C + k) = a (C + k)) (ef : ∀ k, 0 ≤ k → k < 8 → f' (c * 8 + k) = f (c * 8 + k)) : TC f' c a' C := by
  have e0 := e 0 (by omega) (by omega)
  rw [show C + 0 = C by omega] at e0
  unfold TC
  rw [e0, e 1 (by omega) (by omega), e 2 (by omega) (by omega), e 3 (by omega) (by omega), e 4 (by omega) (by omega), e 5 (by omega) (by omega), e 6 (by omega) (by omega), e 7 (by omega) (by omega), ef 0 (by omega) (by omega), ef 1 (by omega) (by omega), ef 2 (by omega) (by omega), ef 3 (by omega) (by omega), ef 4 (by omega) (by omega), ef 5 (by omega) (by omega), ef 6 (by omega) (by omega), ef 7 (by omega) (by omega)]
  exact h
section CLF
variable {T : Int → Int} {n m q s : Int}
theorem bnd_i {A : RW} {f : Int → RW} (e : (bnd A f).1 = 0) : A.1 = 0 ∧ (f A.2.1).1 = 0 := by
  by_cases h : A.1 = 0
  · exact ⟨h, by rw [← bnd_2 h]; exact e⟩
  · rw [bnd_1 h] at e
    exact absurd e h
theorem sm_i {c s : Int} (e : (smO T n q c s).1 = 0) : (sumO T n (oneK T n 8) s).1 = 0 := by
  by_cases h : (sumO T n (oneK T n 8) s).1 = 0
  · exact h
  · rw [show smO T n q c s = ((sumO T n (oneK T n 8) s).1, (sumO T n (oneK T n 8) s).2.1, [], []) from if_pos h] at e
    exact absurd e h
theorem ei_i {c s : Int} (e : (eitW T n q c s).1 = 0) : (eitO T n 301 s [] 0 0).1 = 0 := by
  by_cases h : (eitO T n 301 s [] 0 0).1 = 0
  · exact h
  · rw [show eitW T n q c s = ((eitO T n 301 s [] 0 0).1, (eitO T n 301 s [] 0 0).2.1, [], []) from if_pos h] at e
    exact absurd e h
theorem ad_i {c v s : Int} (e : (addO T n q c v s).1 = 0) : (tk T n s = 10 ∨ tk T n s = 11) ∧ (sumO T n (oneK T n 8) (nx T n s)).1 = 0 := by
  unfold addO at e
  by_cases h : tk T n s = 10
  · rw [if_pos h] at e
    exact ⟨Or.inl h, sm_i (bnd_i e).2⟩
  rw [if_neg h] at e
  by_cases h2 : tk T n s = 11
  · rw [if_pos h2] at e
    exact ⟨Or.inr h2, sm_i (bnd_i e).2⟩
  rw [if_neg h2] at e
  exact absurd (show (1 : Int) = 0 from e) (by decide)
theorem cl_i {c : Int} (e : (clsO T n m q c s).1 = 0) : m ≠ 24 ∧ srtO (tk T n s) ≠ 0 ∧ (bodyO T n q c (tk T n s) (nx T n s)).1 = 0 ∧ clsO T n m q c s = (0, nx T n (bodyO T n q c (tk T n s) (nx T n s)).2.1, (bodyO T n q c (tk T n s) (nx T n s)).2.2.1, (q, srtO (tk T n s)) :: (bodyO T n q c (tk T n s) (nx T n s)).2.2.2) := by
  have h24 := clsO_24 e
  by_cases ht : srtO (tk T n s) = 0
  · unfold clsO at e
    rw [if_pos ht] at e
    exact absurd (show (1 : Int) = 0 from e) (by decide)
  have e' := e
  unfold clsO at e'
  rw [if_neg ht, if_neg h24] at e'
  have b := bnd_i (bnd_i e').2
  obtain ⟨B, hB⟩ : ∃ B, B = bodyO T n q c (tk T n s) (nx T n s) := ⟨_, rfl⟩
  rw [← hB]
  have b1 : B.1 = 0 := by rw [hB]; exact b.1
  have b2 : tk T n B.2.1 = 36 := by rw [hB]; exact (nedO_0 b.2).2
  have hb : bodyO T n q c (tk T n s) (nx T n s) = (0, B.2.1, B.2.2.1, B.2.2.2) := by rw [← hB, ← b1]
  exact ⟨h24, ht, b1, cl_v h24 ht hb b2⟩
/-- a CLAUSE's places lie together; it is sound -/
def CF8 (q t : Int) (W : List (Int × Int)) (L : List (Int × Int)) : Prop := (∀ x, x ∈ W → q ≤ x.1 ∧ x.1 < q + 8) ∧ ∀ g, srt (wrs g W q) = t ∧ JC (wrs g W) q L
theorem cf_3 {c d : Int} {L : List (Int × Int)} (h : SG L c d 1 0) : CF8 q 3 [(q, srtO 3), (q + 6, c), (q + 7, d)] L := by
  refine ⟨fun x hx => ?_, fun g => ?_⟩
  · simp only [List.mem_cons, List.not_mem_nil, or_false] at hx
    rcases hx with rfl | rfl | rfl <;> (constructor <;> simp only <;> omega)
  have e0 : wrs g [(q, srtO 3), (q + 6, c), (q + 7, d)] q = 1 := by
    show u1 (u1 (u1 g q (srtO 3)) (q + 6) (c)) (q + 7) (d) q = 1
    rw [u1_n (by omega), u1_n (by omega), u1_s]
    try decide
  have e6 : wrs g [(q, srtO 3), (q + 6, c), (q + 7, d)] (q + 6) = c := by
    show u1 (u1 (u1 g q (srtO 3)) (q + 6) (c)) (q + 7) (d) (q + 6) = c
    rw [u1_n (by omega), u1_s]
  have e7 : wrs g [(q, srtO 3), (q + 6, c), (q + 7, d)] (q + 7) = d := by
    show u1 (u1 (u1 g q (srtO 3)) (q + 6) (c)) (q + 7) (d) (q + 7) = d
    rw [u1_s]
  unfold JC
  rw [e0, e6, e7]
  exact ⟨by decide, by omega, fun z => by omega, fun z => by omega, fun z => by omega, fun z => by omega, fun _ => h, fun z => by omega⟩
theorem cf_4 {v c d : Int} {L : List (Int × Int)} (b : Bool) (hv : 0 ≤ v ∧ v ≤ 29) (h : SG L c d 1 0) : CF8 q 4 ((q, srtO 4) :: ([(q + 1, v)] ++ ((if b = true then [(q, (2 : Int) + 1)] else []) ++ [(q + 6, c), (q + 7, d)]))) L := by
  refine ⟨fun x hx => ?_, fun g => ?_⟩
  · cases b <;> (simp only [List.mem_cons, List.mem_append, List.not_mem_nil, or_false, if_true, if_false, Bool.false_eq_true, false_or] at hx; rcases hx with rfl | hx) <;> (try (constructor <;> simp only <;> omega)) <;> (rcases hx with rfl | hx) <;> (try (constructor <;> simp only <;> omega)) <;> (rcases hx with rfl | hx) <;> (try (constructor <;> simp only <;> omega)) <;> (try (subst hx; constructor <;> simp only <;> omega)) <;> (rcases hx with rfl | rfl) <;> (constructor <;> simp only <;> omega)
  cases b
  · have e0 : wrs g ((q, srtO 4) :: ([(q + 1, v)] ++ ((if false = true then [(q, (2 : Int) + 1)] else []) ++ [(q + 6, c), (q + 7, d)]))) q = 2 := by
      show u1 (u1 (u1 (u1 g q (srtO 4)) (q + 1) (v)) (q + 6) (c)) (q + 7) (d) q = 2
      rw [u1_n (by omega), u1_n (by omega), u1_n (by omega), u1_s]
      try decide
    have e1 : wrs g ((q, srtO 4) :: ([(q + 1, v)] ++ ((if false = true then [(q, (2 : Int) + 1)] else []) ++ [(q + 6, c), (q + 7, d)]))) (q + 1) = v := by
      show u1 (u1 (u1 (u1 g q (srtO 4)) (q + 1) (v)) (q + 6) (c)) (q + 7) (d) (q + 1) = v
      rw [u1_n (by omega), u1_n (by omega), u1_s]
    have e6 : wrs g ((q, srtO 4) :: ([(q + 1, v)] ++ ((if false = true then [(q, (2 : Int) + 1)] else []) ++ [(q + 6, c), (q + 7, d)]))) (q + 6) = c := by
      show u1 (u1 (u1 (u1 g q (srtO 4)) (q + 1) (v)) (q + 6) (c)) (q + 7) (d) (q + 6) = c
      rw [u1_n (by omega), u1_s]
    have e7 : wrs g ((q, srtO 4) :: ([(q + 1, v)] ++ ((if false = true then [(q, (2 : Int) + 1)] else []) ++ [(q + 6, c), (q + 7, d)]))) (q + 7) = d := by
      show u1 (u1 (u1 (u1 g q (srtO 4)) (q + 1) (v)) (q + 6) (c)) (q + 7) (d) (q + 7) = d
      rw [u1_s]
    unfold JC
    rw [e0, e1, e6, e7]
    exact ⟨by decide, by omega, fun _ => hv, fun z => by omega, fun z => by omega, fun z => by omega, fun _ => h, fun z => by omega⟩
  · have e0 : wrs g ((q, srtO 4) :: ([(q + 1, v)] ++ ((if true = true then [(q, (2 : Int) + 1)] else []) ++ [(q + 6, c), (q + 7, d)]))) q = 3 := by
      show u1 (u1 (u1 (u1 (u1 g q (srtO 4)) (q + 1) (v)) q (2 + 1)) (q + 6) (c)) (q + 7) (d) q = 3
      rw [u1_n (by omega), u1_n (by omega), u1_s]
      try decide
    have e1 : wrs g ((q, srtO 4) :: ([(q + 1, v)] ++ ((if true = true then [(q, (2 : Int) + 1)] else []) ++ [(q + 6, c), (q + 7, d)]))) (q + 1) = v := by
      show u1 (u1 (u1 (u1 (u1 g q (srtO 4)) (q + 1) (v)) q (2 + 1)) (q + 6) (c)) (q + 7) (d) (q + 1) = v
      rw [u1_n (by omega), u1_n (by omega), u1_n (by omega), u1_s]
    have e6 : wrs g ((q, srtO 4) :: ([(q + 1, v)] ++ ((if true = true then [(q, (2 : Int) + 1)] else []) ++ [(q + 6, c), (q + 7, d)]))) (q + 6) = c := by
      show u1 (u1 (u1 (u1 (u1 g q (srtO 4)) (q + 1) (v)) q (2 + 1)) (q + 6) (c)) (q + 7) (d) (q + 6) = c
      rw [u1_n (by omega), u1_s]
    have e7 : wrs g ((q, srtO 4) :: ([(q + 1, v)] ++ ((if true = true then [(q, (2 : Int) + 1)] else []) ++ [(q + 6, c), (q + 7, d)]))) (q + 7) = d := by
      show u1 (u1 (u1 (u1 (u1 g q (srtO 4)) (q + 1) (v)) q (2 + 1)) (q + 6) (c)) (q + 7) (d) (q + 7) = d
      rw [u1_s]
    unfold JC
    rw [e0, e1, e6, e7]
    exact ⟨by decide, by omega, fun _ => hv, fun z => by omega, fun z => by omega, fun z => by omega, fun _ => h, fun z => by omega⟩
theorem cf_5 {c c1 d : Int} {L : List (Int × Int)} (b : Bool) (h : SG L c1 d 1 0) (h2 : SG L c c1 0 1) : CF8 q 5 ((q, srtO 5) :: ([(q + 4, c), (q + 5, c1)] ++ ((if b = true then [(q, (4 : Int) + 1)] else []) ++ [(q + 6, c1), (q + 7, d)]))) L := by
  refine ⟨fun x hx => ?_, fun g => ?_⟩
  · cases b <;> (simp only [List.mem_cons, List.mem_append, List.not_mem_nil, or_false, if_true, if_false, Bool.false_eq_true, false_or, or_assoc] at hx; rcases hx with rfl | hx) <;> (try (constructor <;> simp only <;> omega)) <;> (rcases hx with rfl | hx) <;> (try (constructor <;> simp only <;> omega)) <;> (rcases hx with rfl | hx) <;> (try (constructor <;> simp only <;> omega)) <;> (rcases hx with rfl | hx) <;> (try (constructor <;> simp only <;> omega)) <;> (try (subst hx; constructor <;> simp only <;> omega)) <;> (rcases hx with rfl | rfl) <;> (constructor <;> simp only <;> omega)
  cases b
  · have e0 : wrs g ((q, srtO 5) :: ([(q + 4, c), (q + 5, c1)] ++ ((if false = true then [(q, (4 : Int) + 1)] else []) ++ [(q + 6, c1), (q + 7, d)]))) q = 4 := by
      show u1 (u1 (u1 (u1 (u1 g q (srtO 5)) (q + 4) (c)) (q + 5) (c1)) (q + 6) (c1)) (q + 7) (d) q = 4
      rw [u1_n (by omega), u1_n (by omega), u1_n (by omega), u1_n (by omega), u1_s]
      try decide
    have e4 : wrs g ((q, srtO 5) :: ([(q + 4, c), (q + 5, c1)] ++ ((if false = true then [(q, (4 : Int) + 1)] else []) ++ [(q + 6, c1), (q + 7, d)]))) (q + 4) = c := by
      show u1 (u1 (u1 (u1 (u1 g q (srtO 5)) (q + 4) (c)) (q + 5) (c1)) (q + 6) (c1)) (q + 7) (d) (q + 4) = c
      rw [u1_n (by omega), u1_n (by omega), u1_n (by omega), u1_s]
    have e5 : wrs g ((q, srtO 5) :: ([(q + 4, c), (q + 5, c1)] ++ ((if false = true then [(q, (4 : Int) + 1)] else []) ++ [(q + 6, c1), (q + 7, d)]))) (q + 5) = c1 := by
      show u1 (u1 (u1 (u1 (u1 g q (srtO 5)) (q + 4) (c)) (q + 5) (c1)) (q + 6) (c1)) (q + 7) (d) (q + 5) = c1
      rw [u1_n (by omega), u1_n (by omega), u1_s]
    have e6 : wrs g ((q, srtO 5) :: ([(q + 4, c), (q + 5, c1)] ++ ((if false = true then [(q, (4 : Int) + 1)] else []) ++ [(q + 6, c1), (q + 7, d)]))) (q + 6) = c1 := by
      show u1 (u1 (u1 (u1 (u1 g q (srtO 5)) (q + 4) (c)) (q + 5) (c1)) (q + 6) (c1)) (q + 7) (d) (q + 6) = c1
      rw [u1_n (by omega), u1_s]
    have e7 : wrs g ((q, srtO 5) :: ([(q + 4, c), (q + 5, c1)] ++ ((if false = true then [(q, (4 : Int) + 1)] else []) ++ [(q + 6, c1), (q + 7, d)]))) (q + 7) = d := by
      show u1 (u1 (u1 (u1 (u1 g q (srtO 5)) (q + 4) (c)) (q + 5) (c1)) (q + 6) (c1)) (q + 7) (d) (q + 7) = d
      rw [u1_s]
    unfold JC
    rw [e0, e4, e5, e6, e7]
    exact ⟨by decide, by omega, fun z => by omega, fun z => by omega, fun z => by omega, fun z => by omega, fun _ => h, fun _ => h2⟩
  · have e0 : wrs g ((q, srtO 5) :: ([(q + 4, c), (q + 5, c1)] ++ ((if true = true then [(q, (4 : Int) + 1)] else []) ++ [(q + 6, c1), (q + 7, d)]))) q = 5 := by
      show u1 (u1 (u1 (u1 (u1 (u1 g q (srtO 5)) (q + 4) (c)) (q + 5) (c1)) q (4 + 1)) (q + 6) (c1)) (q + 7) (d) q = 5
      rw [u1_n (by omega), u1_n (by omega), u1_s]
      try decide
    have e4 : wrs g ((q, srtO 5) :: ([(q + 4, c), (q + 5, c1)] ++ ((if true = true then [(q, (4 : Int) + 1)] else []) ++ [(q + 6, c1), (q + 7, d)]))) (q + 4) = c := by
      show u1 (u1 (u1 (u1 (u1 (u1 g q (srtO 5)) (q + 4) (c)) (q + 5) (c1)) q (4 + 1)) (q + 6) (c1)) (q + 7) (d) (q + 4) = c
      rw [u1_n (by omega), u1_n (by omega), u1_n (by omega), u1_n (by omega), u1_s]
    have e5 : wrs g ((q, srtO 5) :: ([(q + 4, c), (q + 5, c1)] ++ ((if true = true then [(q, (4 : Int) + 1)] else []) ++ [(q + 6, c1), (q + 7, d)]))) (q + 5) = c1 := by
      show u1 (u1 (u1 (u1 (u1 (u1 g q (srtO 5)) (q + 4) (c)) (q + 5) (c1)) q (4 + 1)) (q + 6) (c1)) (q + 7) (d) (q + 5) = c1
      rw [u1_n (by omega), u1_n (by omega), u1_n (by omega), u1_s]
    have e6 : wrs g ((q, srtO 5) :: ([(q + 4, c), (q + 5, c1)] ++ ((if true = true then [(q, (4 : Int) + 1)] else []) ++ [(q + 6, c1), (q + 7, d)]))) (q + 6) = c1 := by
      show u1 (u1 (u1 (u1 (u1 (u1 g q (srtO 5)) (q + 4) (c)) (q + 5) (c1)) q (4 + 1)) (q + 6) (c1)) (q + 7) (d) (q + 6) = c1
      rw [u1_n (by omega), u1_s]
    have e7 : wrs g ((q, srtO 5) :: ([(q + 4, c), (q + 5, c1)] ++ ((if true = true then [(q, (4 : Int) + 1)] else []) ++ [(q + 6, c1), (q + 7, d)]))) (q + 7) = d := by
      show u1 (u1 (u1 (u1 (u1 (u1 g q (srtO 5)) (q + 4) (c)) (q + 5) (c1)) q (4 + 1)) (q + 6) (c1)) (q + 7) (d) (q + 7) = d
      rw [u1_s]
    unfold JC
    rw [e0, e4, e5, e6, e7]
    exact ⟨by decide, by omega, fun z => by omega, fun z => by omega, fun z => by omega, fun z => by omega, fun _ => h, fun _ => h2⟩
theorem cf_6 {t v : Int} {L : List (Int × Int)} (ht : (t = 6 ∧ 0 ≤ v ∧ v ≤ 9999) ∨ ((t = 8 ∨ t = 9) ∧ 0 ≤ v ∧ v ≤ 20)) : CF8 q t [(q, srtO t), (q + 1, v)] L := by
  have st := srt_t (t := t) (by omega)
  have et : srtO t = t := by
    have : t = 6 ∨ t = 8 ∨ t = 9 := by omega
    rcases this with rfl | rfl | rfl <;> decide
  refine ⟨fun x hx => ?_, fun g => ?_⟩
  · simp only [List.mem_cons, List.not_mem_nil, or_false] at hx
    rcases hx with rfl | rfl <;> (constructor <;> simp only <;> omega)
  have e0 : wrs g [(q, srtO t), (q + 1, v)] q = srtO t := by
    show u1 (u1 g q (srtO t)) (q + 1) (v) q = srtO t
    rw [u1_n (by omega), u1_s]
    try decide
  have e1 : wrs g [(q, srtO t), (q + 1, v)] (q + 1) = v := by
    show u1 (u1 g q (srtO t)) (q + 1) (v) (q + 1) = v
    rw [u1_s]
  unfold JC
  rw [e0, e1, st.2]
  exact ⟨rfl, by omega, fun z => by omega, fun z => by omega, fun z => by omega, fun z => by omega, fun z => by omega, fun z => by omega⟩
theorem cf_7 {v1 v2 v3 : Int} {L : List (Int × Int)} (h1 : 0 ≤ v1 ∧ v1 ≤ 99) (h2 : 0 ≤ v2 ∧ v2 ≤ 99) (h3 : 0 ≤ v3 ∧ v3 ≤ 80) : CF8 q 7 [(q, srtO 7), (q + 1, v1), (q + 2, v2), (q + 3, v3)] L := by
  refine ⟨fun x hx => ?_, fun g => ?_⟩
  · simp only [List.mem_cons, List.not_mem_nil, or_false] at hx
    rcases hx with rfl | rfl | rfl | rfl <;> (constructor <;> simp only <;> omega)
  have e0 : wrs g [(q, srtO 7), (q + 1, v1), (q + 2, v2), (q + 3, v3)] q = 7 := by
    show u1 (u1 (u1 (u1 g q (srtO 7)) (q + 1) (v1)) (q + 2) (v2)) (q + 3) (v3) q = 7
    rw [u1_n (by omega), u1_n (by omega), u1_n (by omega), u1_s]
    try decide
  have e1 : wrs g [(q, srtO 7), (q + 1, v1), (q + 2, v2), (q + 3, v3)] (q + 1) = v1 := by
    show u1 (u1 (u1 (u1 g q (srtO 7)) (q + 1) (v1)) (q + 2) (v2)) (q + 3) (v3) (q + 1) = v1
    rw [u1_n (by omega), u1_n (by omega), u1_s]
  have e2 : wrs g [(q, srtO 7), (q + 1, v1), (q + 2, v2), (q + 3, v3)] (q + 2) = v2 := by
    show u1 (u1 (u1 (u1 g q (srtO 7)) (q + 1) (v1)) (q + 2) (v2)) (q + 3) (v3) (q + 2) = v2
    rw [u1_n (by omega), u1_s]
  have e3 : wrs g [(q, srtO 7), (q + 1, v1), (q + 2, v2), (q + 3, v3)] (q + 3) = v3 := by
    show u1 (u1 (u1 (u1 g q (srtO 7)) (q + 1) (v1)) (q + 2) (v2)) (q + 3) (v3) (q + 3) = v3
    rw [u1_s]
  unfold JC
  rw [e0, e1, e2, e3]
  exact ⟨by decide, by omega, fun z => by omega, fun z => by omega, fun _ => ⟨h1, h2, h3⟩, fun z => by omega, fun z => by omega, fun z => by omega⟩
theorem cls_w (hT : TB T n) (h0 : 0 ≤ s) (h1 : s ≤ n) {Lp : List (Int × Int)} (e : (clsO T n m q Lp.length s).1 = 0) : CF8 q (tk T n s) (clsO T n m q Lp.length s).2.2.2 (Lp ++ (clsO T n m q Lp.length s).2.2.1) ∧ s < (clsO T n m q Lp.length s).2.1 ∧ (clsO T n m q Lp.length s).2.1 ≤ n := by
  have n3 := hT.1.2
  obtain ⟨h24, ht, hb, ec⟩ := cl_i e
  have t9 := (srtO_b (tk T n s)).2.2.2.2.2.2.2.2 ht
  have nb := nx_b (T := T) (tk_n (T := T) (n := n) (s := s) (by omega))
  have ck := clsO_k (T := T) n3 (m := m) (q := q) (c := Lp.length) (s := s) h0 e
  refine ⟨?_, by omega, by omega⟩
  rw [ec]
  show CF8 q (tk T n s) ((q, srtO (tk T n s)) :: (bodyO T n q Lp.length (tk T n s) (nx T n s)).2.2.2) (Lp ++ (bodyO T n q Lp.length (tk T n s) (nx T n s)).2.2.1)
  have tt : tk T n s = 3 ∨ tk T n s = 4 ∨ tk T n s = 5 ∨ tk T n s = 7 ∨ (tk T n s = 6 ∨ tk T n s = 8 ∨ tk T n s = 9) := by omega
  rcases tt with t | t | t | t | t
  · rw [t, bo_3] at hb ⊢
    have a0 := sm_i hb
    rw [sm_v a0]
    have w := wz_s8 hT (k := 8) (by omega) (s := nx T n s) (m := 0) (b := 0) (by omega) (by omega) (by omega) (by omega) (by omega) a0
    have sg := SG_i (L0 := Lp) (M := (sumO T n (oneK T n 8) (nx T n s)).2.2) (L1 := []) rfl rfl w
    rw [List.append_nil] at sg
    exact cf_3 sg
  · rw [t, bo_4] at hb ⊢
    obtain ⟨b1, b2⟩ := bnd_i hb
    have nu := numO_0 b1
    rw [nu.1] at b2
    obtain ⟨c1, a0⟩ := ad_i (s := nx T n (nx T n s)) b2
    have nb2 := nx_b (T := T) (tk_n (T := T) (n := n) (s := nx T n s) (by omega))
    have nb3 := nx_b (T := T) (tk_n (T := T) (n := n) (s := nx T n (nx T n s)) (by omega))
    rw [bnd_v nu.1 (ad_v c1 a0)]
    have w := wz_s8 hT (k := 8) (by omega) (s := nx T n (nx T n (nx T n s))) (m := 0) (b := 0) (by omega) (by omega) (by omega) (by omega) (by omega) a0
    have sg := SG_i (L0 := Lp) (M := (sumO T n (oneK T n 8) (nx T n (nx T n (nx T n s)))).2.2) (L1 := []) rfl rfl w
    rw [List.append_nil] at sg
    have tb : (if tk T n (nx T n (nx T n s)) = 11 then [(q, (2 : Int) + 1)] else []) = if (decide (tk T n (nx T n (nx T n s)) = 11)) = true then [(q, (2 : Int) + 1)] else [] := by
      by_cases z : tk T n (nx T n (nx T n s)) = 11
      · rw [if_pos z, if_pos (decide_eq_true z)]
      · rw [if_neg z, if_neg (by rw [decide_eq_false z]; decide)]
    rw [tb]
    exact cf_4 _ ⟨nu.2.2.1, nu.2.2.2⟩ sg
  · rw [t, bo_5] at hb ⊢
    obtain ⟨b1, b2⟩ := bnd_i hb
    have e0 := ei_i b1
    have ok := (eitO_ok (T := T) n3 301 (nx T n s) [] 0 0 (nx T n s) (by omega) (by omega) (by omega) (by omega) (by show (0 : Int) + 0 + 0 ≤ _; omega)).1 e0
    have w0 := wz_eit hT 301 (nx T n s) 0 0 [] (by omega) (by omega) (Or.inl rfl) (Or.inl rfl) wzL_0 e0
    rw [ei_v e0] at b2
    have ei := ei_v (q := q) (c := (Lp.length : Int)) e0
    obtain ⟨B, hB⟩ : ∃ B, B = eitO T n 301 (nx T n s) [] 0 0 := ⟨_, rfl⟩
    rw [← hB] at b2 ei ok w0 ⊢
    obtain ⟨c1, a0⟩ := ad_i (s := B.2.1) b2
    have nb3 := nx_b (T := T) (tk_n (T := T) (n := n) (s := B.2.1) (by omega))
    rw [bnd_v ei (ad_v c1 a0)]
    have w := wz_s8 hT (k := 8) (by omega) (s := nx T n B.2.1) (m := 0) (b := 0) (by omega) (by omega) (by omega) (by omega) (by omega) a0
    have sg := SG_i (L0 := Lp ++ B.2.2) (M := (sumO T n (oneK T n 8) (nx T n B.2.1)).2.2) (L1 := []) rfl rfl w
    rw [List.append_nil, len_a] at sg
    have sg2 := SG_i (L0 := Lp) (M := B.2.2) (L1 := (sumO T n (oneK T n 8) (nx T n B.2.1)).2.2) rfl rfl w0
    have tb : (if tk T n B.2.1 = 11 then [(q, (4 : Int) + 1)] else []) = if (decide (tk T n B.2.1 = 11)) = true then [(q, (4 : Int) + 1)] else [] := by
      by_cases z : tk T n B.2.1 = 11
      · rw [if_pos z, if_pos (decide_eq_true z)]
      · rw [if_neg z, if_neg (by rw [decide_eq_false z]; decide)]
    rw [tb]
    rw [List.append_assoc] at sg sg2
    exact cf_5 _ sg sg2
  · rw [t, bo_7] at hb ⊢
    obtain ⟨b1, b2⟩ := bnd_i hb
    have n1 := numO_0 b1
    rw [n1.1] at b2
    obtain ⟨b3, b4⟩ := bnd_i b2
    have n2 := nedO_0 b3
    rw [n2.1] at b4
    obtain ⟨b5, b6⟩ := bnd_i b4
    have n5 := numO_0 b5
    rw [n5.1] at b6
    obtain ⟨b7, b8⟩ := bnd_i b6
    have n7 := nedO_0 b7
    rw [n7.1] at b8
    have n9 := numO_0 b8
    rw [ag_v n1.2 n2.2 n5.2 n7.2 n9.2]
    exact cf_7 n1.2.2 ⟨Int.le_trans n1.2.2.1 n5.2.2.1, n5.2.2.2⟩ n9.2.2
  · have bo : bodyO T n q Lp.length (tk T n s) (nx T n s) = numO T n 0 (if tk T n s = 6 then 9999 else 20) (q + 1) (nx T n s) := by
      by_cases z : tk T n s = 6
      · rw [if_pos z, z, bo_6]
      · rw [if_neg z, bo_8 (by omega)]
    rw [bo] at hb ⊢
    have nu := numO_0 hb
    rw [nu.1]
    refine cf_6 ?_
    have n4 := nu.2.2.2
    by_cases z : tk T n s = 6
    · rw [if_pos z] at n4
      exact Or.inl ⟨z, nu.2.2.1, n4⟩
    · rw [if_neg z] at n4
      exact Or.inr ⟨by omega, nu.2.2.1, n4⟩
end CLF
