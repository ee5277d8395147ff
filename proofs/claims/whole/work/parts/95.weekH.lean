/-! ===== a WEEK: a HOME of the reference (segments printed by wip/whole, contracts own work) ===== -/
/-- the numbers, with those of a HOME, its SHOP and its week's books put in -/
def hG (b : Int → Int) (at_ hb sb : Int) (e n N hu lv P D C : Int) : Int → Int := fun k => if k = 22300 + at_ then e else  if k = 51100 + at_ then n else  if k = 41500 + at_ then N else  if k = 31900 + at_ then hu else  if k = 15 then lv else  if k = hb + 1 then P else  if k = hb + 2 then D else  if k = sb then C else b k
section HG
variable {b : Int → Int} {at_ hb sb : Int} {e n N hu lv P D C : Int}
abbrev hgp (at_ hb sb : Int) : Prop := (0 ≤ at_ ∧ at_ < 9600) ∧ (3460 ≤ hb ∧ hb ≤ 3644) ∧ (3428 ≤ sb ∧ sb ≤ 3452)
theorem hG_id : b = hG b at_ hb sb (b (22300 + at_)) (b (51100 + at_)) (b (41500 + at_)) (b (31900 + at_)) (b (15)) (b (hb + 1)) (b (hb + 2)) (b (sb)) := by
  funext k
  unfold hG
  repeat' split
  all_goals first | rfl | (next h => rw [h])
theorem hG_u0 {v : Int} (h : hgp at_ hb sb) : u1 b (22300 + at_) v = hG b at_ hb sb v (b (51100 + at_)) (b (41500 + at_)) (b (31900 + at_)) (b (15)) (b (hb + 1)) (b (hb + 2)) (b (sb)) := by
  funext k
  unfold u1 hG
  repeat' split
  all_goals first | rfl | (exfalso; omega) | (next h => rw [h])
theorem hG_k {k : Int} (hk : k ≠ 22300 + at_ ∧ k ≠ 51100 + at_ ∧ k ≠ 41500 + at_ ∧ k ≠ 31900 + at_ ∧ k ≠ 15 ∧ k ≠ hb + 1 ∧ k ≠ hb + 2 ∧ k ≠ sb) : hG b at_ hb sb e n N hu lv P D C k = b k := by
  unfold hG
  rw [if_neg hk.1, if_neg hk.2.1, if_neg hk.2.2.1, if_neg hk.2.2.2.1, if_neg hk.2.2.2.2.1, if_neg hk.2.2.2.2.2.1, if_neg hk.2.2.2.2.2.2.1, if_neg hk.2.2.2.2.2.2.2]
theorem hG_re (h : hgp at_ hb sb) : hG b at_ hb sb e n N hu lv P D C (22300 + at_) = e := by
  unfold hG
  rw [if_pos rfl]
theorem hG_ue {v : Int} (h : hgp at_ hb sb) : u1 (hG b at_ hb sb e n N hu lv P D C) (22300 + at_) v = hG b at_ hb sb v n N hu lv P D C := by
  funext k
  unfold u1 hG
  repeat' split
  all_goals first | rfl | (exfalso; omega)
theorem hG_rn (h : hgp at_ hb sb) : hG b at_ hb sb e n N hu lv P D C (51100 + at_) = n := by
  unfold hG
  rw [if_neg (by omega), if_pos rfl]
theorem hG_un {v : Int} (h : hgp at_ hb sb) : u1 (hG b at_ hb sb e n N hu lv P D C) (51100 + at_) v = hG b at_ hb sb e v N hu lv P D C := by
  funext k
  unfold u1 hG
  repeat' split
  all_goals first | rfl | (exfalso; omega)
theorem hG_rN (h : hgp at_ hb sb) : hG b at_ hb sb e n N hu lv P D C (41500 + at_) = N := by
  unfold hG
  rw [if_neg (by omega), if_neg (by omega), if_pos rfl]
theorem hG_uN {v : Int} (h : hgp at_ hb sb) : u1 (hG b at_ hb sb e n N hu lv P D C) (41500 + at_) v = hG b at_ hb sb e n v hu lv P D C := by
  funext k
  unfold u1 hG
  repeat' split
  all_goals first | rfl | (exfalso; omega)
theorem hG_rhu (h : hgp at_ hb sb) : hG b at_ hb sb e n N hu lv P D C (31900 + at_) = hu := by
  unfold hG
  rw [if_neg (by omega), if_neg (by omega), if_neg (by omega), if_pos rfl]
theorem hG_uhu {v : Int} (h : hgp at_ hb sb) : u1 (hG b at_ hb sb e n N hu lv P D C) (31900 + at_) v = hG b at_ hb sb e n N v lv P D C := by
  funext k
  unfold u1 hG
  repeat' split
  all_goals first | rfl | (exfalso; omega)
theorem hG_rlv (h : hgp at_ hb sb) : hG b at_ hb sb e n N hu lv P D C (15) = lv := by
  unfold hG
  rw [if_neg (by omega), if_neg (by omega), if_neg (by omega), if_neg (by omega), if_pos rfl]
theorem hG_ulv {v : Int} (h : hgp at_ hb sb) : u1 (hG b at_ hb sb e n N hu lv P D C) (15) v = hG b at_ hb sb e n N hu v P D C := by
  funext k
  unfold u1 hG
  repeat' split
  all_goals first | rfl | (exfalso; omega)
theorem hG_rP (h : hgp at_ hb sb) : hG b at_ hb sb e n N hu lv P D C (hb + 1) = P := by
  unfold hG
  rw [if_neg (by omega), if_neg (by omega), if_neg (by omega), if_neg (by omega), if_neg (by omega), if_pos rfl]
theorem hG_uP {v : Int} (h : hgp at_ hb sb) : u1 (hG b at_ hb sb e n N hu lv P D C) (hb + 1) v = hG b at_ hb sb e n N hu lv v D C := by
  funext k
  unfold u1 hG
  repeat' split
  all_goals first | rfl | (exfalso; omega)
theorem hG_rD (h : hgp at_ hb sb) : hG b at_ hb sb e n N hu lv P D C (hb + 2) = D := by
  unfold hG
  rw [if_neg (by omega), if_neg (by omega), if_neg (by omega), if_neg (by omega), if_neg (by omega), if_neg (by omega), if_pos rfl]
theorem hG_uD {v : Int} (h : hgp at_ hb sb) : u1 (hG b at_ hb sb e n N hu lv P D C) (hb + 2) v = hG b at_ hb sb e n N hu lv P v C := by
  funext k
  unfold u1 hG
  repeat' split
  all_goals first | rfl | (exfalso; omega)
theorem hG_rC (h : hgp at_ hb sb) : hG b at_ hb sb e n N hu lv P D C (sb) = C := by
  unfold hG
  rw [if_neg (by omega), if_neg (by omega), if_neg (by omega), if_neg (by omega), if_neg (by omega), if_neg (by omega), if_neg (by omega), if_pos rfl]
theorem hG_uC {v : Int} (h : hgp at_ hb sb) : u1 (hG b at_ hb sb e n N hu lv P D C) (sb) v = hG b at_ hb sb e n N hu lv P D v := by
  funext k
  unfold u1 hG
  repeat' split
  all_goals first | rfl | (exfalso; omega)
end HG
def el1 (b : Int → Int) (h k : Int) : Int := if 0 ≤ k then b (22300 + 24 * k + h) else 0
def r_el (b : Int → Int) (h w : Int) : Int := el1 b h (w - 3) + el1 b h (w - 2) + el1 b h (w - 1) + el1 b h w
def elp (b : Int → Int) (h w k : Int) : Int := (if w - 3 < k then el1 b h (w - 3) else 0) + (if w - 2 < k then el1 b h (w - 2) else 0) + (if w - 1 < k then el1 b h (w - 1) else 0) + (if w < k then el1 b h w else 0)
theorem elp_s {b : Int → Int} {h w k : Int} (hk : w - 3 ≤ k ∧ k ≤ w) : elp b h w (k + 1) = elp b h w k + el1 b h k := by
  unfold elp
  rcases (show k = w - 3 ∨ k = w - 2 ∨ k = w - 1 ∨ k = w by omega) with e | e | e | e
  all_goals
    rw [e]
    simp (disch := omega) only [if_pos, if_neg]
    omega
/-- LOAVES on TRUST -/
def wk_tr (lack C D most L F : Int) : Int := if F = 0 then max 0 (min lack (min (C / L) ((most - D) / L))) else 0
theorem wk_tr_i {lack C D most L F i : Int} (hl : 0 ≤ lack) (hL : 1 ≤ L) (hi : 0 ≤ i ∧ i ≤ wk_tr lack C D most L F) : (i < wk_tr lack C D most L F → i < lack ∧ F = 0 ∧ L ≤ C - i * L ∧ D + i * L + L ≤ most) ∧ (i = wk_tr lack C D most L F → lack ≤ i ∨ F ≠ 0 ∨ C - i * L < L ∨ most < D + i * L + L) := by
  unfold wk_tr at *
  by_cases c : F = 0
  · rw [if_pos c] at hi ⊢
    have x1 : (i + 1 ≤ C / L) ↔ (i + 1) * L ≤ C := Int.le_ediv_iff_mul_le (by omega)
    have x2 : (i + 1 ≤ (most - D) / L) ↔ (i + 1) * L ≤ most - D := Int.le_ediv_iff_mul_le (by omega)
    have e : (i + 1) * L = i * L + L := by rw [Int.add_mul, Int.one_mul]
    rw [e] at x1 x2
    refine ⟨fun h => ⟨by omega, c, ?_, ?_⟩, fun h => ?_⟩
    · have := x1.mp (by omega); omega
    · have := x2.mp (by omega); omega
    · by_cases c1 : lack ≤ i
      · exact Or.inl c1
      · by_cases c2 : i + 1 ≤ C / L
        · have c3 : ¬ (i + 1 ≤ (most - D) / L) := by omega
          right; right; right
          have := fun q => c3 (x2.mpr q)
          omega
        · right; right; left
          have := fun q => c2 (x1.mpr q)
          omega
  · rw [if_neg c] at hi ⊢
    exact ⟨fun h => by omega, fun _ => Or.inr (Or.inl c)⟩
theorem wk_tr_b {lack C D most L F : Int} (hl : 0 ≤ lack) (hL : 1 ≤ L) : (0 ≤ wk_tr lack C D most L F ∧ wk_tr lack C D most L F ≤ lack) ∧ (0 < wk_tr lack C D most L F → wk_tr lack C D most L F * L ≤ C) ∧ 0 ≤ wk_tr lack C D most L F * L := by
  have b : 0 ≤ wk_tr lack C D most L F ∧ wk_tr lack C D most L F ≤ lack := by
    unfold wk_tr
    split <;> omega
  refine ⟨b, fun h => ?_, Int.mul_nonneg b.1 (by omega)⟩
  have q := (wk_tr_i (C := C) (D := D) (most := most) (F := F) (i := wk_tr lack C D most L F - 1) hl hL (by omega)).1 (by omega)
  have e : wk_tr lack C D most L F * L = (wk_tr lack C D most L F - 1) * L + L := by rw [Int.sub_mul, Int.one_mul]; omega
  omega
def hg_e (b : Int → Int) (h n : Int) : Int := sI (fun p => if b (3652 + 12 * p + 0) = h then b (3652 + 12 * p + 8) else 0) n
def hg_P1 (b : Int → Int) (h : Int) : Int := b (3460 + 8 * h + 1) + hg_e b h (b 4)
def hg_n (b : Int → Int) (L h : Int) : Int := if (hg_P1 b h).tdiv L < r_need b h then (hg_P1 b h).tdiv L else r_need b h
def hg_s (b : Int → Int) (h : Int) : Int := b (3460 + 8 * h + 0)
def hg_el (b : Int → Int) (h : Int) : Int := el1 b h (b 0 - 3) + el1 b h (b 0 - 2) + el1 b h (b 0 - 1) + hg_e b h (b 4)
def hg_mo (b : Int → Int) (h : Int) : Int := (b (3428 + 8 * hg_s b h + 1) * hg_el b h).tdiv 400
def hg_k (b : Int → Int) (L h : Int) : Int := wk_tr (r_need b h - hg_n b L h) (b (3428 + 8 * hg_s b h)) (b (3460 + 8 * h + 2)) (hg_mo b h) L (b (3428 + 8 * hg_s b h + 3))
def hg_N (b : Int → Int) (L h : Int) : Int := hg_n b L h + hg_k b L h
def hg_P2 (b : Int → Int) (L h : Int) : Int := hg_P1 b h - hg_n b L h * L
def hg_D2 (b : Int → Int) (L h : Int) : Int := b (3460 + 8 * h + 2) + hg_k b L h * L
def hg_C2 (b : Int → Int) (L h : Int) : Int := b (3428 + 8 * hg_s b h) - hg_k b L h * L
def hg_bk (b : Int → Int) (L h : Int) : Int := if r_need b h ≤ hg_N b L h then (if hg_P2 b L h < hg_D2 b L h then hg_P2 b L h else hg_D2 b L h) else 0
/-- a HOME's WEEK -/
def r_hg (b : Int → Int) (L h : Int) : Int → Int := hG b (24 * b 0 + h) (3460 + 8 * h) (3428 + 8 * hg_s b h) (hg_e b h (b 4)) (hg_n b L h) (hg_N b L h) (r_need b h - hg_N b L h) (b 15 + hg_N b L h) (hg_P2 b L h - hg_bk b L h) (hg_D2 b L h - hg_bk b L h) (hg_C2 b L h + hg_bk b L h)
/-- what is asked of the numbers for that -/
def HP (b : Int → Int) (L h : Int) : Prop := ((0 ≤ b 0 ∧ b 0 ≤ 399) ∧ (0 ≤ h ∧ h < 24) ∧ (0 ≤ b 4 ∧ b 4 ≤ 60) ∧ (1 ≤ L ∧ L ≤ 100000) ∧ (0 ≤ b 15 ∧ b 15 ≤ 100000000)) ∧ (∀ n, 0 ≤ n → n ≤ b 4 → 0 ≤ hg_e b h n ∧ hg_e b h n ≤ 400000000) ∧ ((0 ≤ hg_s b h ∧ hg_s b h < 4) ∧ (0 ≤ b (3460 + 8 * h + 1) ∧ b (3460 + 8 * h + 1) ≤ 650000000) ∧ 0 ≤ b (3460 + 8 * h + 2)) ∧ (-1000 ≤ b (3428 + 8 * hg_s b h) ∧ b (3428 + 8 * hg_s b h) + b (3460 + 8 * h + 2) ≤ 100000 ∧ (b (3428 + 8 * hg_s b h + 3) = 0 → 0 ≤ b (3428 + 8 * hg_s b h)) ∧ (0 ≤ b (3428 + 8 * hg_s b h + 1) ∧ b (3428 + 8 * hg_s b h + 1) ≤ 400)) ∧ ∀ k, 0 ≤ k → k < b 0 → 0 ≤ b (22300 + 24 * k + h) ∧ b (22300 + 24 * k + h) ≤ 500000000
theorem HP_b {b : Int → Int} {L h : Int} (H : HP b L h) : (0 ≤ hg_P1 b h ∧ hg_P1 b h ≤ 1050000000) ∧ (0 ≤ (hg_P1 b h).tdiv L ∧ (hg_P1 b h).tdiv L ≤ 1050000000) ∧ (0 ≤ hg_n b L h ∧ hg_n b L h ≤ r_need b h) ∧ (0 ≤ r_need b h ∧ r_need b h ≤ 240) ∧ (0 ≤ hg_n b L h * L ∧ hg_n b L h * L ≤ hg_P1 b h) ∧ (0 ≤ hg_el b h ∧ hg_el b h ≤ 1900000000) ∧ (0 ≤ b (3428 + 8 * hg_s b h + 1) * hg_el b h ∧ b (3428 + 8 * hg_s b h + 1) * hg_el b h ≤ 760000000000) ∧ (0 ≤ hg_mo b h ∧ hg_mo b h ≤ 1900000000) ∧ (0 ≤ hg_k b L h ∧ hg_k b L h ≤ r_need b h - hg_n b L h) ∧ (0 ≤ hg_P2 b L h ∧ hg_P2 b L h ≤ hg_P1 b h) ∧ (0 ≤ hg_D2 b L h ∧ hg_D2 b L h ≤ 101000) ∧ (-1000 ≤ hg_C2 b L h ∧ (b (3428 + 8 * hg_s b h + 3) = 0 → 0 ≤ hg_C2 b L h) ∧ hg_C2 b L h + hg_D2 b L h ≤ 100000 ∧ hg_C2 b L h ≤ b (3428 + 8 * hg_s b h)) ∧ (0 ≤ hg_bk b L h ∧ hg_bk b L h ≤ hg_P2 b L h ∧ hg_bk b L h ≤ hg_D2 b L h) := by
  obtain ⟨⟨h0, hh, h4, hL, h15⟩, he, ⟨hs, hp, hd⟩, ⟨hc1, hc2, hc3, ht⟩, hk⟩ := H
  have E := he (b 4) h4.1 (Int.le_refl _)
  have nd : 0 ≤ r_need b h ∧ r_need b h ≤ 240 := r_need_b h4
  have P1 : 0 ≤ hg_P1 b h ∧ hg_P1 b h ≤ 1050000000 := by unfold hg_P1; omega
  have q := Int.tdiv_eq_ediv_of_nonneg P1.1 (b := L)
  have q0 : 0 ≤ hg_P1 b h / L := Int.ediv_nonneg P1.1 (by omega)
  have q1 : hg_P1 b h / L ≤ hg_P1 b h := Int.ediv_le_self _ P1.1
  have n : 0 ≤ hg_n b L h ∧ hg_n b L h ≤ r_need b h ∧ hg_n b L h ≤ hg_P1 b h / L := by
    unfold hg_n; rw [q]; split <;> omega
  have nL : hg_n b L h * L ≤ hg_P1 b h := (Int.le_ediv_iff_mul_le (by omega)).mp n.2.2
  have nL0 : 0 ≤ hg_n b L h * L := Int.mul_nonneg n.1 (by omega)
  have e1 : ∀ k, k < b 0 → 0 ≤ el1 b h k ∧ el1 b h k ≤ 500000000 := fun k hk' => by
    unfold el1
    split
    · next c => exact hk k c hk'
    · omega
  have a1 := e1 (b 0 - 3) (by omega)
  have a2 := e1 (b 0 - 2) (by omega)
  have a3 := e1 (b 0 - 1) (by omega)
  have el : 0 ≤ hg_el b h ∧ hg_el b h ≤ 1900000000 := by unfold hg_el; omega
  have m0 : 0 ≤ b (3428 + 8 * hg_s b h + 1) * hg_el b h := Int.mul_nonneg ht.1 el.1
  have m1 : b (3428 + 8 * hg_s b h + 1) * hg_el b h ≤ 400 * 1900000000 := Int.mul_le_mul ht.2 el.2 el.1 (by omega)
  have mo : 0 ≤ hg_mo b h ∧ hg_mo b h ≤ 1900000000 := by
    unfold hg_mo
    rw [Int.tdiv_eq_ediv_of_nonneg m0]
    omega
  have k := wk_tr_b (lack := r_need b h - hg_n b L h) (C := b (3428 + 8 * hg_s b h)) (D := b (3460 + 8 * h + 2)) (most := hg_mo b h) (L := L) (F := b (3428 + 8 * hg_s b h + 3)) (by omega) hL.1
  have ek : hg_k b L h = wk_tr (r_need b h - hg_n b L h) (b (3428 + 8 * hg_s b h)) (b (3460 + 8 * h + 2)) (hg_mo b h) L (b (3428 + 8 * hg_s b h + 3)) := rfl
  rw [← ek] at k
  have kc : hg_k b L h * L ≤ b (3428 + 8 * hg_s b h) ∨ hg_k b L h * L = 0 := by
    by_cases c : 0 < hg_k b L h
    · exact Or.inl (k.2.1 c)
    · right
      rw [show hg_k b L h = 0 by omega, Int.zero_mul]
  have P2 : 0 ≤ hg_P2 b L h ∧ hg_P2 b L h ≤ hg_P1 b h := by unfold hg_P2; omega
  have D2 : 0 ≤ hg_D2 b L h ∧ hg_D2 b L h ≤ 101000 := by unfold hg_D2; omega
  have C2 : -1000 ≤ hg_C2 b L h ∧ (b (3428 + 8 * hg_s b h + 3) = 0 → 0 ≤ hg_C2 b L h) ∧ hg_C2 b L h + hg_D2 b L h ≤ 100000 ∧ hg_C2 b L h ≤ b (3428 + 8 * hg_s b h) := by unfold hg_C2 hg_D2; omega
  have bk : 0 ≤ hg_bk b L h ∧ hg_bk b L h ≤ hg_P2 b L h ∧ hg_bk b L h ≤ hg_D2 b L h := by
    unfold hg_bk
    repeat' split
    all_goals omega
  exact ⟨P1, by rw [q]; omega, ⟨n.1, n.2.1⟩, nd, ⟨nL0, nL⟩, el, ⟨m0, by omega⟩, mo, k.1, P2, D2, C2, bk⟩
-- method 289: MillTownModel.earnedLately(II)I
theorem c_289_0 : pg_cd 289 0 = (1, 1, 0, 0, 0) := by decide +kernel
theorem c_289_1 : pg_cd 289 1 = (6, 1, 0, 3, 0) := by decide +kernel
theorem c_289_2 : pg_cd 289 2 = (3, 1, 0, 2, 0) := by decide +kernel
theorem c_289_3 : pg_cd 289 3 = (1, 1, 0, 0, 3) := by decide +kernel
theorem c_289_4 : pg_cd 289 4 = (37, 3, 0, 5, 9) := by decide +kernel
theorem c_289_7 : pg_cd 289 7 = (3, 1, 0, 2, 0) := by decide +kernel
theorem c_289_8 : pg_cd 289 8 = (1, 1, 0, 0, 3) := by decide +kernel
theorem c_289_9 : pg_cd 289 9 = (11, 1, 0, 0, 0) := by decide +kernel
theorem c_289_10 : pg_cd 289 10 = (38, 3, 0, 0, 4) := by decide +kernel
theorem c_289_13 : pg_cd 289 13 = (1, 1, 0, 0, 0) := by decide +kernel
theorem c_289_14 : pg_cd 289 14 = (6, 2, 0, 4, 0) := by decide +kernel
theorem c_289_16 : pg_cd 289 16 = (3, 2, 0, 4, 0) := by decide +kernel
theorem c_289_18 : pg_cd 289 18 = (3, 1, 0, 2, 0) := by decide +kernel
theorem c_289_19 : pg_cd 289 19 = (37, 3, 0, 4, 28) := by decide +kernel
theorem c_289_22 : pg_cd 289 22 = (3, 1, 0, 3, 0) := by decide +kernel
theorem c_289_23 : pg_cd 289 23 = (5, 1, 0, 0, 0) := by decide +kernel
theorem c_289_24 : pg_cd 289 24 = (45, 12, 8, 0, 0) := by decide +kernel
theorem c_289_27 : pg_cd 289 27 = (1, 3, 0, 0, 22300) := by decide +kernel
theorem c_289_30 : pg_cd 289 30 = (1, 2, 0, 0, 24) := by decide +kernel
theorem c_289_32 : pg_cd 289 32 = (3, 2, 0, 4, 0) := by decide +kernel
theorem c_289_34 : pg_cd 289 34 = (12, 1, 0, 0, 0) := by decide +kernel
theorem c_289_35 : pg_cd 289 35 = (10, 1, 0, 0, 0) := by decide +kernel
theorem c_289_36 : pg_cd 289 36 = (3, 1, 0, 1, 0) := by decide +kernel
theorem c_289_37 : pg_cd 289 37 = (10, 1, 0, 0, 0) := by decide +kernel
theorem c_289_38 : pg_cd 289 38 = (50, 1, 0, 0, 0) := by decide +kernel
theorem c_289_39 : pg_cd 289 39 = (10, 1, 0, 0, 0) := by decide +kernel
theorem c_289_40 : pg_cd 289 40 = (6, 1, 0, 3, 0) := by decide +kernel
theorem c_289_41 : pg_cd 289 41 = (9, 3, 0, 4, 1) := by decide +kernel
theorem c_289_44 : pg_cd 289 44 = (38, 3, 0, 0, (-28)) := by decide +kernel
theorem c_289_47 : pg_cd 289 47 = (3, 1, 0, 3, 0) := by decide +kernel
theorem c_289_48 : pg_cd 289 48 = (90, 0, 0, 0, 0) := by decide +kernel
theorem mi_289 : pg_mc 289 = 12 ∧ pg_na 289 = 2 ∧ pg_mx 289 = 5 := by decide +kernel
set_option maxRecDepth 20000 in
theorem u_289_0 {d : Nat} {S : zS} {σ τ : zI} {Q : zQ} {x1 : Int} {x2 : Int} (t : (rg x2) ∧ if x2 ≤ 3 then (wi (d + 0) 289 16 [.ref 83, .int (wI x1), .int (wI x2), .int (wI 0), .int (wI 0)] [] S σ τ Q) else (wi (d + 0) 289 16 [.ref 83, .int (wI x1), .int (wI x2), .int (wI 0), .int (wI (x2 - 3))] [] S σ τ Q)) : wi (d + 0) 289 0 [.ref 83, .int (wI x1), .int (wI x2), .retAddr 0, .retAddr 0] [] S σ τ Q := by
  obtain ⟨r1, t⟩ := t
  refine i1 c_289_0 (i6 (L' := [.ref 83, .int (wI x1), .int (wI x2), .int (wI 0), .retAddr 0]) c_289_1 rfl (i3 c_289_2 rfl (i1 c_289_3 ?_)))
  refine i37 c_289_4 r1 (by decide) rfl (fun hc => ?_) (fun hc => ?_)
  · have t := iT t hc
    have ha2 : x2 ≤ 3 := hc
    refine i1 c_289_13 (i6 (L' := [.ref 83, .int (wI x1), .int (wI x2), .int (wI 0), .int (wI 0)]) c_289_14 rfl t)
  · have t := iF t hc
    have ha2 : ¬ (x2 ≤ 3) := hc
    refine i3 c_289_7 rfl (i1 c_289_8 (i11 c_289_9 (i38 c_289_10 rfl (i6 (L' := [.ref 83, .int (wI x1), .int (wI x2), .int (wI 0), .int (wI (x2 - 3))]) c_289_14 rfl t))))
set_option maxRecDepth 20000 in
theorem u_289_16 {d : Nat} {S : zS} {σ τ : zI} {Q : zQ} {x1 : Int} {x2 : Int} {x3 : Int} {x4 : Int} (t : (rg x4) ∧ (rg x2) ∧ if x2 < x4 then (Q (some (.int (wI x3))) S σ τ) else ((0 ≤ (22300 + (24 * x4)) + x1 ∧ (22300 + (24 * x4)) + x1 < 112300) ∧ wi (d + 0) 289 16 [.ref 83, .int (wI x1), .int (wI x2), .int (wI (x3 + (σ 84 ((22300 + (24 * x4)) + x1)))), .int (wI (x4 + 1))] [] S σ τ Q)) : wi (d + 0) 289 16 [.ref 83, .int (wI x1), .int (wI x2), .int (wI x3), .int (wI x4)] [] S σ τ Q := by
  obtain ⟨r1, t⟩ := t
  obtain ⟨r2, t⟩ := t
  refine i3 c_289_16 rfl (i3 c_289_18 rfl ?_)
  refine i37 c_289_19 r1 r2 rfl (fun hc => ?_) (fun hc => ?_)
  · have t := iT t hc
    have ha3 : x2 < x4 := hc
    refine i3 c_289_47 rfl ?_
    exact i90 c_289_48 t
  · have t := iF t hc
    have ha3 : ¬ (x2 < x4) := hc
    obtain ⟨r4, t⟩ := t
    refine i3 c_289_22 rfl (i5 c_289_23 rfl (i45 c_289_24 (lo (c := 83) (kd := 112) (n := 0) rfl (by decide)) (lro (c := 83) (k := 0) (j := 84) (by decide)) (i1 c_289_27 (i1 c_289_30 (i3 c_289_32 rfl (i12 c_289_34 (i10 c_289_35 (i3 c_289_36 rfl (i10 c_289_37 (wi_ok (fun K5 => ?_)))))))))))
    refine i50 (v := σ 84 ((22300 + (24 * x4)) + x1)) c_289_38 (lo (c := 84) (kd := 0) (n := 112300) rfl (by decide)) (by decide) r4 rfl (i10 c_289_39 (i6 (L' := [.ref 83, .int (wI x1), .int (wI x2), .int (wI (x3 + (σ 84 ((22300 + (24 * x4)) + x1)))), .int (wI x4)]) c_289_40 rfl (i9 (L' := [.ref 83, .int (wI x1), .int (wI x2), .int (wI (x3 + (σ 84 ((22300 + (24 * x4)) + x1)))), .int (wI (x4 + 1))]) c_289_41 rfl rfl (i38 c_289_44 rfl t))))
theorem q_289 {d : Nat} {S : zS} {σ τ : zI} {Q : zQ} {h : Int} {w : Int} (p0 : 0 ≤ h ∧ h < (24 : Int)) (p1 : 0 ≤ w ∧ w ≤ (399 : Int)) (t : Q (some (.int (wI (r_el (σ 84) h w)))) S σ τ) : wc (d + 0) 289 [.ref 83, .int (wI h), .int (wI w)] S σ τ Q := by
  refine wc_of mi_289 rfl (u_289_0 ?_)
  have key : ∀ k, 0 ≤ k → k ≤ w + 1 → w - 3 ≤ k → wi (d + 0) 289 16 [.ref 83, .int (wI h), .int (wI w), .int (wI (elp (σ 84) h w k)), .int (wI k)] [] S σ τ Q := by
    refine lp_up (fun k q0 q1 ih => ?_)
    intro q2
    refine u_289_16 ⟨by omega, by omega, ifI (fun e => ?_) (fun e => ⟨by omega, ?_⟩)⟩
    · have e : k = w + 1 := by omega
      subst e
      have : elp (σ 84) h w (w + 1) = r_el (σ 84) h w := by
        unfold elp r_el
        simp (disch := omega) only [if_pos]
      rw [this]
      exact t
    · have ih := ih (by omega) (by omega)
      rw [elp_s (by omega)] at ih
      have : el1 (σ 84) h k = σ 84 (22300 + 24 * k + h) := if_pos q0
      rw [this] at ih
      exact ih
  refine ⟨by omega, ifI (fun e => ?_) (fun e => ?_)⟩
  · have k := key 0 (by omega) (by omega) (by omega)
    have : elp (σ 84) h w 0 = 0 := by
      unfold elp el1
      repeat' split
      all_goals omega
    rw [this] at k
    exact k
  · have k := key (w - 3) (by omega) (by omega) (by omega)
    have : elp (σ 84) h w (w - 3) = 0 := by
      unfold elp
      simp (disch := omega) only [if_neg]
      rfl
    rw [this] at k
    exact k
theorem hgp_of {b : Int → Int} {L h : Int} (H : HP b L h) : hgp (24 * b 0 + h) (3460 + 8 * h) (3428 + 8 * hg_s b h) := by
  obtain ⟨⟨h0, hh, h4, hL, h15⟩, he, ⟨hs, hp, hd⟩, _⟩ := H
  omega
-- method 290: MillTownModel.homeGoes(II)V
theorem c_290_0 : pg_cd 290 0 = (1, 3, 0, 0, 3460) := by decide +kernel
theorem c_290_3 : pg_cd 290 3 = (1, 2, 0, 0, 8) := by decide +kernel
theorem c_290_5 : pg_cd 290 5 = (3, 1, 0, 1, 0) := by decide +kernel
theorem c_290_6 : pg_cd 290 6 = (12, 1, 0, 0, 0) := by decide +kernel
theorem c_290_7 : pg_cd 290 7 = (10, 1, 0, 0, 0) := by decide +kernel
theorem c_290_8 : pg_cd 290 8 = (6, 1, 0, 3, 0) := by decide +kernel
theorem c_290_9 : pg_cd 290 9 = (1, 3, 0, 0, 3428) := by decide +kernel
theorem c_290_12 : pg_cd 290 12 = (1, 2, 0, 0, 8) := by decide +kernel
theorem c_290_14 : pg_cd 290 14 = (5, 1, 0, 0, 0) := by decide +kernel
theorem c_290_15 : pg_cd 290 15 = (45, 12, 8, 0, 0) := by decide +kernel
theorem c_290_18 : pg_cd 290 18 = (3, 1, 0, 3, 0) := by decide +kernel
theorem c_290_19 : pg_cd 290 19 = (1, 1, 0, 0, 0) := by decide +kernel
theorem c_290_20 : pg_cd 290 20 = (10, 1, 0, 0, 0) := by decide +kernel
theorem c_290_21 : pg_cd 290 21 = (50, 1, 0, 0, 0) := by decide +kernel
theorem c_290_22 : pg_cd 290 22 = (12, 1, 0, 0, 0) := by decide +kernel
theorem c_290_23 : pg_cd 290 23 = (10, 1, 0, 0, 0) := by decide +kernel
theorem c_290_24 : pg_cd 290 24 = (6, 2, 0, 4, 0) := by decide +kernel
theorem c_290_26 : pg_cd 290 26 = (1, 2, 0, 0, 24) := by decide +kernel
theorem c_290_28 : pg_cd 290 28 = (3, 1, 0, 2, 0) := by decide +kernel
theorem c_290_29 : pg_cd 290 29 = (12, 1, 0, 0, 0) := by decide +kernel
theorem c_290_30 : pg_cd 290 30 = (3, 1, 0, 1, 0) := by decide +kernel
theorem c_290_31 : pg_cd 290 31 = (10, 1, 0, 0, 0) := by decide +kernel
theorem c_290_32 : pg_cd 290 32 = (6, 2, 0, 5, 0) := by decide +kernel
theorem c_290_34 : pg_cd 290 34 = (1, 1, 0, 0, 0) := by decide +kernel
theorem c_290_35 : pg_cd 290 35 = (6, 2, 0, 6, 0) := by decide +kernel
theorem c_290_37 : pg_cd 290 37 = (1, 1, 0, 0, 0) := by decide +kernel
theorem c_290_38 : pg_cd 290 38 = (6, 2, 0, 7, 0) := by decide +kernel
theorem c_290_40 : pg_cd 290 40 = (3, 2, 0, 7, 0) := by decide +kernel
theorem c_290_42 : pg_cd 290 42 = (5, 1, 0, 0, 0) := by decide +kernel
theorem c_290_43 : pg_cd 290 43 = (45, 12, 8, 0, 0) := by decide +kernel
theorem c_290_46 : pg_cd 290 46 = (1, 1, 0, 0, 4) := by decide +kernel
theorem c_290_47 : pg_cd 290 47 = (50, 1, 0, 0, 0) := by decide +kernel
theorem c_290_48 : pg_cd 290 48 = (37, 3, 0, 3, 33) := by decide +kernel
theorem c_290_51 : pg_cd 290 51 = (5, 1, 0, 0, 0) := by decide +kernel
theorem c_290_52 : pg_cd 290 52 = (3, 2, 0, 7, 0) := by decide +kernel
theorem c_290_54 : pg_cd 290 54 = (1, 1, 0, 0, 0) := by decide +kernel
theorem c_290_55 : pg_cd 290 55 = (80, 199, 102, 0, 0) := by decide +kernel
theorem c_290_58 : pg_cd 290 58 = (3, 1, 0, 1, 0) := by decide +kernel
theorem c_290_59 : pg_cd 290 59 = (37, 3, 0, 1, 16) := by decide +kernel
theorem c_290_62 : pg_cd 290 62 = (3, 2, 0, 6, 0) := by decide +kernel
theorem c_290_64 : pg_cd 290 64 = (5, 1, 0, 0, 0) := by decide +kernel
theorem c_290_65 : pg_cd 290 65 = (3, 2, 0, 7, 0) := by decide +kernel
theorem c_290_67 : pg_cd 290 67 = (1, 2, 0, 0, 8) := by decide +kernel
theorem c_290_69 : pg_cd 290 69 = (80, 199, 102, 0, 0) := by decide +kernel
theorem c_290_72 : pg_cd 290 72 = (10, 1, 0, 0, 0) := by decide +kernel
theorem c_290_73 : pg_cd 290 73 = (6, 2, 0, 6, 0) := by decide +kernel
theorem c_290_75 : pg_cd 290 75 = (9, 3, 0, 7, 1) := by decide +kernel
theorem c_290_78 : pg_cd 290 78 = (38, 3, 0, 0, (-38)) := by decide +kernel
theorem c_290_81 : pg_cd 290 81 = (5, 1, 0, 0, 0) := by decide +kernel
theorem c_290_82 : pg_cd 290 82 = (45, 12, 8, 0, 0) := by decide +kernel
theorem c_290_85 : pg_cd 290 85 = (1, 3, 0, 0, 22300) := by decide +kernel
theorem c_290_88 : pg_cd 290 88 = (3, 2, 0, 5, 0) := by decide +kernel
theorem c_290_90 : pg_cd 290 90 = (10, 1, 0, 0, 0) := by decide +kernel
theorem c_290_91 : pg_cd 290 91 = (3, 2, 0, 6, 0) := by decide +kernel
theorem c_290_93 : pg_cd 290 93 = (54, 1, 0, 0, 0) := by decide +kernel
theorem c_290_94 : pg_cd 290 94 = (5, 1, 0, 0, 0) := by decide +kernel
theorem c_290_95 : pg_cd 290 95 = (45, 12, 8, 0, 0) := by decide +kernel
theorem c_290_98 : pg_cd 290 98 = (3, 1, 0, 3, 0) := by decide +kernel
theorem c_290_99 : pg_cd 290 99 = (1, 1, 0, 0, 1) := by decide +kernel
theorem c_290_100 : pg_cd 290 100 = (10, 1, 0, 0, 0) := by decide +kernel
theorem c_290_101 : pg_cd 290 101 = (34, 1, 0, 0, 0) := by decide +kernel
theorem c_290_102 : pg_cd 290 102 = (50, 1, 0, 0, 0) := by decide +kernel
theorem c_290_103 : pg_cd 290 103 = (3, 2, 0, 6, 0) := by decide +kernel
theorem c_290_105 : pg_cd 290 105 = (10, 1, 0, 0, 0) := by decide +kernel
theorem c_290_106 : pg_cd 290 106 = (54, 1, 0, 0, 0) := by decide +kernel
theorem c_290_107 : pg_cd 290 107 = (5, 1, 0, 0, 0) := by decide +kernel
theorem c_290_108 : pg_cd 290 108 = (3, 1, 0, 1, 0) := by decide +kernel
theorem c_290_109 : pg_cd 290 109 = (80, 288, 370, 0, 0) := by decide +kernel
theorem c_290_112 : pg_cd 290 112 = (6, 2, 0, 7, 0) := by decide +kernel
theorem c_290_114 : pg_cd 290 114 = (5, 1, 0, 0, 0) := by decide +kernel
theorem c_290_115 : pg_cd 290 115 = (45, 12, 8, 0, 0) := by decide +kernel
theorem c_290_118 : pg_cd 290 118 = (3, 1, 0, 3, 0) := by decide +kernel
theorem c_290_119 : pg_cd 290 119 = (1, 1, 0, 0, 1) := by decide +kernel
theorem c_290_120 : pg_cd 290 120 = (10, 1, 0, 0, 0) := by decide +kernel
theorem c_290_121 : pg_cd 290 121 = (50, 1, 0, 0, 0) := by decide +kernel
theorem c_290_122 : pg_cd 290 122 = (5, 1, 0, 0, 0) := by decide +kernel
theorem c_290_123 : pg_cd 290 123 = (43, 12, 373, 30, 0) := by decide +kernel
theorem c_290_126 : pg_cd 290 126 = (16, 1, 0, 0, 0) := by decide +kernel
theorem c_290_127 : pg_cd 290 127 = (3, 2, 0, 7, 0) := by decide +kernel
theorem c_290_129 : pg_cd 290 129 = (37, 3, 0, 3, 19) := by decide +kernel
theorem c_290_132 : pg_cd 290 132 = (5, 1, 0, 0, 0) := by decide +kernel
theorem c_290_133 : pg_cd 290 133 = (45, 12, 8, 0, 0) := by decide +kernel
theorem c_290_136 : pg_cd 290 136 = (3, 1, 0, 3, 0) := by decide +kernel
theorem c_290_137 : pg_cd 290 137 = (1, 1, 0, 0, 1) := by decide +kernel
theorem c_290_138 : pg_cd 290 138 = (10, 1, 0, 0, 0) := by decide +kernel
theorem c_290_139 : pg_cd 290 139 = (50, 1, 0, 0, 0) := by decide +kernel
theorem c_290_140 : pg_cd 290 140 = (5, 1, 0, 0, 0) := by decide +kernel
theorem c_290_141 : pg_cd 290 141 = (43, 12, 373, 30, 0) := by decide +kernel
theorem c_290_144 : pg_cd 290 144 = (16, 1, 0, 0, 0) := by decide +kernel
theorem c_290_145 : pg_cd 290 145 = (38, 3, 0, 0, 5) := by decide +kernel
theorem c_290_148 : pg_cd 290 148 = (3, 2, 0, 7, 0) := by decide +kernel
theorem c_290_150 : pg_cd 290 150 = (6, 2, 0, 8, 0) := by decide +kernel
theorem c_290_152 : pg_cd 290 152 = (5, 1, 0, 0, 0) := by decide +kernel
theorem c_290_153 : pg_cd 290 153 = (45, 12, 8, 0, 0) := by decide +kernel
theorem c_290_156 : pg_cd 290 156 = (3, 1, 0, 3, 0) := by decide +kernel
theorem c_290_157 : pg_cd 290 157 = (1, 1, 0, 0, 1) := by decide +kernel
theorem c_290_158 : pg_cd 290 158 = (10, 1, 0, 0, 0) := by decide +kernel
theorem c_290_159 : pg_cd 290 159 = (34, 1, 0, 0, 0) := by decide +kernel
theorem c_290_160 : pg_cd 290 160 = (50, 1, 0, 0, 0) := by decide +kernel
theorem c_290_161 : pg_cd 290 161 = (3, 2, 0, 8, 0) := by decide +kernel
theorem c_290_163 : pg_cd 290 163 = (5, 1, 0, 0, 0) := by decide +kernel
theorem c_290_164 : pg_cd 290 164 = (43, 12, 373, 30, 0) := by decide +kernel
theorem c_290_167 : pg_cd 290 167 = (12, 1, 0, 0, 0) := by decide +kernel
theorem c_290_168 : pg_cd 290 168 = (11, 1, 0, 0, 0) := by decide +kernel
theorem c_290_169 : pg_cd 290 169 = (54, 1, 0, 0, 0) := by decide +kernel
theorem c_290_170 : pg_cd 290 170 = (5, 1, 0, 0, 0) := by decide +kernel
theorem c_290_171 : pg_cd 290 171 = (45, 12, 8, 0, 0) := by decide +kernel
theorem c_290_174 : pg_cd 290 174 = (1, 3, 376, 0, 51100) := by decide +kernel
theorem c_290_177 : pg_cd 290 177 = (3, 2, 0, 5, 0) := by decide +kernel
theorem c_290_179 : pg_cd 290 179 = (10, 1, 0, 0, 0) := by decide +kernel
theorem c_290_180 : pg_cd 290 180 = (3, 2, 0, 8, 0) := by decide +kernel
theorem c_290_182 : pg_cd 290 182 = (54, 1, 0, 0, 0) := by decide +kernel
theorem c_290_183 : pg_cd 290 183 = (5, 1, 0, 0, 0) := by decide +kernel
theorem c_290_184 : pg_cd 290 184 = (45, 12, 8, 0, 0) := by decide +kernel
theorem c_290_187 : pg_cd 290 187 = (3, 2, 0, 4, 0) := by decide +kernel
theorem c_290_189 : pg_cd 290 189 = (1, 1, 0, 0, 1) := by decide +kernel
theorem c_290_190 : pg_cd 290 190 = (10, 1, 0, 0, 0) := by decide +kernel
theorem c_290_191 : pg_cd 290 191 = (50, 1, 0, 0, 0) := by decide +kernel
theorem c_290_192 : pg_cd 290 192 = (31, 1, 0, 0, 0) := by decide +kernel
theorem c_290_193 : pg_cd 290 193 = (5, 1, 0, 0, 0) := by decide +kernel
theorem c_290_194 : pg_cd 290 194 = (3, 1, 0, 1, 0) := by decide +kernel
theorem c_290_195 : pg_cd 290 195 = (3, 1, 0, 2, 0) := by decide +kernel
theorem c_290_196 : pg_cd 290 196 = (80, 289, 377, 0, 0) := by decide +kernel
theorem c_290_199 : pg_cd 290 199 = (31, 1, 0, 0, 0) := by decide +kernel
theorem c_290_200 : pg_cd 290 200 = (24, 1, 0, 0, 0) := by decide +kernel
theorem c_290_201 : pg_cd 290 201 = (2, 3, 380, 0, 400) := by decide +kernel
theorem c_290_204 : pg_cd 290 204 = (26, 1, 0, 0, 0) := by decide +kernel
theorem c_290_205 : pg_cd 290 205 = (30, 1, 0, 0, 0) := by decide +kernel
theorem c_290_206 : pg_cd 290 206 = (6, 2, 0, 9, 0) := by decide +kernel
theorem c_290_208 : pg_cd 290 208 = (3, 2, 0, 8, 0) := by decide +kernel
theorem c_290_210 : pg_cd 290 210 = (3, 2, 0, 7, 0) := by decide +kernel
theorem c_290_212 : pg_cd 290 212 = (37, 3, 0, 3, 82) := by decide +kernel
theorem c_290_215 : pg_cd 290 215 = (5, 1, 0, 0, 0) := by decide +kernel
theorem c_290_216 : pg_cd 290 216 = (45, 12, 8, 0, 0) := by decide +kernel
theorem c_290_219 : pg_cd 290 219 = (3, 2, 0, 4, 0) := by decide +kernel
theorem c_290_221 : pg_cd 290 221 = (1, 1, 0, 0, 3) := by decide +kernel
theorem c_290_222 : pg_cd 290 222 = (10, 1, 0, 0, 0) := by decide +kernel
theorem c_290_223 : pg_cd 290 223 = (50, 1, 0, 0, 0) := by decide +kernel
theorem c_290_224 : pg_cd 290 224 = (36, 3, 0, 1, 70) := by decide +kernel
theorem c_290_227 : pg_cd 290 227 = (5, 1, 0, 0, 0) := by decide +kernel
theorem c_290_228 : pg_cd 290 228 = (45, 12, 8, 0, 0) := by decide +kernel
theorem c_290_231 : pg_cd 290 231 = (3, 2, 0, 4, 0) := by decide +kernel
theorem c_290_233 : pg_cd 290 233 = (50, 1, 0, 0, 0) := by decide +kernel
theorem c_290_234 : pg_cd 290 234 = (5, 1, 0, 0, 0) := by decide +kernel
theorem c_290_235 : pg_cd 290 235 = (43, 12, 373, 30, 0) := by decide +kernel
theorem c_290_238 : pg_cd 290 238 = (37, 3, 0, 2, 56) := by decide +kernel
theorem c_290_241 : pg_cd 290 241 = (5, 1, 0, 0, 0) := by decide +kernel
theorem c_290_242 : pg_cd 290 242 = (45, 12, 8, 0, 0) := by decide +kernel
theorem c_290_245 : pg_cd 290 245 = (3, 1, 0, 3, 0) := by decide +kernel
theorem c_290_246 : pg_cd 290 246 = (1, 1, 0, 0, 2) := by decide +kernel
theorem c_290_247 : pg_cd 290 247 = (10, 1, 0, 0, 0) := by decide +kernel
theorem c_290_248 : pg_cd 290 248 = (50, 1, 0, 0, 0) := by decide +kernel
theorem c_290_249 : pg_cd 290 249 = (5, 1, 0, 0, 0) := by decide +kernel
theorem c_290_250 : pg_cd 290 250 = (43, 12, 373, 30, 0) := by decide +kernel
theorem c_290_253 : pg_cd 290 253 = (10, 1, 0, 0, 0) := by decide +kernel
theorem c_290_254 : pg_cd 290 254 = (3, 2, 0, 9, 0) := by decide +kernel
theorem c_290_256 : pg_cd 290 256 = (37, 3, 0, 4, 38) := by decide +kernel
theorem c_290_259 : pg_cd 290 259 = (5, 1, 0, 0, 0) := by decide +kernel
theorem c_290_260 : pg_cd 290 260 = (45, 12, 8, 0, 0) := by decide +kernel
theorem c_290_263 : pg_cd 290 263 = (3, 2, 0, 4, 0) := by decide +kernel
theorem c_290_265 : pg_cd 290 265 = (34, 1, 0, 0, 0) := by decide +kernel
theorem c_290_266 : pg_cd 290 266 = (50, 1, 0, 0, 0) := by decide +kernel
theorem c_290_267 : pg_cd 290 267 = (5, 1, 0, 0, 0) := by decide +kernel
theorem c_290_268 : pg_cd 290 268 = (43, 12, 373, 30, 0) := by decide +kernel
theorem c_290_271 : pg_cd 290 271 = (11, 1, 0, 0, 0) := by decide +kernel
theorem c_290_272 : pg_cd 290 272 = (54, 1, 0, 0, 0) := by decide +kernel
theorem c_290_273 : pg_cd 290 273 = (5, 1, 0, 0, 0) := by decide +kernel
theorem c_290_274 : pg_cd 290 274 = (45, 12, 8, 0, 0) := by decide +kernel
theorem c_290_277 : pg_cd 290 277 = (3, 1, 0, 3, 0) := by decide +kernel
theorem c_290_278 : pg_cd 290 278 = (1, 1, 0, 0, 2) := by decide +kernel
theorem c_290_279 : pg_cd 290 279 = (10, 1, 0, 0, 0) := by decide +kernel
theorem c_290_280 : pg_cd 290 280 = (34, 1, 0, 0, 0) := by decide +kernel
theorem c_290_281 : pg_cd 290 281 = (50, 1, 0, 0, 0) := by decide +kernel
theorem c_290_282 : pg_cd 290 282 = (5, 1, 0, 0, 0) := by decide +kernel
theorem c_290_283 : pg_cd 290 283 = (43, 12, 373, 30, 0) := by decide +kernel
theorem c_290_286 : pg_cd 290 286 = (10, 1, 0, 0, 0) := by decide +kernel
theorem c_290_287 : pg_cd 290 287 = (54, 1, 0, 0, 0) := by decide +kernel
theorem c_290_288 : pg_cd 290 288 = (9, 3, 0, 8, 1) := by decide +kernel
theorem c_290_291 : pg_cd 290 291 = (38, 3, 0, 0, (-83)) := by decide +kernel
theorem c_290_294 : pg_cd 290 294 = (5, 1, 0, 0, 0) := by decide +kernel
theorem c_290_295 : pg_cd 290 295 = (45, 12, 8, 0, 0) := by decide +kernel
theorem c_290_298 : pg_cd 290 298 = (1, 3, 382, 0, 41500) := by decide +kernel
theorem c_290_301 : pg_cd 290 301 = (3, 2, 0, 5, 0) := by decide +kernel
theorem c_290_303 : pg_cd 290 303 = (10, 1, 0, 0, 0) := by decide +kernel
theorem c_290_304 : pg_cd 290 304 = (3, 2, 0, 8, 0) := by decide +kernel
theorem c_290_306 : pg_cd 290 306 = (54, 1, 0, 0, 0) := by decide +kernel
theorem c_290_307 : pg_cd 290 307 = (5, 1, 0, 0, 0) := by decide +kernel
theorem c_290_308 : pg_cd 290 308 = (45, 12, 8, 0, 0) := by decide +kernel
theorem c_290_311 : pg_cd 290 311 = (1, 2, 0, 0, 15) := by decide +kernel
theorem c_290_313 : pg_cd 290 313 = (34, 1, 0, 0, 0) := by decide +kernel
theorem c_290_314 : pg_cd 290 314 = (50, 1, 0, 0, 0) := by decide +kernel
theorem c_290_315 : pg_cd 290 315 = (3, 2, 0, 8, 0) := by decide +kernel
theorem c_290_317 : pg_cd 290 317 = (10, 1, 0, 0, 0) := by decide +kernel
theorem c_290_318 : pg_cd 290 318 = (54, 1, 0, 0, 0) := by decide +kernel
theorem c_290_319 : pg_cd 290 319 = (5, 1, 0, 0, 0) := by decide +kernel
theorem c_290_320 : pg_cd 290 320 = (45, 12, 8, 0, 0) := by decide +kernel
theorem c_290_323 : pg_cd 290 323 = (1, 3, 0, 0, 31900) := by decide +kernel
theorem c_290_326 : pg_cd 290 326 = (3, 2, 0, 5, 0) := by decide +kernel
theorem c_290_328 : pg_cd 290 328 = (10, 1, 0, 0, 0) := by decide +kernel
theorem c_290_329 : pg_cd 290 329 = (3, 2, 0, 7, 0) := by decide +kernel
theorem c_290_331 : pg_cd 290 331 = (3, 2, 0, 8, 0) := by decide +kernel
theorem c_290_333 : pg_cd 290 333 = (11, 1, 0, 0, 0) := by decide +kernel
theorem c_290_334 : pg_cd 290 334 = (54, 1, 0, 0, 0) := by decide +kernel
theorem c_290_335 : pg_cd 290 335 = (3, 2, 0, 8, 0) := by decide +kernel
theorem c_290_337 : pg_cd 290 337 = (3, 2, 0, 7, 0) := by decide +kernel
theorem c_290_339 : pg_cd 290 339 = (37, 3, 0, 3, 4) := by decide +kernel
theorem c_290_342 : pg_cd 290 342 = (94, 0, 0, 0, 0) := by decide +kernel
theorem c_290_343 : pg_cd 290 343 = (5, 1, 0, 0, 0) := by decide +kernel
theorem c_290_344 : pg_cd 290 344 = (45, 12, 8, 0, 0) := by decide +kernel
theorem c_290_347 : pg_cd 290 347 = (3, 1, 0, 3, 0) := by decide +kernel
theorem c_290_348 : pg_cd 290 348 = (1, 1, 0, 0, 1) := by decide +kernel
theorem c_290_349 : pg_cd 290 349 = (10, 1, 0, 0, 0) := by decide +kernel
theorem c_290_350 : pg_cd 290 350 = (50, 1, 0, 0, 0) := by decide +kernel
theorem c_290_351 : pg_cd 290 351 = (5, 1, 0, 0, 0) := by decide +kernel
theorem c_290_352 : pg_cd 290 352 = (45, 12, 8, 0, 0) := by decide +kernel
theorem c_290_355 : pg_cd 290 355 = (3, 1, 0, 3, 0) := by decide +kernel
theorem c_290_356 : pg_cd 290 356 = (1, 1, 0, 0, 2) := by decide +kernel
theorem c_290_357 : pg_cd 290 357 = (10, 1, 0, 0, 0) := by decide +kernel
theorem c_290_358 : pg_cd 290 358 = (50, 1, 0, 0, 0) := by decide +kernel
theorem c_290_359 : pg_cd 290 359 = (37, 3, 0, 3, 14) := by decide +kernel
theorem c_290_362 : pg_cd 290 362 = (5, 1, 0, 0, 0) := by decide +kernel
theorem c_290_363 : pg_cd 290 363 = (45, 12, 8, 0, 0) := by decide +kernel
theorem c_290_366 : pg_cd 290 366 = (3, 1, 0, 3, 0) := by decide +kernel
theorem c_290_367 : pg_cd 290 367 = (1, 1, 0, 0, 1) := by decide +kernel
theorem c_290_368 : pg_cd 290 368 = (10, 1, 0, 0, 0) := by decide +kernel
theorem c_290_369 : pg_cd 290 369 = (50, 1, 0, 0, 0) := by decide +kernel
theorem c_290_370 : pg_cd 290 370 = (38, 3, 0, 0, 11) := by decide +kernel
theorem c_290_373 : pg_cd 290 373 = (5, 1, 0, 0, 0) := by decide +kernel
theorem c_290_374 : pg_cd 290 374 = (45, 12, 8, 0, 0) := by decide +kernel
theorem c_290_377 : pg_cd 290 377 = (3, 1, 0, 3, 0) := by decide +kernel
theorem c_290_378 : pg_cd 290 378 = (1, 1, 0, 0, 2) := by decide +kernel
theorem c_290_379 : pg_cd 290 379 = (10, 1, 0, 0, 0) := by decide +kernel
theorem c_290_380 : pg_cd 290 380 = (50, 1, 0, 0, 0) := by decide +kernel
theorem c_290_381 : pg_cd 290 381 = (6, 2, 0, 10, 0) := by decide +kernel
theorem c_290_383 : pg_cd 290 383 = (5, 1, 0, 0, 0) := by decide +kernel
theorem c_290_384 : pg_cd 290 384 = (45, 12, 8, 0, 0) := by decide +kernel
theorem c_290_387 : pg_cd 290 387 = (3, 1, 0, 3, 0) := by decide +kernel
theorem c_290_388 : pg_cd 290 388 = (1, 1, 0, 0, 1) := by decide +kernel
theorem c_290_389 : pg_cd 290 389 = (10, 1, 0, 0, 0) := by decide +kernel
theorem c_290_390 : pg_cd 290 390 = (34, 1, 0, 0, 0) := by decide +kernel
theorem c_290_391 : pg_cd 290 391 = (50, 1, 0, 0, 0) := by decide +kernel
theorem c_290_392 : pg_cd 290 392 = (3, 2, 0, 10, 0) := by decide +kernel
theorem c_290_394 : pg_cd 290 394 = (11, 1, 0, 0, 0) := by decide +kernel
theorem c_290_395 : pg_cd 290 395 = (54, 1, 0, 0, 0) := by decide +kernel
theorem c_290_396 : pg_cd 290 396 = (5, 1, 0, 0, 0) := by decide +kernel
theorem c_290_397 : pg_cd 290 397 = (45, 12, 8, 0, 0) := by decide +kernel
theorem c_290_400 : pg_cd 290 400 = (3, 1, 0, 3, 0) := by decide +kernel
theorem c_290_401 : pg_cd 290 401 = (1, 1, 0, 0, 2) := by decide +kernel
theorem c_290_402 : pg_cd 290 402 = (10, 1, 0, 0, 0) := by decide +kernel
theorem c_290_403 : pg_cd 290 403 = (34, 1, 0, 0, 0) := by decide +kernel
theorem c_290_404 : pg_cd 290 404 = (50, 1, 0, 0, 0) := by decide +kernel
theorem c_290_405 : pg_cd 290 405 = (3, 2, 0, 10, 0) := by decide +kernel
theorem c_290_407 : pg_cd 290 407 = (11, 1, 0, 0, 0) := by decide +kernel
theorem c_290_408 : pg_cd 290 408 = (54, 1, 0, 0, 0) := by decide +kernel
theorem c_290_409 : pg_cd 290 409 = (5, 1, 0, 0, 0) := by decide +kernel
theorem c_290_410 : pg_cd 290 410 = (45, 12, 8, 0, 0) := by decide +kernel
theorem c_290_413 : pg_cd 290 413 = (3, 2, 0, 4, 0) := by decide +kernel
theorem c_290_415 : pg_cd 290 415 = (34, 1, 0, 0, 0) := by decide +kernel
theorem c_290_416 : pg_cd 290 416 = (50, 1, 0, 0, 0) := by decide +kernel
theorem c_290_417 : pg_cd 290 417 = (3, 2, 0, 10, 0) := by decide +kernel
theorem c_290_419 : pg_cd 290 419 = (10, 1, 0, 0, 0) := by decide +kernel
theorem c_290_420 : pg_cd 290 420 = (54, 1, 0, 0, 0) := by decide +kernel
theorem c_290_421 : pg_cd 290 421 = (94, 0, 0, 0, 0) := by decide +kernel
theorem mi_290 : pg_mc 290 = 12 ∧ pg_na 290 = 2 ∧ pg_mx 290 = 11 := by decide +kernel
set_option maxRecDepth 20000 in
theorem u_290_0 {d : Nat} {S : zS} {σ τ : zI} {Q : zQ} {x1 : Int} {x2 : Int} (t : (0 ≤ (3460 + (8 * x1)) + 0 ∧ (3460 + (8 * x1)) + 0 < 112300) ∧ wi (d + 3) 290 40 [.ref 83, .int (wI x1), .int (wI x2), .int (wI (3460 + (8 * x1))), .int (wI (3428 + (8 * (σ 84 ((3460 + (8 * x1)) + 0))))), .int (wI ((24 * x2) + x1)), .int (wI 0), .int (wI 0), .retAddr 0, .retAddr 0, .retAddr 0] [] S σ τ Q) : wi (d + 3) 290 0 [.ref 83, .int (wI x1), .int (wI x2), .retAddr 0, .retAddr 0, .retAddr 0, .retAddr 0, .retAddr 0, .retAddr 0, .retAddr 0, .retAddr 0] [] S σ τ Q := by
  obtain ⟨r1, t⟩ := t
  refine i1 c_290_0 (i1 c_290_3 (i3 c_290_5 rfl (i12 c_290_6 (i10 c_290_7 (i6 (L' := [.ref 83, .int (wI x1), .int (wI x2), .int (wI (3460 + (8 * x1))), .retAddr 0, .retAddr 0, .retAddr 0, .retAddr 0, .retAddr 0, .retAddr 0, .retAddr 0]) c_290_8 rfl (i1 c_290_9 (i1 c_290_12 (i5 c_290_14 rfl (i45 c_290_15 (lo (c := 83) (kd := 112) (n := 0) rfl (by decide)) (lro (c := 83) (k := 0) (j := 84) (by decide)) (i3 c_290_18 rfl (i1 c_290_19 (i10 c_290_20 (wi_ok (fun K2 => ?_))))))))))))))
  refine i50 (v := σ 84 ((3460 + (8 * x1)) + 0)) c_290_21 (lo (c := 84) (kd := 0) (n := 112300) rfl (by decide)) (by decide) r1 rfl (i12 c_290_22 (i10 c_290_23 (i6 (L' := [.ref 83, .int (wI x1), .int (wI x2), .int (wI (3460 + (8 * x1))), .int (wI (3428 + (8 * (σ 84 ((3460 + (8 * x1)) + 0))))), .retAddr 0, .retAddr 0, .retAddr 0, .retAddr 0, .retAddr 0, .retAddr 0]) c_290_24 rfl (i1 c_290_26 (i3 c_290_28 rfl (i12 c_290_29 (i3 c_290_30 rfl (i10 c_290_31 (i6 (L' := [.ref 83, .int (wI x1), .int (wI x2), .int (wI (3460 + (8 * x1))), .int (wI (3428 + (8 * (σ 84 ((3460 + (8 * x1)) + 0))))), .int (wI ((24 * x2) + x1)), .retAddr 0, .retAddr 0, .retAddr 0, .retAddr 0, .retAddr 0]) c_290_32 rfl (i1 c_290_34 (i6 (L' := [.ref 83, .int (wI x1), .int (wI x2), .int (wI (3460 + (8 * x1))), .int (wI (3428 + (8 * (σ 84 ((3460 + (8 * x1)) + 0))))), .int (wI ((24 * x2) + x1)), .int (wI 0), .retAddr 0, .retAddr 0, .retAddr 0, .retAddr 0]) c_290_35 rfl (i1 c_290_37 (i6 (L' := [.ref 83, .int (wI x1), .int (wI x2), .int (wI (3460 + (8 * x1))), .int (wI (3428 + (8 * (σ 84 ((3460 + (8 * x1)) + 0))))), .int (wI ((24 * x2) + x1)), .int (wI 0), .int (wI 0), .retAddr 0, .retAddr 0, .retAddr 0]) c_290_38 rfl t)))))))))))))
set_option maxRecDepth 20000 in
theorem u_290_40 {d : Nat} {S : zS} {σ τ : zI} {Q : zQ} {x1 : Int} {x2 : Int} {x3 : Int} {x4 : Int} {x5 : Int} {x6 : Int} {x7 : Int} {y8 : Value} {y9 : Value} {y10 : Value} (t : (rg x7) ∧ if (σ 84 4) ≤ x7 then ((0 ≤ 22300 + x5 ∧ 22300 + x5 < 112300) ∧ ∃ w5 : Int, wI w5 = wI x6 ∧ rg w5 ∧ (0 ≤ x3 + 1 ∧ x3 + 1 < 112300) ∧ ∃ w10 : Int, wI w10 = wI (((u1 (σ 84) (22300 + x5) w5) (x3 + 1)) + x6) ∧ rg w10 ∧ (rg x1) ∧ (0 ≤ (uc σ 84 (u1 (u1 (σ 84) (22300 + x5) w5) (x3 + 1) w10)) 84 4 ∧ (uc σ 84 (u1 (u1 (σ 84) (22300 + x5) w5) (x3 + 1) w10)) 84 4 ≤ 60) ∧ ∀ (v15 : Int), v15 = r_need ((uc σ 84 (u1 (u1 (σ 84) (22300 + x5) w5) (x3 + 1) w10)) 84) x1 → 0 ≤ v15 ∧ v15 ≤ 240 → ((σ 83 30) ≠ 0) ∧ (rg (Int.tdiv w10 (σ 83 30))) ∧ (rg v15) ∧ if v15 ≤ (Int.tdiv w10 (σ 83 30)) then (wi (d + 3) 290 150 [.ref 83, .int (wI x1), .int (wI x2), .int (wI x3), .int (wI x4), .int (wI x5), .int (wI x6), .int (wI v15), y8, y9, y10] [.int (wI v15)] S (uc σ 84 (u1 (u1 (σ 84) (22300 + x5) w5) (x3 + 1) w10)) τ Q) else (((σ 83 30) ≠ 0) ∧ wi (d + 3) 290 150 [.ref 83, .int (wI x1), .int (wI x2), .int (wI x3), .int (wI x4), .int (wI x5), .int (wI x6), .int (wI v15), y8, y9, y10] [.int (wI (Int.tdiv w10 (σ 83 30)))] S (uc σ 84 (u1 (u1 (σ 84) (22300 + x5) w5) (x3 + 1) w10)) τ Q)) else ((0 ≤ 3652 + 12 * x7 + 0 ∧ 3652 + 12 * x7 + 0 < 112300) ∧ (rg x1) ∧ if (σ 84 (3652 + 12 * x7 + 0)) = x1 then ((0 ≤ 3652 + 12 * x7 + 8 ∧ 3652 + 12 * x7 + 8 < 112300) ∧ wi (d + 3) 290 75 [.ref 83, .int (wI x1), .int (wI x2), .int (wI x3), .int (wI x4), .int (wI x5), .int (wI (x6 + (σ 84 (3652 + 12 * x7 + 8)))), .int (wI x7), y8, y9, y10] [] S σ τ Q) else (wi (d + 3) 290 75 [.ref 83, .int (wI x1), .int (wI x2), .int (wI x3), .int (wI x4), .int (wI x5), .int (wI x6), .int (wI x7), y8, y9, y10] [] S σ τ Q))) : wi (d + 3) 290 40 [.ref 83, .int (wI x1), .int (wI x2), .int (wI x3), .int (wI x4), .int (wI x5), .int (wI x6), .int (wI x7), y8, y9, y10] [] S σ τ Q := by
  refine i3 c_290_40 rfl (i5 c_290_42 rfl (i45 c_290_43 (lo (c := 83) (kd := 112) (n := 0) rfl (by decide)) (lro (c := 83) (k := 0) (j := 84) (by decide)) (i1 c_290_46 (wi_ok (fun K1 => ?_)))))
  obtain ⟨r2, t⟩ := t
  refine i50 (v := σ 84 4) c_290_47 (lo (c := 84) (kd := 0) (n := 112300) rfl (by decide)) (by decide) (by decide) rfl ?_
  refine i37 c_290_48 r2 (rge_ K1 rfl) rfl (fun hc => ?_) (fun hc => ?_)
  · have t := iT t hc
    have ha3 : (σ 84 4) ≤ x7 := hc
    obtain ⟨r4, t⟩ := t
    obtain ⟨w5, e6, r7, t⟩ := t
    obtain ⟨r8, t⟩ := t
    refine i5 c_290_81 rfl (i45 c_290_82 (lo (c := 83) (kd := 112) (n := 0) rfl (by decide)) (lro (c := 83) (k := 0) (j := 84) (by decide)) (i1 c_290_85 (i3 c_290_88 rfl (i10 c_290_90 (i3 c_290_91 rfl (i54 (σ1 := uc σ 84 (u1 (σ 84) (22300 + x5) w5)) c_290_93 (lo (c := 84) (kd := 0) (n := 112300) rfl (by decide)) (by decide) r4 (by decide) e6 r7 (wr_ rfl rfl) (i5 c_290_94 rfl (i45 c_290_95 (lo (c := 83) (kd := 112) (n := 0) rfl (by decide)) (lro (c := 83) (k := 0) (j := 84) (by decide)) (i3 c_290_98 rfl (i1 c_290_99 (i10 c_290_100 (i34a c_290_101 (wi_ok (fun K9 => ?_))))))))))))))
    obtain ⟨w10, e11, r12, t⟩ := t
    obtain ⟨r13, t⟩ := t
    obtain ⟨p14, t⟩ := t
    refine i50 (v := (u1 (σ 84) (22300 + x5) w5) (x3 + 1)) c_290_102 (lo (c := 84) (kd := 0) (n := 112300) rfl (by decide)) (by decide) r8 (congrFun (uc_s _ _ _) _) (i3 c_290_103 rfl (i10 c_290_105 (i54 (σ1 := uc σ 84 (u1 (u1 (σ 84) (22300 + x5) w5) (x3 + 1) w10)) c_290_106 (lo (c := 84) (kd := 0) (n := 112300) rfl (by decide)) (by decide) r8 (by decide) e11 r12 (wr_ (uc_s _ _ _) (uc_uc _ _ _ _)) (i5 c_290_107 rfl (i3 c_290_108 rfl ?_)))))
    refine i80 (As := [.int (wI x1)]) (rest := []) c_290_109 mi_288 rfl rfl (Nat.le_of_ble_eq_true rfl) (Nat.le_of_ble_eq_true rfl) (lo (c := 83) (kd := 112) (n := 0) rfl (by decide)) (q_288 r13 p14 (fun v15 q16 q17 => ?_))
    have t := t v15 q16 q17
    show wi (d + 3) 290 112 [.ref 83, .int (wI x1), .int (wI x2), .int (wI x3), .int (wI x4), .int (wI x5), .int (wI x6), .int (wI x7), y8, y9, y10] [.int (wI v15)] S (uc σ 84 (u1 (u1 (σ 84) (22300 + x5) w5) (x3 + 1) w10)) τ Q
    refine i6 (L' := [.ref 83, .int (wI x1), .int (wI x2), .int (wI x3), .int (wI x4), .int (wI x5), .int (wI x6), .int (wI v15), y8, y9, y10]) c_290_112 rfl (i5 c_290_114 rfl (i45 c_290_115 (lo (c := 83) (kd := 112) (n := 0) rfl (by decide)) (lro (c := 83) (k := 0) (j := 84) (by decide)) (i3 c_290_118 rfl (i1 c_290_119 (i10 c_290_120 (wi_ok (fun K18 => ?_)))))))
    obtain ⟨y19, t⟩ := t
    obtain ⟨r20, t⟩ := t
    obtain ⟨r21, t⟩ := t
    refine i50 (v := w10) c_290_121 (lo (c := 84) (kd := 0) (n := 112300) rfl (by decide)) (by decide) r8 ((congrFun (uc_s _ _ _) _).trans (u1_s _ _ _)) (i5 c_290_122 rfl (i43 (v := σ 83 30) c_290_123 (lo (c := 83) (kd := 112) (n := 0) rfl (by decide)) (congrFun (uc_ns rfl (by decide)) _) (i16 c_290_126 r12 (rge_ K18 (congrFun (uc_ns rfl (by decide)) _)) y19 (i3 c_290_127 rfl ?_))))
    refine i37 c_290_129 r20 r21 rfl (fun hc => ?_) (fun hc => ?_)
    · have t := iT t hc
      have ha22 : v15 ≤ (Int.tdiv w10 (σ 83 30)) := hc
      refine i3 c_290_148 rfl t
    · have t := iF t hc
      have ha22 : ¬ (v15 ≤ (Int.tdiv w10 (σ 83 30))) := hc
      obtain ⟨y23, t⟩ := t
      refine i5 c_290_132 rfl (i45 c_290_133 (lo (c := 83) (kd := 112) (n := 0) rfl (by decide)) (lro (c := 83) (k := 0) (j := 84) (by decide)) (i3 c_290_136 rfl (i1 c_290_137 (i10 c_290_138 (i50 (v := w10) c_290_139 (lo (c := 84) (kd := 0) (n := 112300) rfl (by decide)) (by decide) r8 ((congrFun (uc_s _ _ _) _).trans (u1_s _ _ _)) (i5 c_290_140 rfl (i43 (v := σ 83 30) c_290_141 (lo (c := 83) (kd := 112) (n := 0) rfl (by decide)) (congrFun (uc_ns rfl (by decide)) _) (i16 c_290_144 r12 (rge_ K18 (congrFun (uc_ns rfl (by decide)) _)) y23 (i38 c_290_145 rfl t)))))))))
  · have t := iF t hc
    have ha3 : ¬ ((σ 84 4) ≤ x7) := hc
    obtain ⟨p24, t⟩ := t
    refine i5 c_290_51 rfl (i3 c_290_52 rfl (i1 c_290_54 ?_))
    refine i80 (As := [.int (wI x7), .int (wI 0)]) (rest := []) c_290_55 mi_199 rfl rfl (Nat.le_of_ble_eq_true rfl) (Nat.le_of_ble_eq_true rfl) (lo (c := 83) (kd := 112) (n := 0) rfl (by decide)) (q_199 p24 ?_)
    show wi (d + 3) 290 58 [.ref 83, .int (wI x1), .int (wI x2), .int (wI x3), .int (wI x4), .int (wI x5), .int (wI x6), .int (wI x7), y8, y9, y10] [.int (wI (σ 84 (3652 + 12 * x7 + 0)))] S σ τ Q
    obtain ⟨r25, t⟩ := t
    refine i3 c_290_58 rfl ?_
    refine i37 c_290_59 (rge_ K1 rfl) r25 rfl (fun hc => ?_) (fun hc => ?_)
    · have t := iF t hc
      have ha26 : ¬ ((σ 84 (3652 + 12 * x7 + 0)) = x1) := hc
      exact t
    · have t := iT t (Decidable.not_not.mp hc)
      have ha26 : (σ 84 (3652 + 12 * x7 + 0)) = x1 := Decidable.not_not.mp hc
      obtain ⟨p27, t⟩ := t
      refine i3 c_290_62 rfl (i5 c_290_64 rfl (i3 c_290_65 rfl (i1 c_290_67 ?_)))
      refine i80 (As := [.int (wI x7), .int (wI 8)]) (rest := [.int (wI x6)]) c_290_69 mi_199 rfl rfl (Nat.le_of_ble_eq_true rfl) (Nat.le_of_ble_eq_true rfl) (lo (c := 83) (kd := 112) (n := 0) rfl (by decide)) (q_199 p27 ?_)
      show wi (d + 3) 290 72 [.ref 83, .int (wI x1), .int (wI x2), .int (wI x3), .int (wI x4), .int (wI x5), .int (wI x6), .int (wI x7), y8, y9, y10] [.int (wI (σ 84 (3652 + 12 * x7 + 8))), .int (wI x6)] S σ τ Q
      refine i10 c_290_72 (i6 (L' := [.ref 83, .int (wI x1), .int (wI x2), .int (wI x3), .int (wI x4), .int (wI x5), .int (wI (x6 + (σ 84 (3652 + 12 * x7 + 8)))), .int (wI x7), y8, y9, y10]) c_290_73 rfl t)
set_option maxRecDepth 20000 in
theorem u_290_75 {d : Nat} {S : zS} {σ τ : zI} {Q : zQ} {x1 : Int} {x2 : Int} {x3 : Int} {x4 : Int} {x5 : Int} {x6 : Int} {x7 : Int} {y8 : Value} {y9 : Value} {y10 : Value} (t : wi (d + 3) 290 40 [.ref 83, .int (wI x1), .int (wI x2), .int (wI x3), .int (wI x4), .int (wI x5), .int (wI x6), .int (wI (x7 + 1)), y8, y9, y10] [] S σ τ Q) : wi (d + 3) 290 75 [.ref 83, .int (wI x1), .int (wI x2), .int (wI x3), .int (wI x4), .int (wI x5), .int (wI x6), .int (wI x7), y8, y9, y10] [] S σ τ Q := by
  refine i9 (L' := [.ref 83, .int (wI x1), .int (wI x2), .int (wI x3), .int (wI x4), .int (wI x5), .int (wI x6), .int (wI (x7 + 1)), y8, y9, y10]) c_290_75 rfl rfl (i38 c_290_78 rfl t)
set_option maxRecDepth 20000 in
theorem u_290_150 {d : Nat} {S : zS} {σ τ : zI} {Q : zQ} {x1 : Int} {x2 : Int} {x3 : Int} {x4 : Int} {x5 : Int} {x6 : Int} {x7 : Int} {y8 : Value} {y9 : Value} {y10 : Value} {s0 : Int} (t : (0 ≤ x3 + 1 ∧ x3 + 1 < 112300) ∧ ∃ w3 : Int, wI w3 = wI ((σ 84 (x3 + 1)) - (s0 * (σ 83 30))) ∧ rg w3 ∧ (0 ≤ 51100 + x5 ∧ 51100 + x5 < 112300) ∧ ∃ w7 : Int, wI w7 = wI s0 ∧ rg w7 ∧ (0 ≤ x4 + 1 ∧ x4 + 1 < 112300) ∧ (0 ≤ x1 ∧ x1 < (24 : Int)) ∧ (0 ≤ x2 ∧ x2 ≤ (399 : Int)) ∧ (rg (r_el ((uc σ 84 (u1 (u1 (σ 84) (x3 + 1) w3) (51100 + x5) w7)) 84) x1 x2)) ∧ (rj (((u1 (u1 (σ 84) (x3 + 1) w3) (51100 + x5) w7) (x4 + 1)) * (r_el ((uc σ 84 (u1 (u1 (σ 84) (x3 + 1) w3) (51100 + x5) w7)) 84) x1 x2))) ∧ wi (d + 3) 290 208 [.ref 83, .int (wI x1), .int (wI x2), .int (wI x3), .int (wI x4), .int (wI x5), .int (wI x6), .int (wI x7), .int (wI s0), .int (wI (Int.tdiv (((u1 (u1 (σ 84) (x3 + 1) w3) (51100 + x5) w7) (x4 + 1)) * (r_el ((uc σ 84 (u1 (u1 (σ 84) (x3 + 1) w3) (51100 + x5) w7)) 84) x1 x2)) 400)), y10] [] S (uc σ 84 (u1 (u1 (σ 84) (x3 + 1) w3) (51100 + x5) w7)) τ Q) : wi (d + 3) 290 150 [.ref 83, .int (wI x1), .int (wI x2), .int (wI x3), .int (wI x4), .int (wI x5), .int (wI x6), .int (wI x7), y8, y9, y10] [.int (wI s0)] S σ τ Q := by
  obtain ⟨r1, t⟩ := t
  refine i6 (L' := [.ref 83, .int (wI x1), .int (wI x2), .int (wI x3), .int (wI x4), .int (wI x5), .int (wI x6), .int (wI x7), .int (wI s0), y9, y10]) c_290_150 rfl (i5 c_290_152 rfl (i45 c_290_153 (lo (c := 83) (kd := 112) (n := 0) rfl (by decide)) (lro (c := 83) (k := 0) (j := 84) (by decide)) (i3 c_290_156 rfl (i1 c_290_157 (i10 c_290_158 (i34a c_290_159 (wi_ok (fun K2 => ?_))))))))
  obtain ⟨w3, e4, r5, t⟩ := t
  obtain ⟨r6, t⟩ := t
  obtain ⟨w7, e8, r9, t⟩ := t
  obtain ⟨r10, t⟩ := t
  refine i50 (v := σ 84 (x3 + 1)) c_290_160 (lo (c := 84) (kd := 0) (n := 112300) rfl (by decide)) (by decide) r1 rfl (i3 c_290_161 rfl (i5 c_290_163 rfl (i43 (v := σ 83 30) c_290_164 (lo (c := 83) (kd := 112) (n := 0) rfl (by decide)) rfl (i12 c_290_167 (i11 c_290_168 (i54 (σ1 := uc σ 84 (u1 (σ 84) (x3 + 1) w3)) c_290_169 (lo (c := 84) (kd := 0) (n := 112300) rfl (by decide)) (by decide) r1 (by decide) e4 r5 (wr_ rfl rfl) (i5 c_290_170 rfl (i45 c_290_171 (lo (c := 83) (kd := 112) (n := 0) rfl (by decide)) (lro (c := 83) (k := 0) (j := 84) (by decide)) (i1 c_290_174 (i3 c_290_177 rfl (i10 c_290_179 (i3 c_290_180 rfl (i54 (σ1 := uc σ 84 (u1 (u1 (σ 84) (x3 + 1) w3) (51100 + x5) w7)) c_290_182 (lo (c := 84) (kd := 0) (n := 112300) rfl (by decide)) (by decide) r6 (by decide) e8 r9 (wr_ (uc_s _ _ _) (uc_uc _ _ _ _)) (i5 c_290_183 rfl (i45 c_290_184 (lo (c := 83) (kd := 112) (n := 0) rfl (by decide)) (lro (c := 83) (k := 0) (j := 84) (by decide)) (i3 c_290_187 rfl (i1 c_290_189 (i10 c_290_190 (wi_ok (fun K11 => ?_))))))))))))))))))))
  obtain ⟨p12, t⟩ := t
  obtain ⟨p13, t⟩ := t
  refine i50 (v := (u1 (u1 (σ 84) (x3 + 1) w3) (51100 + x5) w7) (x4 + 1)) c_290_191 (lo (c := 84) (kd := 0) (n := 112300) rfl (by decide)) (by decide) r10 (congrFun (uc_s _ _ _) _) (i31 c_290_192 (rge_ K11 (congrFun (uc_s _ _ _) _)) (i5 c_290_193 rfl (i3 c_290_194 rfl (i3 c_290_195 rfl ?_))))
  refine i80 (As := [.int (wI x1), .int (wI x2)]) (rest := [.long (wJ ((u1 (u1 (σ 84) (x3 + 1) w3) (51100 + x5) w7) (x4 + 1)))]) c_290_196 mi_289 rfl rfl (Nat.le_of_ble_eq_true rfl) (Nat.le_of_ble_eq_true rfl) (lo (c := 83) (kd := 112) (n := 0) rfl (by decide)) (q_289 p12 p13 ?_)
  show wi (d + 3) 290 199 [.ref 83, .int (wI x1), .int (wI x2), .int (wI x3), .int (wI x4), .int (wI x5), .int (wI x6), .int (wI x7), .int (wI s0), y9, y10] [.int (wI (r_el ((uc σ 84 (u1 (u1 (σ 84) (x3 + 1) w3) (51100 + x5) w7)) 84) x1 x2)), .long (wJ ((u1 (u1 (σ 84) (x3 + 1) w3) (51100 + x5) w7) (x4 + 1)))] S (uc σ 84 (u1 (u1 (σ 84) (x3 + 1) w3) (51100 + x5) w7)) τ Q
  obtain ⟨r14, t⟩ := t
  obtain ⟨r15, t⟩ := t
  refine i31 c_290_199 r14 (i24 c_290_200 (i2 c_290_201 (i26 c_290_204 r15 (by decide) (by decide) (i30 c_290_205 (i6 (L' := [.ref 83, .int (wI x1), .int (wI x2), .int (wI x3), .int (wI x4), .int (wI x5), .int (wI x6), .int (wI x7), .int (wI s0), .int (wI (Int.tdiv (((u1 (u1 (σ 84) (x3 + 1) w3) (51100 + x5) w7) (x4 + 1)) * (r_el ((uc σ 84 (u1 (u1 (σ 84) (x3 + 1) w3) (51100 + x5) w7)) 84) x1 x2)) 400)), y10]) c_290_206 rfl t)))))
set_option maxRecDepth 20000 in
theorem u_290_208 {d : Nat} {S : zS} {σ τ : zI} {Q : zQ} {x1 : Int} {x2 : Int} {x3 : Int} {x4 : Int} {x5 : Int} {x6 : Int} {x7 : Int} {x8 : Int} {x9 : Int} {y10 : Value} (t : (rg x8) ∧ (rg x7) ∧ if x7 ≤ x8 then (wi (d + 3) 290 294 [.ref 83, .int (wI x1), .int (wI x2), .int (wI x3), .int (wI x4), .int (wI x5), .int (wI x6), .int (wI x7), .int (wI x8), .int (wI x9), y10] [] S σ τ Q) else ((0 ≤ x4 + 3 ∧ x4 + 3 < 112300) ∧ if (σ 84 (x4 + 3)) = 0 then ((0 ≤ x4 ∧ x4 < 112300) ∧ if (σ 84 x4) < (σ 83 30) then (wi (d + 3) 290 294 [.ref 83, .int (wI x1), .int (wI x2), .int (wI x3), .int (wI x4), .int (wI x5), .int (wI x6), .int (wI x7), .int (wI x8), .int (wI x9), y10] [] S σ τ Q) else ((0 ≤ x3 + 2 ∧ x3 + 2 < 112300) ∧ (rg ((σ 84 (x3 + 2)) + (σ 83 30))) ∧ (rg x9) ∧ if x9 < ((σ 84 (x3 + 2)) + (σ 83 30)) then (wi (d + 3) 290 294 [.ref 83, .int (wI x1), .int (wI x2), .int (wI x3), .int (wI x4), .int (wI x5), .int (wI x6), .int (wI x7), .int (wI x8), .int (wI x9), y10] [] S σ τ Q) else (∃ w13 : Int, wI w13 = wI ((σ 84 x4) - (σ 83 30)) ∧ rg w13 ∧ ∃ w17 : Int, wI w17 = wI (((u1 (σ 84) x4 w13) (x3 + 2)) + (σ 83 30)) ∧ rg w17 ∧ wi (d + 3) 290 208 [.ref 83, .int (wI x1), .int (wI x2), .int (wI x3), .int (wI x4), .int (wI x5), .int (wI x6), .int (wI x7), .int (wI (x8 + 1)), .int (wI x9), y10] [] S (uc σ 84 (u1 (u1 (σ 84) x4 w13) (x3 + 2) w17)) τ Q))) else (wi (d + 3) 290 294 [.ref 83, .int (wI x1), .int (wI x2), .int (wI x3), .int (wI x4), .int (wI x5), .int (wI x6), .int (wI x7), .int (wI x8), .int (wI x9), y10] [] S σ τ Q))) : wi (d + 3) 290 208 [.ref 83, .int (wI x1), .int (wI x2), .int (wI x3), .int (wI x4), .int (wI x5), .int (wI x6), .int (wI x7), .int (wI x8), .int (wI x9), y10] [] S σ τ Q := by
  obtain ⟨r1, t⟩ := t
  obtain ⟨r2, t⟩ := t
  refine i3 c_290_208 rfl (i3 c_290_210 rfl ?_)
  refine i37 c_290_212 r1 r2 rfl (fun hc => ?_) (fun hc => ?_)
  · have t := iT t hc
    have ha3 : x7 ≤ x8 := hc
    exact t
  · have t := iF t hc
    have ha3 : ¬ (x7 ≤ x8) := hc
    obtain ⟨r4, t⟩ := t
    refine i5 c_290_215 rfl (i45 c_290_216 (lo (c := 83) (kd := 112) (n := 0) rfl (by decide)) (lro (c := 83) (k := 0) (j := 84) (by decide)) (i3 c_290_219 rfl (i1 c_290_221 (i10 c_290_222 (wi_ok (fun K5 => ?_))))))
    refine i50 (v := σ 84 (x4 + 3)) c_290_223 (lo (c := 84) (kd := 0) (n := 112300) rfl (by decide)) (by decide) r4 rfl ?_
    refine i36 c_290_224 (rge_ K5 rfl) rfl (fun hc => ?_) (fun hc => ?_)
    · have t := iF t hc
      have ha6 : ¬ ((σ 84 (x4 + 3)) = 0) := hc
      exact t
    · have t := iT t (Decidable.not_not.mp hc)
      have ha6 : (σ 84 (x4 + 3)) = 0 := Decidable.not_not.mp hc
      obtain ⟨r7, t⟩ := t
      refine i5 c_290_227 rfl (i45 c_290_228 (lo (c := 83) (kd := 112) (n := 0) rfl (by decide)) (lro (c := 83) (k := 0) (j := 84) (by decide)) (i3 c_290_231 rfl (i50 (v := σ 84 x4) c_290_233 (lo (c := 84) (kd := 0) (n := 112300) rfl (by decide)) (by decide) r7 rfl (i5 c_290_234 rfl (i43 (v := σ 83 30) c_290_235 (lo (c := 83) (kd := 112) (n := 0) rfl (by decide)) rfl ?_)))))
      refine i37 c_290_238 (rge_ K5 rfl) (rge_ K5 rfl) rfl (fun hc => ?_) (fun hc => ?_)
      · have t := iT t hc
        have ha8 : (σ 84 x4) < (σ 83 30) := hc
        exact t
      · have t := iF t hc
        have ha8 : ¬ ((σ 84 x4) < (σ 83 30)) := hc
        obtain ⟨r9, t⟩ := t
        obtain ⟨r10, t⟩ := t
        obtain ⟨r11, t⟩ := t
        refine i5 c_290_241 rfl (i45 c_290_242 (lo (c := 83) (kd := 112) (n := 0) rfl (by decide)) (lro (c := 83) (k := 0) (j := 84) (by decide)) (i3 c_290_245 rfl (i1 c_290_246 (i10 c_290_247 (i50 (v := σ 84 (x3 + 2)) c_290_248 (lo (c := 84) (kd := 0) (n := 112300) rfl (by decide)) (by decide) r9 rfl (i5 c_290_249 rfl (i43 (v := σ 83 30) c_290_250 (lo (c := 83) (kd := 112) (n := 0) rfl (by decide)) rfl (i10 c_290_253 (i3 c_290_254 rfl ?_)))))))))
        refine i37 c_290_256 r10 r11 rfl (fun hc => ?_) (fun hc => ?_)
        · have t := iT t hc
          have ha12 : x9 < ((σ 84 (x3 + 2)) + (σ 83 30)) := hc
          exact t
        · have t := iF t hc
          have ha12 : ¬ (x9 < ((σ 84 (x3 + 2)) + (σ 83 30))) := hc
          obtain ⟨w13, e14, r15, t⟩ := t
          refine i5 c_290_259 rfl (i45 c_290_260 (lo (c := 83) (kd := 112) (n := 0) rfl (by decide)) (lro (c := 83) (k := 0) (j := 84) (by decide)) (i3 c_290_263 rfl (i34a c_290_265 (i50 (v := σ 84 x4) c_290_266 (lo (c := 84) (kd := 0) (n := 112300) rfl (by decide)) (by decide) r7 rfl (i5 c_290_267 rfl (i43 (v := σ 83 30) c_290_268 (lo (c := 83) (kd := 112) (n := 0) rfl (by decide)) rfl (i11 c_290_271 (i54 (σ1 := uc σ 84 (u1 (σ 84) x4 w13)) c_290_272 (lo (c := 84) (kd := 0) (n := 112300) rfl (by decide)) (by decide) r7 (by decide) e14 r15 (wr_ rfl rfl) (i5 c_290_273 rfl (i45 c_290_274 (lo (c := 83) (kd := 112) (n := 0) rfl (by decide)) (lro (c := 83) (k := 0) (j := 84) (by decide)) (i3 c_290_277 rfl (i1 c_290_278 (i10 c_290_279 (i34a c_290_280 (wi_ok (fun K16 => ?_))))))))))))))))
          obtain ⟨w17, e18, r19, t⟩ := t
          refine i50 (v := (u1 (σ 84) x4 w13) (x3 + 2)) c_290_281 (lo (c := 84) (kd := 0) (n := 112300) rfl (by decide)) (by decide) r9 (congrFun (uc_s _ _ _) _) (i5 c_290_282 rfl (i43 (v := σ 83 30) c_290_283 (lo (c := 83) (kd := 112) (n := 0) rfl (by decide)) (congrFun (uc_ns rfl (by decide)) _) (i10 c_290_286 (i54 (σ1 := uc σ 84 (u1 (u1 (σ 84) x4 w13) (x3 + 2) w17)) c_290_287 (lo (c := 84) (kd := 0) (n := 112300) rfl (by decide)) (by decide) r9 (by decide) e18 r19 (wr_ (uc_s _ _ _) (uc_uc _ _ _ _)) (i9 (L' := [.ref 83, .int (wI x1), .int (wI x2), .int (wI x3), .int (wI x4), .int (wI x5), .int (wI x6), .int (wI x7), .int (wI (x8 + 1)), .int (wI x9), y10]) c_290_288 rfl rfl (i38 c_290_291 rfl t))))))
set_option maxRecDepth 20000 in
theorem u_290_294 {d : Nat} {S : zS} {σ τ : zI} {Q : zQ} {x1 : Int} {x2 : Int} {x3 : Int} {x4 : Int} {x5 : Int} {x6 : Int} {x7 : Int} {x8 : Int} {x9 : Int} {y10 : Value} (t : (0 ≤ 41500 + x5 ∧ 41500 + x5 < 112300) ∧ ∃ w2 : Int, wI w2 = wI x8 ∧ rg w2 ∧ ∃ w6 : Int, wI w6 = wI (((u1 (σ 84) (41500 + x5) w2) 15) + x8) ∧ rg w6 ∧ (0 ≤ 31900 + x5 ∧ 31900 + x5 < 112300) ∧ ∃ w10 : Int, wI w10 = wI (x7 - x8) ∧ rg w10 ∧ (rg x8) ∧ (rg x7) ∧ if x7 ≤ x8 then ((0 ≤ x3 + 1 ∧ x3 + 1 < 112300) ∧ (0 ≤ x3 + 2 ∧ x3 + 2 < 112300) ∧ if ((u1 (u1 (u1 (σ 84) (41500 + x5) w2) 15 w6) (31900 + x5) w10) (x3 + 2)) ≤ ((u1 (u1 (u1 (σ 84) (41500 + x5) w2) 15 w6) (31900 + x5) w10) (x3 + 1)) then (wi (d + 3) 290 381 [.ref 83, .int (wI x1), .int (wI x2), .int (wI x3), .int (wI x4), .int (wI x5), .int (wI x6), .int (wI x7), .int (wI x8), .int (wI x9), y10] [.int (wI ((u1 (u1 (u1 (σ 84) (41500 + x5) w2) 15 w6) (31900 + x5) w10) (x3 + 2)))] S (uc σ 84 (u1 (u1 (u1 (σ 84) (41500 + x5) w2) 15 w6) (31900 + x5) w10)) τ Q) else (wi (d + 3) 290 381 [.ref 83, .int (wI x1), .int (wI x2), .int (wI x3), .int (wI x4), .int (wI x5), .int (wI x6), .int (wI x7), .int (wI x8), .int (wI x9), y10] [.int (wI ((u1 (u1 (u1 (σ 84) (41500 + x5) w2) 15 w6) (31900 + x5) w10) (x3 + 1)))] S (uc σ 84 (u1 (u1 (u1 (σ 84) (41500 + x5) w2) 15 w6) (31900 + x5) w10)) τ Q)) else (Q none S (uc σ 84 (u1 (u1 (u1 (σ 84) (41500 + x5) w2) 15 w6) (31900 + x5) w10)) τ)) : wi (d + 3) 290 294 [.ref 83, .int (wI x1), .int (wI x2), .int (wI x3), .int (wI x4), .int (wI x5), .int (wI x6), .int (wI x7), .int (wI x8), .int (wI x9), y10] [] S σ τ Q := by
  obtain ⟨r1, t⟩ := t
  obtain ⟨w2, e3, r4, t⟩ := t
  refine i5 c_290_294 rfl (i45 c_290_295 (lo (c := 83) (kd := 112) (n := 0) rfl (by decide)) (lro (c := 83) (k := 0) (j := 84) (by decide)) (i1 c_290_298 (i3 c_290_301 rfl (i10 c_290_303 (i3 c_290_304 rfl (i54 (σ1 := uc σ 84 (u1 (σ 84) (41500 + x5) w2)) c_290_306 (lo (c := 84) (kd := 0) (n := 112300) rfl (by decide)) (by decide) r1 (by decide) e3 r4 (wr_ rfl rfl) (i5 c_290_307 rfl (i45 c_290_308 (lo (c := 83) (kd := 112) (n := 0) rfl (by decide)) (lro (c := 83) (k := 0) (j := 84) (by decide)) (i1 c_290_311 (i34a c_290_313 (wi_ok (fun K5 => ?_))))))))))))
  obtain ⟨w6, e7, r8, t⟩ := t
  obtain ⟨r9, t⟩ := t
  obtain ⟨w10, e11, r12, t⟩ := t
  obtain ⟨r13, t⟩ := t
  obtain ⟨r14, t⟩ := t
  refine i50 (v := (u1 (σ 84) (41500 + x5) w2) 15) c_290_314 (lo (c := 84) (kd := 0) (n := 112300) rfl (by decide)) (by decide) (by decide) (congrFun (uc_s _ _ _) _) (i3 c_290_315 rfl (i10 c_290_317 (i54 (σ1 := uc σ 84 (u1 (u1 (σ 84) (41500 + x5) w2) 15 w6)) c_290_318 (lo (c := 84) (kd := 0) (n := 112300) rfl (by decide)) (by decide) (by decide) (by decide) e7 r8 (wr_ (uc_s _ _ _) (uc_uc _ _ _ _)) (i5 c_290_319 rfl (i45 c_290_320 (lo (c := 83) (kd := 112) (n := 0) rfl (by decide)) (lro (c := 83) (k := 0) (j := 84) (by decide)) (i1 c_290_323 (i3 c_290_326 rfl (i10 c_290_328 (i3 c_290_329 rfl (i3 c_290_331 rfl (i11 c_290_333 (i54 (σ1 := uc σ 84 (u1 (u1 (u1 (σ 84) (41500 + x5) w2) 15 w6) (31900 + x5) w10)) c_290_334 (lo (c := 84) (kd := 0) (n := 112300) rfl (by decide)) (by decide) r9 (by decide) e11 r12 (wr_ (uc_s _ _ _) (uc_uc _ _ _ _)) (i3 c_290_335 rfl (i3 c_290_337 rfl ?_))))))))))))))
  refine i37 c_290_339 r13 r14 rfl (fun hc => ?_) (fun hc => ?_)
  · have t := iT t hc
    have ha15 : x7 ≤ x8 := hc
    obtain ⟨r16, t⟩ := t
    refine i5 c_290_343 rfl (i45 c_290_344 (lo (c := 83) (kd := 112) (n := 0) rfl (by decide)) (lro (c := 83) (k := 0) (j := 84) (by decide)) (i3 c_290_347 rfl (i1 c_290_348 (i10 c_290_349 (wi_ok (fun K17 => ?_))))))
    obtain ⟨r18, t⟩ := t
    refine i50 (v := (u1 (u1 (u1 (σ 84) (41500 + x5) w2) 15 w6) (31900 + x5) w10) (x3 + 1)) c_290_350 (lo (c := 84) (kd := 0) (n := 112300) rfl (by decide)) (by decide) r16 (congrFun (uc_s _ _ _) _) (i5 c_290_351 rfl (i45 c_290_352 (lo (c := 83) (kd := 112) (n := 0) rfl (by decide)) (lro (c := 83) (k := 0) (j := 84) (by decide)) (i3 c_290_355 rfl (i1 c_290_356 (i10 c_290_357 (i50 (v := (u1 (u1 (u1 (σ 84) (41500 + x5) w2) 15 w6) (31900 + x5) w10) (x3 + 2)) c_290_358 (lo (c := 84) (kd := 0) (n := 112300) rfl (by decide)) (by decide) r18 (congrFun (uc_s _ _ _) _) ?_))))))
    refine i37 c_290_359 (rge_ K17 (congrFun (uc_s _ _ _) _)) (rge_ K17 (congrFun (uc_s _ _ _) _)) rfl (fun hc => ?_) (fun hc => ?_)
    · have t := iT t hc
      have ha19 : ((u1 (u1 (u1 (σ 84) (41500 + x5) w2) 15 w6) (31900 + x5) w10) (x3 + 2)) ≤ ((u1 (u1 (u1 (σ 84) (41500 + x5) w2) 15 w6) (31900 + x5) w10) (x3 + 1)) := hc
      refine i5 c_290_373 rfl (i45 c_290_374 (lo (c := 83) (kd := 112) (n := 0) rfl (by decide)) (lro (c := 83) (k := 0) (j := 84) (by decide)) (i3 c_290_377 rfl (i1 c_290_378 (i10 c_290_379 (i50 (v := (u1 (u1 (u1 (σ 84) (41500 + x5) w2) 15 w6) (31900 + x5) w10) (x3 + 2)) c_290_380 (lo (c := 84) (kd := 0) (n := 112300) rfl (by decide)) (by decide) r18 (congrFun (uc_s _ _ _) _) t)))))
    · have t := iF t hc
      have ha19 : ¬ (((u1 (u1 (u1 (σ 84) (41500 + x5) w2) 15 w6) (31900 + x5) w10) (x3 + 2)) ≤ ((u1 (u1 (u1 (σ 84) (41500 + x5) w2) 15 w6) (31900 + x5) w10) (x3 + 1))) := hc
      refine i5 c_290_362 rfl (i45 c_290_363 (lo (c := 83) (kd := 112) (n := 0) rfl (by decide)) (lro (c := 83) (k := 0) (j := 84) (by decide)) (i3 c_290_366 rfl (i1 c_290_367 (i10 c_290_368 (i50 (v := (u1 (u1 (u1 (σ 84) (41500 + x5) w2) 15 w6) (31900 + x5) w10) (x3 + 1)) c_290_369 (lo (c := 84) (kd := 0) (n := 112300) rfl (by decide)) (by decide) r16 (congrFun (uc_s _ _ _) _) (i38 c_290_370 rfl t))))))
  · have t := iF t hc
    have ha15 : ¬ (x7 ≤ x8) := hc
    exact i94 c_290_342 t
set_option maxRecDepth 20000 in
theorem u_290_381 {d : Nat} {S : zS} {σ τ : zI} {Q : zQ} {x1 : Int} {x2 : Int} {x3 : Int} {x4 : Int} {x5 : Int} {x6 : Int} {x7 : Int} {x8 : Int} {x9 : Int} {y10 : Value} {s0 : Int} (t : (0 ≤ x3 + 1 ∧ x3 + 1 < 112300) ∧ ∃ w3 : Int, wI w3 = wI ((σ 84 (x3 + 1)) - s0) ∧ rg w3 ∧ (0 ≤ x3 + 2 ∧ x3 + 2 < 112300) ∧ ∃ w8 : Int, wI w8 = wI (((u1 (σ 84) (x3 + 1) w3) (x3 + 2)) - s0) ∧ rg w8 ∧ (0 ≤ x4 ∧ x4 < 112300) ∧ ∃ w13 : Int, wI w13 = wI (((u1 (u1 (σ 84) (x3 + 1) w3) (x3 + 2) w8) x4) + s0) ∧ rg w13 ∧ Q none S (uc σ 84 (u1 (u1 (u1 (σ 84) (x3 + 1) w3) (x3 + 2) w8) x4 w13)) τ) : wi (d + 3) 290 381 [.ref 83, .int (wI x1), .int (wI x2), .int (wI x3), .int (wI x4), .int (wI x5), .int (wI x6), .int (wI x7), .int (wI x8), .int (wI x9), y10] [.int (wI s0)] S σ τ Q := by
  obtain ⟨r1, t⟩ := t
  refine i6 (L' := [.ref 83, .int (wI x1), .int (wI x2), .int (wI x3), .int (wI x4), .int (wI x5), .int (wI x6), .int (wI x7), .int (wI x8), .int (wI x9), .int (wI s0)]) c_290_381 rfl (i5 c_290_383 rfl (i45 c_290_384 (lo (c := 83) (kd := 112) (n := 0) rfl (by decide)) (lro (c := 83) (k := 0) (j := 84) (by decide)) (i3 c_290_387 rfl (i1 c_290_388 (i10 c_290_389 (i34a c_290_390 (wi_ok (fun K2 => ?_))))))))
  obtain ⟨w3, e4, r5, t⟩ := t
  obtain ⟨r6, t⟩ := t
  refine i50 (v := σ 84 (x3 + 1)) c_290_391 (lo (c := 84) (kd := 0) (n := 112300) rfl (by decide)) (by decide) r1 rfl (i3 c_290_392 rfl (i11 c_290_394 (i54 (σ1 := uc σ 84 (u1 (σ 84) (x3 + 1) w3)) c_290_395 (lo (c := 84) (kd := 0) (n := 112300) rfl (by decide)) (by decide) r1 (by decide) e4 r5 (wr_ rfl rfl) (i5 c_290_396 rfl (i45 c_290_397 (lo (c := 83) (kd := 112) (n := 0) rfl (by decide)) (lro (c := 83) (k := 0) (j := 84) (by decide)) (i3 c_290_400 rfl (i1 c_290_401 (i10 c_290_402 (i34a c_290_403 (wi_ok (fun K7 => ?_)))))))))))
  obtain ⟨w8, e9, r10, t⟩ := t
  obtain ⟨r11, t⟩ := t
  refine i50 (v := (u1 (σ 84) (x3 + 1) w3) (x3 + 2)) c_290_404 (lo (c := 84) (kd := 0) (n := 112300) rfl (by decide)) (by decide) r6 (congrFun (uc_s _ _ _) _) (i3 c_290_405 rfl (i11 c_290_407 (i54 (σ1 := uc σ 84 (u1 (u1 (σ 84) (x3 + 1) w3) (x3 + 2) w8)) c_290_408 (lo (c := 84) (kd := 0) (n := 112300) rfl (by decide)) (by decide) r6 (by decide) e9 r10 (wr_ (uc_s _ _ _) (uc_uc _ _ _ _)) (i5 c_290_409 rfl (i45 c_290_410 (lo (c := 83) (kd := 112) (n := 0) rfl (by decide)) (lro (c := 83) (k := 0) (j := 84) (by decide)) (i3 c_290_413 rfl (i34a c_290_415 (wi_ok (fun K12 => ?_)))))))))
  obtain ⟨w13, e14, r15, t⟩ := t
  refine i50 (v := (u1 (u1 (σ 84) (x3 + 1) w3) (x3 + 2) w8) x4) c_290_416 (lo (c := 84) (kd := 0) (n := 112300) rfl (by decide)) (by decide) r11 (congrFun (uc_s _ _ _) _) (i3 c_290_417 rfl (i10 c_290_419 (i54 (σ1 := uc σ 84 (u1 (u1 (u1 (σ 84) (x3 + 1) w3) (x3 + 2) w8) x4 w13)) c_290_420 (lo (c := 84) (kd := 0) (n := 112300) rfl (by decide)) (by decide) r11 (by decide) e14 r15 (wr_ (uc_s _ _ _) (uc_uc _ _ _ _)) ?_)))
  exact i94 c_290_421 t
theorem q_290 {d : Nat} {S : zS} {σ τ : zI} {Q : zQ} {h : Int} {w : Int} {b : Int → Int} {L : Int} (p0 : σ 84 = b) (p1 : HP b L h) (p2 : w = b 0) (p3 : σ 83 30 = L) (t : ∀ (σ1 : zI), σ1 84 = r_hg b L h → (∀ c, c ≠ 84 → σ1 c = σ c) → Q none S σ1 τ) : wc (d + 3) 290 [.ref 83, .int (wI h), .int (wI w)] S σ τ Q := by
  have H := p1
  have B := HP_b p1
  have G := hgp_of p1
  obtain ⟨⟨h0, hh, h4, hL, h15⟩, he, ⟨hs, hp, hd⟩, ⟨hc1, hc2, hc3, ht⟩, hk⟩ := p1
  have E := he (b 4) h4.1 (Int.le_refl _)
  subst p2
  refine wc_of mi_290 rfl (u_290_0 ?_)
  rw [p0]
  refine ⟨by omega, ?_⟩
  have es : b (3460 + 8 * h + 0) = hg_s b h := rfl
  rw [es]
  -- the end
  have fin : ∀ σ' : zI, (∀ c, c ≠ 84 → σ' c = σ c) → σ' 84 = hG b (24 * b 0 + h) (3460 + 8 * h) (3428 + 8 * hg_s b h) (hg_e b h (b 4)) (hg_n b L h) (b (41500 + (24 * b 0 + h))) (b (31900 + (24 * b 0 + h))) (b 15) (hg_P2 b L h) (hg_D2 b L h) (hg_C2 b L h) → ∀ x6 y10, wi (d + 3) 290 294 [.ref 83, .int (wI h), .int (wI (b 0)), .int (wI (3460 + 8 * h)), .int (wI (3428 + 8 * hg_s b h)), .int (wI (24 * b 0 + h)), .int (wI x6), .int (wI (r_need b h)), .int (wI (hg_N b L h)), .int (wI (hg_mo b h)), y10] [] S σ' τ Q := fun σ' f1 f3 x6 y10 => by
    have eN : hg_N b L h = hg_n b L h + hg_k b L h := rfl
    have t := t (uc σ' 84 (r_hg b L h)) rfl (fun c hc => by rw [uc_n hc]; exact f1 c hc)
    refine u_290_294 ?_
    rw [f3]
    refine ⟨by omega, hg_N b L h, rfl, by omega, ?_⟩
    rw [hG_uN G, hG_rlv G]
    refine ⟨b 15 + hg_N b L h, rfl, by omega, by omega, r_need b h - hg_N b L h, rfl, by omega, by omega, by omega, ?_⟩
    rw [hG_ulv G, hG_uhu G, hG_rD G, hG_rP G]
    refine ifI (fun e => ⟨by omega, by omega, ?_⟩) (fun e => ?_)
    · have back : ∀ s0, s0 = hg_bk b L h → wi (d + 3) 290 381 [.ref 83, .int (wI h), .int (wI (b 0)), .int (wI (3460 + 8 * h)), .int (wI (3428 + 8 * hg_s b h)), .int (wI (24 * b 0 + h)), .int (wI x6), .int (wI (r_need b h)), .int (wI (hg_N b L h)), .int (wI (hg_mo b h)), y10] [.int (wI s0)] S (uc σ' 84 (hG b (24 * b 0 + h) (3460 + 8 * h) (3428 + 8 * hg_s b h) (hg_e b h (b 4)) (hg_n b L h) (hg_N b L h) (r_need b h - hg_N b L h) (b 15 + hg_N b L h) (hg_P2 b L h) (hg_D2 b L h) (hg_C2 b L h))) τ Q := fun s0 hs0 => by
        subst hs0
        refine u_290_381 ?_
        rw [uc_s, hG_rP G]
        refine ⟨by omega, hg_P2 b L h - hg_bk b L h, rfl, by omega, by omega, ?_⟩
        rw [hG_uP G, hG_rD G]
        refine ⟨hg_D2 b L h - hg_bk b L h, rfl, by omega, by omega, ?_⟩
        rw [hG_uD G, hG_rC G]
        refine ⟨hg_C2 b L h + hg_bk b L h, rfl, by omega, ?_⟩
        rw [hG_uC G, uc_uc]
        exact t
      refine ifI (fun e1 => back _ ?_) (fun e1 => back _ ?_)
      · unfold hg_bk; rw [if_pos e, if_neg (by omega)]
      · unfold hg_bk; rw [if_pos e, if_pos (by omega)]
    · have eb : hg_bk b L h = 0 := by unfold hg_bk; rw [if_neg e]
      unfold r_hg at t
      rw [eb, Int.sub_zero, Int.sub_zero, Int.add_zero] at t
      exact t
  -- on TRUST
  have trust : ∀ i, 0 ≤ i → i ≤ hg_k b L h → ∀ σ' : zI, (∀ c, c ≠ 84 → σ' c = σ c) → σ' 84 = hG b (24 * b 0 + h) (3460 + 8 * h) (3428 + 8 * hg_s b h) (hg_e b h (b 4)) (hg_n b L h) (b (41500 + (24 * b 0 + h))) (b (31900 + (24 * b 0 + h))) (b 15) (hg_P2 b L h) (b (3460 + 8 * h + 2) + i * L) (b (3428 + 8 * hg_s b h) - i * L) → ∀ x6 y10, wi (d + 3) 290 208 [.ref 83, .int (wI h), .int (wI (b 0)), .int (wI (3460 + 8 * h)), .int (wI (3428 + 8 * hg_s b h)), .int (wI (24 * b 0 + h)), .int (wI x6), .int (wI (r_need b h)), .int (wI (hg_n b L h + i)), .int (wI (hg_mo b h)), y10] [] S σ' τ Q := by
    refine lp_up (fun i i0 i1 ih => ?_)
    intro σ' f1 f3 x6 y10
    have ti := wk_tr_i (lack := r_need b h - hg_n b L h) (C := b (3428 + 8 * hg_s b h)) (D := b (3460 + 8 * h + 2)) (most := hg_mo b h) (L := L) (F := b (3428 + 8 * hg_s b h + 3)) (i := i) (by omega) hL.1 ⟨i0, i1⟩
    have ek : hg_k b L h = wk_tr (r_need b h - hg_n b L h) (b (3428 + 8 * hg_s b h)) (b (3460 + 8 * h + 2)) (hg_mo b h) L (b (3428 + 8 * hg_s b h + 3)) := rfl
    rw [← ek] at ti
    have iL0 : 0 ≤ i * L := Int.mul_nonneg i0 (by omega)
    have iL1 : i * L ≤ hg_k b L h * L := Int.mul_le_mul_of_nonneg_right i1 (by omega)
    have dD : hg_D2 b L h = b (3460 + 8 * h + 2) + hg_k b L h * L := rfl
    have dC : hg_C2 b L h = b (3428 + 8 * hg_s b h) - hg_k b L h * L := rfl
    have v3 : σ' 84 (3428 + 8 * hg_s b h + 3) = b (3428 + 8 * hg_s b h + 3) := by rw [f3]; exact hG_k (by omega)
    have vC : σ' 84 (3428 + 8 * hg_s b h) = b (3428 + 8 * hg_s b h) - i * L := by rw [f3]; exact hG_rC G
    have vD : σ' 84 (3460 + 8 * h + 2) = b (3460 + 8 * h + 2) + i * L := by rw [f3]; exact hG_rD G
    have vL : σ' 83 30 = L := by rw [f1 83 (by decide)]; exact p3
    have stop : i = hg_k b L h → wi (d + 3) 290 294 [.ref 83, .int (wI h), .int (wI (b 0)), .int (wI (3460 + 8 * h)), .int (wI (3428 + 8 * hg_s b h)), .int (wI (24 * b 0 + h)), .int (wI x6), .int (wI (r_need b h)), .int (wI (hg_n b L h + i)), .int (wI (hg_mo b h)), y10] [] S σ' τ Q := fun ei => by
      have q := fin σ' f1 (by rw [f3, ei]; rfl) x6 y10
      have eN : hg_N b L h = hg_n b L h + i := by rw [ei]; rfl
      rw [eN] at q
      exact q
    refine u_290_208 ?_
    rw [v3, vC, vD, vL]
    have il : ∀ (P : Prop), (i < hg_k b L h → P → False) → P → i = hg_k b L h := fun P hq hP => by
      by_cases c : i < hg_k b L h
      · exact absurd hP (hq c)
      · omega
    refine ⟨by omega, by omega, ifI (fun e => stop (il _ (fun q r => by have := ti.1 q; omega) e)) (fun e => ⟨by omega, ifI (fun e1 => ⟨by omega, ifI (fun e2 => stop (il _ (fun q r => by have := ti.1 q; omega) e2)) (fun e2 => ⟨by omega, by omega, by omega, ifI (fun e3 => stop (il _ (fun q r => by have := ti.1 q; omega) e3)) (fun e3 => ?_)⟩)⟩) (fun e1 => stop (il _ (fun q r => by have := ti.1 q; omega) e1))⟩)⟩
    have c : i < hg_k b L h := by
      by_cases c : i < hg_k b L h
      · exact c
      · have := ti.2 (by omega); omega
    have e5 : (i + 1) * L = i * L + L := by rw [Int.add_mul, Int.one_mul]
    refine ⟨b (3428 + 8 * hg_s b h) - (i + 1) * L, by rw [e5]; congr 1; omega, by omega, b (3460 + 8 * h + 2) + (i + 1) * L, ?_, by omega, ?_⟩
    · rw [f3, hG_uC G, hG_rD G, e5]; congr 1; omega
    have q := ih c (uc σ' 84 (u1 (u1 (σ' 84) (3428 + 8 * hg_s b h) (b (3428 + 8 * hg_s b h) - (i + 1) * L)) (3460 + 8 * h + 2) (b (3460 + 8 * h + 2) + (i + 1) * L))) (fun c hc => by rw [uc_n hc]; exact f1 c hc) ?_ x6 y10
    · rw [← Int.add_assoc] at q; exact q
    · rw [uc_s, f3, hG_uC G, hG_uD G]
  -- what it can pay
  have buy : ∀ s0, s0 = hg_n b L h → ∀ σ' : zI, (∀ c, c ≠ 84 → σ' c = σ c) → σ' 84 = hG b (24 * b 0 + h) (3460 + 8 * h) (3428 + 8 * hg_s b h) (hg_e b h (b 4)) (b (51100 + (24 * b 0 + h))) (b (41500 + (24 * b 0 + h))) (b (31900 + (24 * b 0 + h))) (b 15) (hg_P1 b h) (b (3460 + 8 * h + 2)) (b (3428 + 8 * hg_s b h)) → ∀ x6 y8 y9 y10, wi (d + 3) 290 150 [.ref 83, .int (wI h), .int (wI (b 0)), .int (wI (3460 + 8 * h)), .int (wI (3428 + 8 * hg_s b h)), .int (wI (24 * b 0 + h)), .int (wI x6), .int (wI (r_need b h)), y8, y9, y10] [.int (wI s0)] S σ' τ Q := fun s0 hs0 σ' f1 f3 x6 y8 y9 y10 => by
    subst hs0
    have vL : σ' 83 30 = L := by rw [f1 83 (by decide)]; exact p3
    have eP : hg_P2 b L h = hg_P1 b h - hg_n b L h * L := rfl
    refine u_290_150 ?_
    rw [vL, f3, hG_rP G]
    refine ⟨by omega, hg_P2 b L h, by rw [eP], by omega, by omega, hg_n b L h, rfl, by omega, by omega, ?_⟩
    rw [hG_uP G, hG_un G]
    obtain ⟨A, hA⟩ : ∃ A, A = hG b (24 * b 0 + h) (3460 + 8 * h) (3428 + 8 * hg_s b h) (hg_e b h (b 4)) (hg_n b L h) (b (41500 + (24 * b 0 + h))) (b (31900 + (24 * b 0 + h))) (b 15) (hg_P2 b L h) (b (3460 + 8 * h + 2)) (b (3428 + 8 * hg_s b h)) := ⟨_, rfl⟩
    rw [← hA]
    have A1 : A (3428 + 8 * hg_s b h + 1) = b (3428 + 8 * hg_s b h + 1) := by rw [hA]; exact hG_k (by omega)
    have ael : ∀ k, k < b 0 → el1 A h k = el1 b h k := fun k hk2 => by
      unfold el1
      split
      · rw [hA]; exact hG_k (by omega)
      · rfl
    have ael0 : el1 A h (b 0) = hg_e b h (b 4) := by
      unfold el1
      rw [if_pos h0.1, hA, show 22300 + 24 * b 0 + h = 22300 + (24 * b 0 + h) by omega]
      exact hG_re G
    have ar : r_el A h (b 0) = hg_el b h := by
      unfold r_el hg_el
      rw [ael _ (by omega), ael _ (by omega), ael _ (by omega), ael0]
    rw [uc_s, ar, A1]
    refine ⟨by omega, by omega, by omega, by omega, ?_⟩
    have q := trust 0 (by omega) (by omega) (uc σ' 84 A) (fun c hc => by rw [uc_n hc]; exact f1 c hc) (by rw [uc_s, hA, Int.zero_mul, Int.add_zero, Int.sub_zero]) x6 y10
    rw [Int.add_zero] at q
    exact q
  -- the PERSONS
  have key : ∀ p, 0 ≤ p → p ≤ b 4 → ∀ y8 y9 y10, wi (d + 3) 290 40 [.ref 83, .int (wI h), .int (wI (b 0)), .int (wI (3460 + 8 * h)), .int (wI (3428 + 8 * hg_s b h)), .int (wI (24 * b 0 + h)), .int (wI (hg_e b h p)), .int (wI p), y8, y9, y10] [] S σ τ Q := by
    refine lp_up (fun p q0 q1 ih => ?_)
    intro y8 y9 y10
    have ep := he p q0 q1
    refine u_290_40 ?_
    rw [p0, p3]
    refine ⟨by omega, ifI (fun e => ?_) (fun e => ?_)⟩
    · have e : p = b 4 := by omega
      subst e
      obtain ⟨A, hA⟩ : ∃ A, A = hG b (24 * b 0 + h) (3460 + 8 * h) (3428 + 8 * hg_s b h) (hg_e b h (b 4)) (b (51100 + (24 * b 0 + h))) (b (41500 + (24 * b 0 + h))) (b (31900 + (24 * b 0 + h))) (b 15) (hg_P1 b h) (b (3460 + 8 * h + 2)) (b (3428 + 8 * hg_s b h)) := ⟨_, rfl⟩
      have i0 : u1 b (22300 + (24 * b 0 + h)) (hg_e b h (b 4)) = hG b (24 * b 0 + h) (3460 + 8 * h) (3428 + 8 * hg_s b h) (hg_e b h (b 4)) (b (51100 + (24 * b 0 + h))) (b (41500 + (24 * b 0 + h))) (b (31900 + (24 * b 0 + h))) (b 15) (b (3460 + 8 * h + 1)) (b (3460 + 8 * h + 2)) (b (3428 + 8 * hg_s b h)) := hG_u0 G
      refine ⟨by omega, hg_e b h (b 4), rfl, by omega, by omega, hg_P1 b h, ?_, by omega, by omega, ?_⟩
      · rw [i0, hG_rP G]; rfl
      rw [i0, hG_uP G, ← hA]
      have Ak : ∀ k, 3652 ≤ k → k < 3652 + 12 * b 4 → A k = b k := fun k k0 k1 => by rw [hA]; exact hG_k (by omega)
      have A4 : A 4 = b 4 := by rw [hA]; exact hG_k (by omega)
      have An : r_need A h = r_need b h := (gNeed A4 Ak h).1
      rw [uc_s, A4, An]
      refine ⟨h4, fun v hv vb => ?_⟩
      subst hv
      refine ⟨by omega, by omega, by omega, ifI (fun e1 => ?_) (fun e1 => ⟨by omega, ?_⟩)⟩
      · refine buy _ ?_ _ (fun c hc => by rw [uc_n hc]) (by rw [uc_s, hA]) _ _ _ _
        unfold hg_n; rw [if_neg (by omega)]
      · refine buy _ ?_ _ (fun c hc => by rw [uc_n hc]) (by rw [uc_s, hA]) _ _ _ _
        unfold hg_n; rw [if_pos (by omega)]
    · have ih := ih (by omega)
      have eS : hg_e b h (p + 1) = hg_e b h p + (if b (3652 + 12 * p + 0) = h then b (3652 + 12 * p + 8) else 0) := sI_s q0
      rw [eS] at ih
      refine ⟨by omega, by omega, ifI (fun e1 => ⟨by omega, u_290_75 ?_⟩) (fun e1 => u_290_75 ?_)⟩
      · rw [if_pos e1] at ih; exact ih _ _ _
      · rw [if_neg e1, Int.add_zero] at ih; exact ih _ _ _
  exact key 0 (by omega) (by omega) _ _ _
