/-! ===== the rules for calls, returns and what the platform does (own work) ===== -/
section ZR
variable {d M pc : Nat} {L st L' : List Value} {S : zS} {σ τ σ1 τ1 : zI} {Q : zQ} {a b k : Nat} {z : Int}
theorem i90 {v : Int} (hI : pg_cd M pc = (90, a, b, k, z)) (t : Q (some (.int (wI v))) S σ τ) : wi d M pc L [.int (wI v)] S σ τ Q := fun K => g90 hI ⟨S, σ, τ, rfl, K, t⟩
theorem i91 {v : Int} (hI : pg_cd M pc = (91, a, b, k, z)) (hv : v = 0 ∨ v = 1) (t : Q (some (.int (wI v))) S σ τ) : wi d M pc L [.int (wI v)] S σ τ Q := fun K => g91 hI ⟨by rcases hv with rfl | rfl; exact Or.inl rfl; exact Or.inr rfl, S, σ, τ, rfl, K, t⟩
theorem i92 {v : Int} (hI : pg_cd M pc = (92, a, b, k, z)) (t : Q (some (.long (wJ v))) S σ τ) : wi d M pc L [.long (wJ v)] S σ τ Q := fun K => g92 hI ⟨S, σ, τ, rfl, K, t⟩
theorem i93a {v : Nat} (hI : pg_cd M pc = (93, a, b, k, z)) (t : Q (some (.ref v)) S σ τ) : wi d M pc L [.ref v] S σ τ Q := fun K => g93a hI ⟨S, σ, τ, rfl, K, t⟩
theorem i93n (hI : pg_cd M pc = (93, a, b, k, z)) (t : Q (some .null) S σ τ) : wi d M pc L [.null] S σ τ Q := fun K => g93n hI ⟨S, σ, τ, rfl, K, t⟩
theorem i94 (hI : pg_cd M pc = (94, a, b, k, z)) (t : Q none S σ τ) : wi d M pc L [] S σ τ Q := fun K => g94 hI ⟨S, σ, τ, rfl, K, t⟩
theorem i80 {As rest : List Value} {i n c na mx : Nat} (hI : pg_cd M pc = (80, a, b, k, z)) (hm : pg_mc a = c ∧ pg_na a = na ∧ pg_mx a = mx) (hst : st = As.reverse ++ .ref i :: rest) (hn : As.length = na) (hr : (rest.map fun v => v.category).sum ≤ 8) (hl : (ab_sl (.ref i :: As)).length ≤ mx) (ho : kO S σ τ → oK S i (100 + c) n) (t : wc d a (.ref i :: As) S σ τ (fun r S' σ' τ' => wi (d + 1) M (pc + 3) L (r.toList ++ rest) S' σ' τ' Q)) : wi (d + 1) M pc L st S σ τ Q := fun K => by
  obtain ⟨rfl, rfl, rfl⟩ := hm
  refine g80 hI hst hn hr hl (oK_ok (ho K)) (wq_to (t K) ?_)
  rintro r h' ⟨S', σ', τ', e, K', q⟩
  subst e
  exact q K'
theorem i81 {As rest : List Value} {c na mx : Nat} (hI : pg_cd M pc = (81, a, b, k, z)) (hm : pg_mc a = c ∧ pg_na a = na ∧ pg_mx a = mx) (hst : st = As.reverse ++ rest) (hn : As.length = na) (hr : (rest.map fun v => v.category).sum ≤ 8) (hl : (ab_sl As).length ≤ mx) (t : wc d a As S σ τ (fun r S' σ' τ' => wi (d + 1) M (pc + 3) L (r.toList ++ rest) S' σ' τ' Q)) : wi (d + 1) M pc L st S σ τ Q := fun K => by
  obtain ⟨rfl, rfl, rfl⟩ := hm
  refine g81 hI hst hn hr hl (wq_to (t K) ?_)
  rintro r h' ⟨S', σ', τ', e, K', q⟩
  subst e
  exact q K'
theorem wc_of {As B : List Value} {c na mx : Nat} (hm : pg_mc M = c ∧ pg_na M = na ∧ pg_mx M = mx) (he : ab_ent As mx = B) (t : wi d M 0 B [] S σ τ Q) : wc d M As S σ τ Q := fun K => by
  obtain ⟨rfl, rfl, rfl⟩ := hm
  subst he
  exact t K
theorem i62 {i j n1 n2 : Nat} {sp dp n : Int} (hI : pg_cd M pc = (62, a, b, k, z)) (hr : (st.map fun v => v.category).sum ≤ 8) (hi : kO S σ τ → oK S i 0 n1) (hj : kO S σ τ → oK S j 0 n2) (h1 : n1 < 2147483648) (h2 : n2 < 2147483648) (hb : 0 ≤ sp ∧ 0 ≤ dp ∧ 0 ≤ n ∧ sp + n ≤ n1 ∧ dp + n ≤ n2) (hc : isR j = false) (hσ : uc σ j (fun k => if dp ≤ k ∧ k < dp + n then σ i (sp + (k - dp)) else σ j k) = σ1) (t : wi d M (pc + 3) L st S σ1 τ Q) : wi d M pc L (.int (wI n) :: .int (wI dp) :: .ref j :: .int (wI sp) :: .ref i :: st) S σ τ Q := fun K => by
  obtain ⟨b1, b2, b3, b4, b5⟩ := hb
  have r1 : rg sp := ⟨by omega, by omega⟩
  have r2 : rg dp := ⟨by omega, by omega⟩
  have r3 : rg n := ⟨by omega, by omega⟩
  have c1 := wI_clamp b1 r1
  have c2 := wI_clamp b2 r2
  have c3 := wI_clamp b3 r3
  have nn : ∀ x : Int, 0 ≤ x → rg x → ¬ wI x < 0 := fun x h0 hx q => by
    rw [← wI_0, wI_lt hx (by decide)] at q; omega
  refine g62 hI ⟨⟨oK_ok (hi K), oK_ok (hj K)⟩, ⟨nn _ b1 r1, nn _ b2 r2, nn _ b3 r3⟩, ?_, ?_, hr⟩ (fun h1 e => ?_)
  · rw [c1, c3, oK_len (hi K)]; omega
  · rw [c2, c3, oK_len (hj K)]; omega
  · have e2 : ab_row (hp S σ τ) j (va_cpy (ab_i (hp S σ τ) i) (ab_i (hp S σ τ) j) (wI sp).toNatClampNeg (wI dp).toNatClampNeg (wI n).toNatClampNeg) = hp S σ1 τ := by
      rw [← hσ, c1, c2, c3]
      unfold ab_row hp
      simp only [Prod.mk.injEq, true_and, and_true]
      funext x y
      unfold uc va_cpy ab_i
      by_cases hx : x = j
      · rw [if_pos hx, if_pos hx]
        dsimp only
        by_cases hy : dp.toNat ≤ y ∧ y < dp.toNat + n.toNat
        · rw [if_pos hy, if_pos (by omega)]
          have : ((sp.toNat + (y - dp.toNat) : Nat) : Int) = sp + ((y : Int) - dp) := by omega
          rw [this]
        · rw [if_neg hy, if_neg (by omega)]
      · rw [if_neg hx, if_neg hx]
    rw [e, e2]
    refine t (hσ ▸ kO_w K (fun k => ?_) hc)
    split
    · exact K.2.1 _ _
    · exact K.2.1 _ _
theorem i73 {x y : Int} (hI : pg_cd M pc = (73, a, b, k, z)) (hr : (st.map fun v => v.category).sum ≤ 8) (hd : 7 ≤ d) (rx : rg x) (ry : rg y) (t : wi d M (pc + 3) L (.int (wI (max x y)) :: st) S σ τ Q) : wi d M pc L (.int (wI y) :: .int (wI x) :: st) S σ τ Q := fun K => g73 hI hr hd (by
  have e : (if wI x < wI y then wI y else wI x) = wI (max x y) := by
    by_cases c : x < y
    · rw [if_pos ((wI_lt rx ry).mpr c), Int.max_eq_right (by omega)]
    · rw [if_neg (fun q => c ((wI_lt rx ry).mp q)), Int.max_eq_left (by omega)]
  rw [e]; exact t K)
theorem i74 {x y : Int} (hI : pg_cd M pc = (74, a, b, k, z)) (hr : (st.map fun v => v.category).sum ≤ 8) (hd : 7 ≤ d) (rx : rg x) (ry : rg y) (t : wi d M (pc + 3) L (.int (wI (min x y)) :: st) S σ τ Q) : wi d M pc L (.int (wI y) :: .int (wI x) :: st) S σ τ Q := fun K => g74 hI hr hd (by
  have e : (if wI y < wI x then wI y else wI x) = wI (min x y) := by
    by_cases c : y < x
    · rw [if_pos ((wI_lt ry rx).mpr c), Int.min_eq_right (by omega)]
    · rw [if_neg (fun q => c ((wI_lt ry rx).mp q)), Int.min_eq_left (by omega)]
  rw [e]; exact t K)
theorem i75 {x : Int} (hI : pg_cd M pc = (75, a, b, k, z)) (hr : (st.map fun v => v.category).sum ≤ 8) (hd : 7 ≤ d) (rx : rg x) (t : wi d M (pc + 3) L (.int (wI (max x (-x))) :: st) S σ τ Q) : wi d M pc L (.int (wI x) :: st) S σ τ Q := fun K => g75 hI hr hd (by
  have e : (if 0 ≤ wI x then wI x else 0 - wI x) = wI (max x (-x)) := by
    have e0 : (0 ≤ wI x) ↔ 0 ≤ x := by rw [← wI_0]; exact wI_le (by decide) rx
    by_cases c : 0 ≤ x
    · rw [if_pos (e0.mpr c), Int.max_eq_left (by omega)]
    · rw [if_neg (fun q => c (e0.mp q)), Int.max_eq_right (by omega), ← wI_0, wI_sub, Int.zero_sub]
  rw [e]; exact t K)
theorem i76 {x y : Int} (hI : pg_cd M pc = (76, a, b, k, z)) (hr : (st.map fun v => v.category).sum ≤ 8) (hd : 7 ≤ d) (rx : rj x) (ry : rj y) (t : wi d M (pc + 3) L (.long (wJ (max x y)) :: st) S σ τ Q) : wi d M pc L (.long (wJ y) :: .long (wJ x) :: st) S σ τ Q := fun K => g76 hI hr hd (by
  have e : (if wJ y < wJ x then wJ x else wJ y) = wJ (max x y) := by
    by_cases c : y < x
    · rw [if_pos ((wJ_lt ry rx).mpr c), Int.max_eq_left (by omega)]
    · rw [if_neg (fun q => c ((wJ_lt ry rx).mp q)), Int.max_eq_right (by omega)]
  rw [e]; exact t K)
theorem i77 {x y : Int} (hI : pg_cd M pc = (77, a, b, k, z)) (hr : (st.map fun v => v.category).sum ≤ 8) (hd : 7 ≤ d) (rx : rj x) (ry : rj y) (t : wi d M (pc + 3) L (.long (wJ (min x y)) :: st) S σ τ Q) : wi d M pc L (.long (wJ y) :: .long (wJ x) :: st) S σ τ Q := fun K => g77 hI hr hd (by
  have e : (if wJ y < wJ x then wJ y else wJ x) = wJ (min x y) := by
    by_cases c : y < x
    · rw [if_pos ((wJ_lt ry rx).mpr c), Int.min_eq_right (by omega)]
    · rw [if_neg (fun q => c ((wJ_lt ry rx).mp q)), Int.min_eq_left (by omega)]
  rw [e]; exact t K)
theorem i78 (hI : pg_cd M pc = (78, a, b, k, z)) (hd : 7 ≤ d) (t : wi d M (pc + a) L (.retAddr 1 :: st) S σ τ Q) : wi d M pc L st S σ τ Q := fun K => g78 hI hd (t K)
theorem i70 {n : Int} (hI : pg_cd M pc = (70, a, b, k, z)) (hr : (st.map fun v => v.category).sum ≤ 8) (hd : 7 ≤ d) (hn : (pg_tx.length : Int) = n) (t : wi d M (pc + 3) L (.int (wI n) :: st) S σ τ Q) : wi d M pc L (.retAddr 1 :: st) S σ τ Q := fun K => g70 hI hr hd (by rw [wI_ofNat, hn]; exact t K)
theorem i71 {x : Int} (hI : pg_cd M pc = (71, a, b, k, z)) (hr : (st.map fun v => v.category).sum ≤ 8) (hd : 7 ≤ d) (hx : 0 ≤ x ∧ x < pg_tx.length) (t : wi d M (pc + 3) L (.int (wI (pg_tx.getD x.toNat 0)) :: st) S σ τ Q) : wi d M pc L (.int (wI x) :: .retAddr 1 :: st) S σ τ Q := fun K => by
  have hl : pg_tx.length < 1000 := by decide
  have r : rg x := ⟨by omega, by omega⟩
  refine g71 hI hr hd (wI_in hx.1 hx.2 r) ?_
  rw [wI_clamp hx.1 r]
  exact t K
end ZR
/-- tables: the cell r is a table of width w, its numbers in the next cell, of n places -/
def oW (S : zS) (σ : zI) (r w n : Nat) : Prop := oK S r 104 0 ∧ S.2.2.2 r 1 = some (r + 1) ∧ oK S (r + 1) 0 n ∧ σ r 0 = w ∧ 0 < w ∧ 0 ≤ σ r 2 ∧ σ r 2 * w ≤ n ∧ n ≤ 100000 ∧ isR (r + 1) = false ∧ (∀ q ∈ lwT, q.1 = r → q.2.2 * w = n) ∧ w ≤ 1000
theorem oWl {S : zS} {σ : zI} {r w n c : Nat} {f : Int → Int} (h : oW S σ r w n) (hne : r ≠ c) : oW S (uc σ c f) r w n := by
  unfold oW at *
  rw [uc_n hne]
  exact h
def rt_ (cnt : Int) (f : Int → Int) (w : Nat) (k row : Int) : Int := if 0 ≤ row ∧ row < cnt then f (row * w + k) else -1
def ra_ (cnt : Int) (f : Int → Int) (w : Nat) (row col : Int) : Int := if (0 ≤ row ∧ row < cnt) ∧ (0 ≤ col ∧ col < w) then f (row * w + col) else -1
theorem rt_c {c c' : Int} {f f' : Int → Int} {w : Nat} {k row : Int} (h1 : c = c') (h2 : f = f') : rt_ c f w k row = rt_ c' f' w k row := by rw [h1, h2]
theorem ra_c {c c' : Int} {f f' : Int → Int} {w : Nat} {row col : Int} (h1 : c = c') (h2 : f = f') : ra_ c f w row col = ra_ c' f' w row col := by rw [h1, h2]
theorem rg_rt_ {f : Int → Int} (h : ∀ k, rg (f k)) (cnt : Int) (w : Nat) (k row : Int) : rg (rt_ cnt f w k row) := by
  unfold rt_
  split
  · exact h _
  · decide
theorem rg_ra_ {f : Int → Int} (h : ∀ k, rg (f k)) (cnt : Int) (w : Nat) (row col : Int) : rg (ra_ cnt f w row col) := by
  unfold ra_
  split
  · exact h _
  · decide
theorem lwT_u : ∀ q ∈ lwT, ∀ q' ∈ lwT, q.1 = q'.1 → q = q' := by decide +kernel
theorem lwo {S : zS} {σ τ : zI} {r w m n : Nat} (h1 : lyT[r]? = some (104, 0)) (h2 : (r, 1, r + 1) ∈ lrT) (h3 : lyT[r + 1]? = some (0, n)) (h4 : (r, w, m) ∈ lwT) (h5 : isR (r + 1) = false) (h6 : 0 < r ∧ 0 < w ∧ m * w = n ∧ n ≤ 100000 ∧ w ≤ 1000) : kO S σ τ → oW S σ r w n := fun K => by
  obtain ⟨q1, q2, q3⟩ := K.2.2.2 _ h4
  dsimp only at q1 q2 q3
  refine ⟨lo h1 h6.1 K, lro h2 K, lo h3 (by omega) K, q1, h6.2.1, q2, ?_, h6.2.2.2.1, h5, fun q hq e => ?_, h6.2.2.2.2⟩
  · have : σ r 2 * (w : Int) ≤ m * w := Int.mul_le_mul_of_nonneg_right q3 (by omega)
    have e : ((m * w : Nat) : Int) = (m : Int) * w := Int.natCast_mul m w
    rw [← e, h6.2.2.1] at this
    exact this
  · rw [lwT_u q hq _ h4 e]
    exact h6.2.2.1
theorem kO_cnt {S : zS} {σ σ' τ : zI} {r w n : Nat} {v : Int} (K : kO S σ τ) (hR : oW S σ' r w n) (h0 : 0 ≤ v) (h1 : v * w ≤ n) : kO S (uc σ r (u1 (σ r) 2 v)) τ := by
  obtain ⟨-, -, -, -, hw, -, -, hn, -, hq, -⟩ := hR
  have hv : v ≤ n := by
    have : v * 1 ≤ v * w := Int.mul_le_mul_of_nonneg_left (by omega) h0
    omega
  refine ⟨K.1, fun a k => ?_, K.2.2.1, fun q hm => ?_⟩
  · unfold uc u1
    split
    · dsimp only
      split
      · omega
      · exact K.2.1 r k
    · exact K.2.1 a k
  · have k1 := K.2.2.2 q hm
    by_cases e : q.1 = r
    · rw [e] at k1 ⊢
      rw [uc_s]
      refine ⟨by rw [u1_n (by decide)]; exact k1.1, by rw [u1_s]; exact h0, ?_⟩
      rw [u1_s]
      have e2 := hq q hm e
      have : ¬ ((q.2.2 : Int) + 1 ≤ v) := fun c => by
        have a1 : ((q.2.2 : Int) + 1) * w ≤ v * w := Int.mul_le_mul_of_nonneg_right c (by omega)
        have a2 : ((q.2.2 : Int)) * w = n := by rw [← Int.natCast_mul, e2]
        rw [Int.add_mul, a2] at a1
        omega
      omega
    · rw [uc_n e]
      exact k1
theorem ow_kinds {S : zS} {σ τ : zI} {t : Nat} (h : tw t) : kO S σ τ → oW S σ (t + 1) 6 36 := lwo (lyt_1 h) (lrr_1 h) (lyt_2 h) (lwt_1 h) (ln_2 h) ⟨by omega, by omega, by omega, by omega, by omega⟩
theorem ow_wire {S : zS} {σ τ : zI} {t : Nat} (h : tw t) : kO S σ τ → oW S σ (t + 3) 401 3208 := lwo (lyt_3 h) (lrr_3 h) (lyt_4 h) (lwt_3 h) (ln_4 h) ⟨by omega, by omega, by omega, by omega, by omega⟩
theorem ow_mills {S : zS} {σ τ : zI} {t : Nat} (h : tw t) : kO S σ τ → oW S σ (t + 5) 13 104 := lwo (lyt_5 h) (lrr_5 h) (lyt_6 h) (lwt_5 h) (ln_6 h) ⟨by omega, by omega, by omega, by omega, by omega⟩
theorem ow_shops {S : zS} {σ τ : zI} {t : Nat} (h : tw t) : kO S σ τ → oW S σ (t + 7) 5 20 := lwo (lyt_7 h) (lrr_7 h) (lyt_8 h) (lwt_7 h) (ln_8 h) ⟨by omega, by omega, by omega, by omega, by omega⟩
theorem ow_homes {S : zS} {σ τ : zI} {t : Nat} (h : tw t) : kO S σ τ → oW S σ (t + 9) 8 192 := lwo (lyt_9 h) (lrr_9 h) (lyt_10 h) (lwt_9 h) (ln_10 h) ⟨by omega, by omega, by omega, by omega, by omega⟩
theorem ow_persons {S : zS} {σ τ : zI} {t : Nat} (h : tw t) : kO S σ τ → oW S σ (t + 11) 9 540 := lwo (lyt_11 h) (lrr_11 h) (lyt_12 h) (lwt_11 h) (ln_12 h) ⟨by omega, by omega, by omega, by omega, by omega⟩
theorem ow_orders {S : zS} {σ τ : zI} {t : Nat} (h : tw t) : kO S σ τ → oW S σ (t + 13) 6 480 := lwo (lyt_13 h) (lrr_13 h) (lyt_14 h) (lwt_13 h) (ln_14 h) ⟨by omega, by omega, by omega, by omega, by omega⟩
theorem ow_forces {S : zS} {σ τ : zI} {t : Nat} (h : tw t) : kO S σ τ → oW S σ (t + 15) 5 305 := lwo (lyt_15 h) (lrr_15 h) (lyt_16 h) (lwt_15 h) (ln_16 h) ⟨by omega, by omega, by omega, by omega, by omega⟩
