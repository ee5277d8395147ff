/-! ===== other code of the platform: String, walked (segments printed by wip/whole, contracts own work) ===== -/
def sx_b : List Int32 := pg_tx.map Int32.ofInt
theorem sx_bl : ∀ k, k < 98 → narrow .char (.int ((sx_b.getD k 0 &&& 255).toUInt32 % 65536).toInt32) = .int ((sx_b.getD k 0 &&& 255).toUInt32 % 65536).toInt32 ∧ ((sx_b.getD k 0 &&& 255).toUInt32 % 65536).toInt32 = Int32.ofInt (pg_tx.getD k 0) := by decide +kernel
section SE
variable {g : ab_G} {l : Launch} {adV : Nat} {t : Value} {tx : String}
/-- what was there before of the literal and of String's own -/
def sx_E (g : ab_G) (adV : Nat) (t : Value) (tx : String) : State → Prop := fun U => vk_S 1 [98] [sx_b] (fun _ => gc_s g) (fun _ => adV) (ab_S g) U U.heap ∧ va_Z "java/lang/String" "COMPACT_STRINGS" "Z" (.int 1) (ab_S g) U U.heap ∧ va_Z "jdk/internal/util/Preconditions" "SIOOBE_FORMATTER" "Ljava/util/function/BiFunction;" t (ab_S g) U U.heap ∧ vk_R "MillTown$Reader" 89 tx (gc_s g) U ∧ (t = .null ∨ ∃ a, t = .ref a)
theorem sx_cl : ab_cl g (sx_E g adV t tx) := by
  intro s U H locs h hS hU hW
  obtain ⟨h1, h2, h3, h4⟩ := h
  subst hU
  exact ⟨(h1.kept hS.2.1).moved hW.alike, (h2.kept hS.2.1).moved hW.alike, (h3.kept hS.2.1).moved hW.alike, h4.1.warm hW, h4.2⟩
theorem sx_cod : sx_M pg_Ts (sx_E g adV t tx) l sy_cod prog_16_method_152_code 1 (some .byte) 0 0 [.ref (gc_s g)] (some (.int 0)) := by
  refine sx_mk (by decide +kernel) ?_
  intro p e s m below meth c hx hb hml hown hr hlk hTW hE
  have hE' := hE
  obtain ⟨hK, hC, hF, hR⟩ := hE
  rw [lg_entry_eq]
  show W p l e _ s m _ below meth c s.heap [] 0 0 _ (F0 m 0 #[.val (.ref (gc_s g))] [])
  refine va_gets hx hb hC va_S.rf hown (hTW _ sw_f38 _) (fun x h => h) sd_16_152_0 ?_
  refine lv_if_eq hx hb (tgt := 13) sd_16_152_3 rfl (fun h => absurd h (by decide)) (fun _ => ?_)
  refine lv_aload_n hx hb (i := 0) sd_16_152_6 rfl rfl ?_
  refine vk_getf hx hb (hK.1 0 (by decide)).2.1 va_S.rf hown (hTW _ sw_f15 _) (fun x h => h) sd_16_152_7 ?_
  refine lv_goto hx hb (tgt := 14) sd_16_152_10 rfl ?_
  exact W.zret hx hb hr rfl (fun t ht _ => ⟨rfl, ht⟩) (fun q hq => absurd hq List.not_mem_nil) sd_16_152_14 hlk
theorem sx_lat : sx_M pg_Ts (sx_E g adV t tx) l sy_lat prog_16_method_154_code 1 (some .boolean) 0 0 [.ref (gc_s g)] (some (.int 1)) := by
  refine sx_mk (by decide +kernel) ?_
  intro p e s m below meth c hx hb hml hown hr hlk hTW hE
  obtain ⟨hK, hC, hF, hR⟩ := hE
  rw [lg_entry_eq]
  show W p l e _ s m _ below meth c s.heap [] 0 0 _ (F0 m 0 #[.val (.ref (gc_s g))] [])
  refine va_gets hx hb hC va_S.rf hown (hTW _ sw_f38 _) (fun x h => h) sd_16_154_0 ?_
  refine lv_if_eq hx hb (tgt := 17) sd_16_154_3 rfl (fun h => absurd h (by decide)) (fun _ => ?_)
  refine lv_aload_n hx hb (i := 0) sd_16_154_6 rfl rfl ?_
  refine vk_getf hx hb (hK.1 0 (by decide)).2.1 va_S.rf hown (hTW _ sw_f15 _) (fun x h => h) sd_16_154_7 ?_
  refine lv_if_ne hx hb (tgt := 17) sd_16_154_10 rfl (fun h => absurd rfl h) (fun _ => ?_)
  refine lv_iconst hx hb (v := 1) sd_16_154_13 rfl ?_
  refine lv_goto hx hb (tgt := 18) sd_16_154_14 rfl ?_
  exact W.zret hx hb hr rfl (fun t ht _ => ⟨rfl, ht⟩) (fun q hq => absurd hq List.not_mem_nil) sd_16_154_18 hlk
theorem sx_lenM : sx_M pg_Ts (sx_E g adV t tx) l sy_len prog_16_method_54_code 1 (some .int) 1 20 [.ref (gc_s g)] (some (.int 98)) := by
  refine sx_mk (by decide +kernel) ?_
  intro p e s m below meth c hx hb hml hown hr hlk hTW hE
  have hE' := hE
  obtain ⟨hK, hC, hF, hR⟩ := hE
  rw [lg_entry_eq]
  show W p l e _ s m _ below meth c s.heap [] 0 0 _ (F0 m 0 #[.val (.ref (gc_s g))] [])
  refine lv_aload_n hx hb (i := 0) sd_16_54_0 rfl rfl ?_
  refine vk_getf hx hb (hK.1 0 (by decide)).2.2.1 va_S.rf hown (hTW _ sw_f9 _) (fun x h => h) sd_16_54_1 ?_
  refine va_tlen hx hb (hK.1 0 (by decide)).2.2.2 va_S.rf (v := 98) rfl sd_16_54_4 ?_
  refine lv_aload_n hx hb (i := 0) sd_16_54_5 rfl rfl ?_
  refine sx_V (Bs := []) (rest := [.int 98]) (own := "java/lang/String") sx_cod pw_good sx_cl sw_cc sw_i0 (by decide) (fun sig z => sx_len (n := 0) (by decide +kernel) sig z) sw_l335 sw_nc sw_sc hx hb hml hown hTW hE' va_S.rf (vk_recv (i := 0) hK (by decide) va_S.rf) (Nat.le_refl _) (Nat.le_refl _) (Nat.le_refl _) (Nat.le_refl _) (by decide) sd_16_54_6 ?_
  refine lv_ishr hx hb (x := 98) (y := 0) (rest := []) sd_16_54_9 ?_
  have e : (98 : Int32) >>> ((0 : Int32) &&& 31) = 98 := by decide
  rw [e]
  exact W.zret hx hb hr rfl (fun t ht _ => ⟨rfl, ht⟩) (fun q hq => absurd hq List.not_mem_nil) sd_16_54_10 hlk
variable {x : Int32}
theorem sx_preM (hi : vp_in x 98) : sx_M pg_Ts (sx_E g adV t tx) l sy_pre prog_21_method_11_code 3 (some .int) 0 0 [.int x, .int 98, t] (some (.int x)) := by
  have h0 : ¬ x < 0 := fun h => hi (Or.inl h)
  have h1 : x < 98 := Int32.lt_iff_toInt_lt.mpr (by
    have := (vp_in_iff.mp hi).2
    rw [show (98 : Int32).toInt = 98 by decide]
    omega)
  refine sx_mk (by decide +kernel) ?_
  intro p e s m below meth c hx hb hml hown hr hlk hTW hE
  rcases hE.2.2.2.2 with rfl | ⟨a, rfl⟩
  · rw [lg_entry_eq]
    show W p l e _ s m _ below meth c s.heap [] 0 0 _ (F0 m 0 #[.val (.int x), .val (.int 98), .val (.null)] [])
    refine lv_iload_n hx hb (i := 0) sd_21_11_0 rfl rfl ?_
    refine lv_if_lt hx hb (tgt := 9) sd_21_11_1 rfl (fun h => absurd h h0) (fun _ => ?_)
    refine lv_iload_n hx hb (i := 0) sd_21_11_4 rfl rfl ?_
    refine lv_iload_n hx hb (i := 1) sd_21_11_5 rfl rfl ?_
    refine lv_icmp_lt hx hb (tgt := 16) sd_21_11_6 rfl (fun _ => ?_) (fun h => absurd h1 h)
    refine lv_iload_n hx hb (i := 0) sd_21_11_16 rfl rfl ?_
    exact W.zret hx hb hr rfl (fun t ht _ => ⟨rfl, ht⟩) (fun q hq => absurd hq List.not_mem_nil) sd_21_11_17 hlk
  · rw [lg_entry_eq]
    show W p l e _ s m _ below meth c s.heap [] 0 0 _ (F0 m 0 #[.val (.int x), .val (.int 98), .val (.ref a)] [])
    refine lv_iload_n hx hb (i := 0) sd_21_11_0 rfl rfl ?_
    refine lv_if_lt hx hb (tgt := 9) sd_21_11_1 rfl (fun h => absurd h h0) (fun _ => ?_)
    refine lv_iload_n hx hb (i := 0) sd_21_11_4 rfl rfl ?_
    refine lv_iload_n hx hb (i := 1) sd_21_11_5 rfl rfl ?_
    refine lv_icmp_lt hx hb (tgt := 16) sd_21_11_6 rfl (fun _ => ?_) (fun h => absurd h1 h)
    refine lv_iload_n hx hb (i := 0) sd_21_11_16 rfl rfl ?_
    exact W.zret hx hb hr rfl (fun t ht _ => ⟨rfl, ht⟩) (fun q hq => absurd hq List.not_mem_nil) sd_21_11_17 hlk
theorem sx_chkM (hi : vp_in x 98) : sx_M pg_Ts (sx_E g adV t tx) l sy_chk prog_16_method_155_code 2 none 1 22 [.int x, .int 98] none := by
  refine sx_mk (by decide +kernel) ?_
  intro p e s m below meth c hx hb hml hown hr hlk hTW hE
  have hE' := hE
  obtain ⟨hK, hC, hF, hR⟩ := hE
  rw [lg_entry_eq]
  show W p l e _ s m _ below meth c s.heap [] 0 0 _ (F0 m 0 #[.val (.int x), .val (.int 98)] [])
  refine lv_iload_n hx hb (i := 0) sd_16_155_0 rfl rfl ?_
  refine lv_iload_n hx hb (i := 1) sd_16_155_1 rfl rfl ?_
  refine va_gets hx hb hF va_S.rf hown (hTW _ sw_f1053 _) (fun x h => h) sd_16_155_2 ?_
  refine sx_S (as := [.int x, .int 98, t]) (rest := []) (own := "java/lang/String") (sx_preM hi) pw_good sx_cl sw_cp sw_i3 (by decide) (fun sig z => sx_len (n := 3) (by decide +kernel) sig z) sw_l1059 sw_tp hx hb hml hown hTW hE' va_S.rf (Nat.le_refl _) (Nat.le_refl _) (Nat.le_refl _) (Nat.le_refl _) (by decide) sd_16_155_5 ?_
  refine lv_pop hx hb (va := .int x) (rest := []) sd_16_155_8 rfl ?_
  exact W.vret hx hb hr (fun t ht _ => ⟨rfl, ht⟩) (fun q hq => absurd hq List.not_mem_nil) sd_16_155_9 hlk
theorem sx_laM (hi : vp_in x 98) : sx_M pg_Ts (sx_E g adV t tx) l sy_la prog_17_method_2_code 2 (some .char) 2 43 [.ref adV, .int x] (some (.int (Int32.ofInt (pg_tx.getD x.toNatClampNeg 0)))) := by
  have hk : x.toNatClampNeg < 98 := Nat.not_le.mp (fun h => hi (Or.inr h))
  obtain ⟨n1, n2⟩ := sx_bl _ hk
  refine sx_mk (by decide +kernel) ?_
  intro p e s m below meth c hx hb hml hown hr hlk hTW hE
  have hE' := hE
  obtain ⟨hK, hC, hF, hR⟩ := hE
  rw [lg_entry_eq]
  show W p l e _ s m _ below meth c s.heap [] 0 0 _ (F0 m 0 #[.val (.ref adV), .val (.int x)] [])
  refine lv_iload_n hx hb (i := 1) sd_17_2_0 rfl rfl ?_
  refine lv_aload_n hx hb (i := 0) sd_17_2_1 rfl rfl ?_
  refine va_tlen hx hb (hK.1 0 (by decide)).2.2.2 va_S.rf (v := 98) rfl sd_17_2_2 ?_
  refine sx_S (as := [.int x, .int 98]) (rest := []) (own := "java/lang/StringLatin1") (sx_chkM hi) pw_good sx_cl sw_ck sw_i0 (by decide) (fun sig z => sx_len (n := 2) (by decide +kernel) sig z) sw_l9 sw_tk hx hb hml hown hTW hE' va_S.rf (Nat.le_refl _) (Nat.le_refl _) (Nat.le_refl _) (Nat.le_refl _) (by decide) sd_17_2_3 ?_
  refine lv_aload_n hx hb (i := 0) (rest := []) sd_17_2_6 rfl rfl ?_
  refine lv_iload_n hx hb (i := 1) sd_17_2_7 rfl rfl ?_
  refine va_tb hx hb (hK.1 0 (by decide)).2.2.2 va_S.rf hi (v := .int (sx_b.getD x.toNatClampNeg 0)) rfl sd_17_2_8 ?_
  refine lv_sipush hx hb (v := 255) sd_17_2_9 (by decide) ?_
  refine lv_iand hx hb sd_17_2_12 ?_
  refine lv_i2c hx hb sd_17_2_13 rfl ?_
  rw [n2] at n1
  rw [n2]
  exact W.zret hx hb hr n1 (fun t ht _ => ⟨rfl, ht⟩) (fun q hq => absurd hq List.not_mem_nil) sd_17_2_14 hlk
theorem sx_atM (hi : vp_in x 98) : sx_M pg_Ts (sx_E g adV t tx) l sy_at prog_16_method_56_code 2 (some .char) 3 64 [.ref (gc_s g), .int x] (some (.int (Int32.ofInt (pg_tx.getD x.toNatClampNeg 0)))) := by
  have hk : x.toNatClampNeg < 98 := Nat.not_le.mp (fun h => hi (Or.inr h))
  obtain ⟨n1, n2⟩ := sx_bl _ hk
  rw [n2] at n1
  refine sx_mk (by decide +kernel) ?_
  intro p e s m below meth c hx hb hml hown hr hlk hTW hE
  have hE' := hE
  obtain ⟨hK, hC, hF, hR⟩ := hE
  rw [lg_entry_eq]
  show W p l e _ s m _ below meth c s.heap [] 0 0 _ (F0 m 0 #[.val (.ref (gc_s g)), .val (.int x)] [])
  refine lv_aload_n hx hb (i := 0) sd_16_56_0 rfl rfl ?_
  refine sx_V (Bs := []) (rest := []) (own := "java/lang/String") sx_lat pw_good sx_cl sw_ci sw_i0 (by decide) (fun sig z => sx_len (n := 0) (by decide +kernel) sig z) sw_l492 sw_ni sw_si hx hb hml hown hTW hE' va_S.rf (vk_recv (i := 0) hK (by decide) va_S.rf) (by decide) (by decide) (Nat.le_refl _) (Nat.le_refl _) (by decide) sd_16_56_1 ?_
  refine lv_if_eq hx hb (x := 1) (rest := []) (tgt := 16) sd_16_56_4 rfl (fun h => absurd h (by decide)) (fun _ => ?_)
  refine lv_aload_n hx hb (i := 0) sd_16_56_7 rfl rfl ?_
  refine vk_getf hx hb (hK.1 0 (by decide)).2.2.1 va_S.rf hown (hTW _ sw_f9 _) (fun x h => h) sd_16_56_8 ?_
  refine lv_iload_n hx hb (i := 1) sd_16_56_11 rfl rfl ?_
  refine sx_S (as := [.ref adV, .int x]) (rest := []) (own := "java/lang/String") (sx_laM hi) pw_good sx_cl sw_c1 sw_i1 (by decide) (fun sig z => sx_len (n := 2) (by decide +kernel) sig z) sw_l495 sw_t1 hx hb hml hown hTW hE' va_S.rf (by decide) (by decide) (Nat.le_refl _) (Nat.le_refl _) (by decide) sd_16_56_12 ?_
  exact W.zret hx hb hr n1 (fun t ht _ => ⟨rfl, ht⟩) (fun q hq => absurd hq List.not_mem_nil) sd_16_56_15 hlk
end SE
section OXS
variable {g : ab_G} {l : Launch} {adV : Nat} {t : Value} {tx : String} {cc : ByteArray} {own : String} {nL pc a b k : Nat} {z : Int}
theorem ox_70 (w5 : Cond.methodLink own b sy_len ∈ pg_Ts) (hd : decode cc pc = .ok (.invokevirtual b, 3)) : ab_okX g pg_Ts (sx_E g adV t tx) l pg_sw cc own nL pc (70, a, b, k, z) := by
  intro p e R s m args below meth c Q cells slots L st h q hx hb hml hown hTW hK hE hf hlo hc hs hq kk
  simp only [ab_ext] at hq
  split at hq
  · split at hq
    · rename_i hr
      cases hq
      intro H locs ls hR hS hL
      exact sx_V (Bs := []) (own := own) sx_lenM pw_good sx_cl sw_cl sw_i0 (by decide) (fun sig z => sx_len (n := 0) (by decide +kernel) sig z) w5 sw_nl sw_sl hx hb (by rw [hml]; exact hL.2.1.symm) hown hTW hE hS (vk_recv (i := 0) hE.1 (by decide) hS) (by omega) (by omega) hc hs (by rw [ab_cats]; exact hr) hd (kk H locs ls hR hS hL)
    · cases hq
  · cases hq
theorem ox_71 (w5 : Cond.methodLink own b sy_at ∈ pg_Ts) (hd : decode cc pc = .ok (.invokevirtual b, 3)) : ab_okX g pg_Ts (sx_E g adV t tx) l pg_sw cc own nL pc (71, a, b, k, z) := by
  intro p e R s m args below meth c Q cells slots L st h q hx hb hml hown hTW hK hE hf hlo hc hs hq kk
  simp only [ab_ext] at hq
  split at hq
  · split at hq
    · rename_i x _ _ hr
      cases hq
      intro H locs ls hR hS hL
      have hi : vp_in x 98 := ab_in_vp hr.1
      exact sx_V (Bs := [.int x]) (own := own) (sx_atM hi) pw_good sx_cl sw_ca sw_i0 (by decide) (fun sig z => sx_len (n := 1) (by decide +kernel) sig z) w5 sw_na sw_sa hx hb (by rw [hml]; exact hL.2.1.symm) hown hTW hE hS (vk_recv (i := 0) hE.1 (by decide) hS) (by omega) (by omega) hc hs (by rw [ab_cats]; exact hr.2) hd (kk H locs ls hR hS hL)
    · cases hq
  · cases hq
theorem ox_78 (ho : own = "MillTown$Reader") (hb' : b = 89) (ha : a = 2) (hd : decode cc pc = .ok (.ldc b, 2)) : ab_okX g pg_Ts (sx_E g adV t tx) l pg_sw cc own nL pc (78, a, b, k, z) := by
  subst ho
  subst hb'
  subst ha
  intro p e R s m args below meth c Q cells slots L st h q hx hb hml hown hTW hK hE hf hlo hc hs hq kk
  simp only [ab_ext] at hq
  cases hq
  intro H locs ls hR hS hL
  exact va_ldcS hx hb hown hE.2.2.2.1 hd (kk H locs ls hR hS hL)
end OXS
