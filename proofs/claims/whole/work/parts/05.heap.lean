/-! ===== the steps that touch the heap (own work) ===== -/
section ABHP
variable {g : ab_G} {Ts : List Cond} {nL : Nat} {p : Program} {l : Launch} {e : Env} {R : Room} {s : State} {m : MethodId} {args : Array Value} {below : List Frame} {meth : Method} {c : Code} {Q : State → Prop} {cells slots : Nat} {cc : ByteArray} {pc pc' : Nat} {L st : List Value} {h : ab_H} {q : ab_C} {own : String} {H : Heap} {locs : List Loc} {ls : Array Slot} {rest : List Value}
theorem ho_get {C idx k i : Nat} (hx : p.tables.exec = Jvm.exec) (hb : c.code = cc) (hts : ∀ w ∈ Ts, w.before args s = true) (hwf : ab_wf g Ts) (hown : s.vm.findClass own = some m.cls) (hK : ab_K g s) (hR : ab_Rep g s h H) (ho : ab_ok h i (100 + C) = true) (hf : ab_fld g Ts own C idx k) (hd : decode cc pc = .ok (.getfield idx, 3))
    (kk : W p l e R s m args below meth c H locs cells slots Q (F0 m (pc + 3) ls (ab_fv g h i (gc_Y g C k) k :: rest))) : W p l e R s m args below meth c H locs cells slots Q (F0 m pc ls (.ref (ab_ad g i) :: rest)) := by
  obtain ⟨hc, hkF, hfl⟩ := hf
  obtain ⟨-, cell, q1, q2, q3, q4⟩ := ab_obj_at hR ho
  obtain ⟨hS, hfc, kC, hkC, hkind⟩ := hK.1 C hc
  obtain ⟨cf, kf, fi, f, hi, hsl⟩ := hS k hkF
  have hst := (u_facts hfc hkC (u_lays hts (hwf C hc).1 hkF) hi).1
  have hv : cell.slots[f.slot]? = some (ab_fv g h i (gc_Y g C k) k) := by rw [hsl]; exact q4 k hkF
  rcases hfl with h1 | ⟨host, h1⟩
  · exact W.getf hx hb hown (hts _ h1) hi hst q1 (by rw [q3]; exact fun z => by cases z) hv rfl rfl hd kk
  · exact va_Wgetf hx hb hown (hts _ h1) hi hst q1 (by rw [q3]; exact fun z => by cases z) hv rfl rfl hd kk
theorem ho_put {C idx k i : Nat} {v : Value} {h' : ab_H} {ini : Bool} (hx : p.tables.exec = Jvm.exec) (hb : c.code = cc) (hts : ∀ w ∈ Ts, w.before args s = true) (hwf : ab_wf g Ts) (hown : s.vm.findClass own = some m.cls) (hin : ini = true → meth.name = "<init>") (hK : ab_K g s) (hR : ab_Rep g s h H) (hS : va_S (ab_S g) s.heap H locs) (ho : ab_ok h i (100 + C) = true) (hf : ab_pfd g Ts own ini C idx k)
    (hch : ab_ch h h' i k) (hv : v = ab_fv g h' i (gc_Y g C k) k) (hn : narrow (gc_Y g C k) v = v) (hfit : fits (gc_Y g C k) v = true) (hd : decode cc pc = .ok (.putfield idx, 3))
    (kk : ∀ (H1 : Heap) (locs1 : List Loc), ab_Rep g s h' H1 → va_S (ab_S g) s.heap H1 locs1 → W p l e R s m args below meth c H1 locs1 cells slots Q (F0 m (pc + 3) ls rest)) : W p l e R s m args below meth c H locs cells slots Q (F0 m pc ls (v :: .ref (ab_ad g i) :: rest)) := by
  obtain ⟨hc, hkF, hfl⟩ := hf
  obtain ⟨o1, o2, o3⟩ := ab_ok_iff ho
  obtain ⟨-, cell, q1, q2, q3, q4⟩ := ab_obj_at hR ho
  obtain ⟨hSl, hfc, kC, hkC, hkind⟩ := hK.1 C hc
  obtain ⟨cf, kf, fi, f, hi, hsl⟩ := hSl k hkF
  obtain ⟨w1, w2, w3, w4⟩ := hwf C hc
  have hlays := u_lays hts w1 hkF
  have hst := (u_facts hfc hkC hlays hi).1
  have hap : ∀ x y, x < gc_F g C → y < gc_F g C → x ≠ y → (gc_D g).2 C x ≠ (gc_D g).2 C y := by
    intro x y hx' hy hne
    obtain ⟨_, _, _, fa, hia, ea⟩ := hSl x hx'
    obtain ⟨_, _, _, fb, hib, eb⟩ := hSl y hy
    rw [← ea, ← eb]
    refine u_apart (u_lays hts w1 hx') (u_lays hts w1 hy) hia hib ?_
    rw [(State.fieldFound?_type hia (w2 x hx')).1, (State.fieldFound?_type hib (w2 y hy)).1]
    exact w3 x hx' y hy hne
  have fin : ∀ H1 : Heap, H1[ab_ad g i]? = some (cell.setSlot f.slot v) → H1.size = H.size → (∀ q, q ≠ ab_ad g i → H1[q]? = H[q]?) → W p l e R s m args below meth c H1 (locs ++ [⟨ab_ad g i, f.slot⟩]) cells slots Q (F0 m (pc + 3) ls rest) := by
    intro H1 e1 e2 e3
    refine kk H1 _ (ab_Rep_ch hR o1 hch e2 e3 ⟨fun _ => ?_, fun z => ?_⟩) (ab_S_put o1 hS e2 e3)
    · rw [hch.2.1, o3, Nat.add_sub_cancel_left]
      refine ⟨hc, t_OB.to (V := updV (fun k => ab_fv g h i (gc_Y g C k) k) k v) ⟨_, e1, q2, q3, ?_⟩ (fun j _ => ?_)⟩
      · rw [hsl]
        exact t_set q4 hap hkF v
      · by_cases ej : j = k
        · subst ej
          simp only [updV, if_true]
          exact hv
        · simp only [updV, if_neg ej]
          exact (ab_ch_fv hch (fun z => ej z.2) _).symm
    · rw [hch.2.1, o3] at z
      omega
  have hlt : f.slot < cell.slots.size := by rw [hsl]; exact k2_hasslot (q4 k hkF)
  rcases hfl with ⟨hfin, h1 | ⟨host, h1⟩⟩ | ⟨hfin, hini, hdecl, h1⟩
  · have hlay := hts _ (w1 _ (u_in_lay hkF))
    unfold u_lay at hlay
    rw [if_neg (by rw [hfin]; decide)] at hlay
    have h6 := u_store hfc hkC hkind hlay hi (w2 k hkF) hn hfit
    exact W.putK hx hb (f := f) ⟨hown, hts _ h1, ⟨_, _, _, hi⟩, hst⟩ (by rw [q2]; exact h6) q1 q3 hlt rfl rfl hd fin
  · have hlay := hts _ (w1 _ (u_in_lay hkF))
    unfold u_lay at hlay
    rw [if_neg (by rw [hfin]; decide)] at hlay
    have h6 := u_store hfc hkC hkind hlay hi (w2 k hkF) hn hfit
    exact va_WputK hx hb hown (hts _ h1) hi hst (by rw [q2]; exact h6) q1 q3 hlt rfl rfl hd fin
  · have h6 := u_fits hfc hkC hkind hlays hi (w2 k hkF) hn hfit
    have hcf : m.cls = cf := by
      have hlay := hts _ (w1 _ (u_in_lay hkF))
      unfold u_lay at hlay
      rw [if_pos hfin] at hlay
      obtain ⟨_, _, c', _, _, _, -, -, hf', -, -, -, hown2, -⟩ := Cond.laysFinal_spec hlay
      have e1 : c' = cf := by have := hi.symm.trans hf'; simp at this; exact this.1.symm
      rw [hdecl] at hown2
      rw [← e1]; exact Option.some.inj (hown.symm.trans hown2)
    exact W.putFinK hx hb hown (hts _ h1) hi hst hcf (hin hini) (by rw [q2]; exact h6) q1 q3 hlt rfl rfl hd fin
/-- reads of arrays -/
theorem ho_ari {kd i : Nat} {x : Int32} (hK : ab_K g s) (hR : ab_Rep g s h H) (ho : ab_ok h i kd = true) (hk : kd < 100) (hi : ab_in x (ab_s h i).2 = true) : ∃ cell : Cell, H[ab_ad g i]? = some cell ∧ s.isArrayOf cell (ab_ty g kd) ∧ cell.vm = .none ∧ ¬ (x < 0 ∨ cell.slots.size ≤ x.toNatClampNeg) ∧ cell.slots[x.toNatClampNeg]? = some (ab_fv g h i (ab_ty g kd) x.toNatClampNeg) := by
  obtain ⟨a1, a2⟩ := ab_arr_at hR ho hk
  have hin := ab_in_vp hi
  have hlt : x.toNatClampNeg < (ab_s h i).2 := Nat.not_le.mp fun q => hin (Or.inr q)
  exact ⟨_, a2, (hK.2.1 kd a1).1 _ _, rfl, by rw [arrV_size]; exact hin, by rw [arrV_read _ _ hlt]⟩
theorem oq_ali (hx : p.tables.exec = Jvm.exec) (hb : c.code = cc) (hK : ab_K g s) (hd : decode cc pc = .ok (.iaload, 1)) (hs : ab_ali (pc + 1) L st h = some q)
    (k : ab_Wc g nL p l e R s m args below meth c Q cells slots q) : ab_Wc g nL p l e R s m args below meth c Q cells slots (pc, L, st, h) := by
  unfold ab_ali at hs
  split at hs
  · rename_i x i r
    split at hs
    · rename_i ho
      split at hs
      · rename_i hin
        cases hs
        intro H locs ls hR hS hL
        have kk := k H locs ls hR hS hL
        by_cases e0 : i = 0
        · subst e0
          obtain ⟨scr, h1, h2, h3, h4, h5⟩ := hR.2.2.2.1
          have hin' := ab_in_vp hin
          have hlt : x.toNatClampNeg < (ab_s h 0).2 := Nat.not_le.mp fun q => hin' (Or.inr q)
          exact W.iald hx hb (a := gc_b g) h1 h2 h3 (by rw [h4]; exact hin') (h5 _ hlt) rfl rfl hd kk
        · obtain ⟨cell, c1, c2, c3, c4, c5⟩ := ho_ari (x := x) hK hR (ho.resolve_left e0) (by decide) hin
          exact W.iald hx hb c1 c2 (by rw [c3]; exact fun z => by cases z) c4 c5 rfl rfl hd kk
      · cases hs
    · cases hs
  · cases hs
theorem oq_alz (hx : p.tables.exec = Jvm.exec) (hb : c.code = cc) (hK : ab_K g s) (hd : decode cc pc = .ok (.baload, 1)) (hs : ab_alz (pc + 1) L st h = some q)
    (k : ab_Wc g nL p l e R s m args below meth c Q cells slots q) : ab_Wc g nL p l e R s m args below meth c Q cells slots (pc, L, st, h) := by
  unfold ab_alz at hs
  split at hs
  · rename_i x i r
    split at hs
    · rename_i ho
      cases hs
      intro H locs ls hR hS hL
      have kk := k H locs ls hR hS hL
      obtain ⟨cell, c1, c2, c3, c4, c5⟩ := ho_ari (x := x) hK hR ho.1 (by decide) ho.2
      exact W.zald hx hb c1 c2 (by rw [c3]; exact fun z => by cases z) c4 c5 rfl rfl hd kk
    · cases hs
  · cases hs
theorem oq_all (hx : p.tables.exec = Jvm.exec) (hb : c.code = cc) (hK : ab_K g s) (hd : decode cc pc = .ok (.laload, 1)) (hs : ab_all (pc + 1) L st h = some q)
    (k : ab_Wc g nL p l e R s m args below meth c Q cells slots q) : ab_Wc g nL p l e R s m args below meth c Q cells slots (pc, L, st, h) := by
  unfold ab_all at hs
  split at hs
  · rename_i x i r
    split at hs
    · rename_i ho
      cases hs
      intro H locs ls hR hS hL
      have kk := k H locs ls hR hS hL
      obtain ⟨cell, c1, c2, c3, c4, c5⟩ := ho_ari (x := x) hK hR ho.1 (by decide) ho.2
      exact W.lald hx hb c1 c2 (by rw [c3]; exact fun z => by cases z) c4 c5 rfl rfl hd kk
    · cases hs
  · cases hs
theorem ab_cv_rf (g : ab_G) (r : Option Nat) : ab_cv g (va_rf r) = va_rf (r.map (ab_ad g)) := by cases r <;> rfl
theorem ab_ty_3 (g : ab_G) (C : Nat) : ab_ty g (3 + C) = .object (gc_N g C) := by rw [Nat.add_comm]; rfl
theorem oq_alr {C : Nat} (hC : C < 90) (hx : p.tables.exec = Jvm.exec) (hb : c.code = cc) (hK : ab_K g s) (hd : decode cc pc = .ok (.aaload, 1)) (hs : ab_alr C (pc + 1) L st h = some q)
    (k : ab_Wc g nL p l e R s m args below meth c Q cells slots q) : ab_Wc g nL p l e R s m args below meth c Q cells slots (pc, L, st, h) := by
  unfold ab_alr at hs
  split at hs
  · rename_i x i r
    split at hs
    · rename_i ho
      cases hs
      intro H locs ls hR hS hL
      have kk := k H locs ls hR hS hL
      obtain ⟨cell, c1, c2, c3, c4, c5⟩ := ho_ari (x := x) hK hR ho.1 (by omega) ho.2
      rw [ab_ty_3] at c2 c5
      refine W.aald hx hb c1 c2 rfl (by rw [c3]; exact fun z => by cases z) c4 c5 rfl rfl hd ?_
      simp only [List.map_cons, ab_cv_rf] at kk
      exact kk
    · cases hs
  · cases hs
theorem oq_len {kd : Nat} (hk : kd < 100) (hx : p.tables.exec = Jvm.exec) (hb : c.code = cc) (hK : ab_K g s) (hd : decode cc pc = .ok (.arraylength, 1)) (hs : ab_len kd (pc + 1) L st h = some q)
    (k : ab_Wc g nL p l e R s m args below meth c Q cells slots q) : ab_Wc g nL p l e R s m args below meth c Q cells slots (pc, L, st, h) := by
  unfold ab_len at hs
  split at hs
  · rename_i i r
    split at hs
    · rename_i ho
      cases hs
      intro H locs ls hR hS hL
      have kk := k H locs ls hR hS hL
      rcases ho with ⟨e0, -⟩ | ho
      · subst e0
        obtain ⟨scr, h1, h2, h3, h4, h5⟩ := hR.2.2.2.1
        exact W.alen hx hb (a := gc_b g) h1 h2 (n := Int32.ofNat (ab_s h 0).2) (by rw [h4] <;> rfl) rfl rfl hd kk
      · obtain ⟨a1, a2⟩ := ab_arr_at hR ho hk
        exact W.alen hx hb a2 ((hK.2.1 kd a1).1 _ _) (n := Int32.ofNat (ab_s h i).2) (by rw [arrV_size] <;> rfl) rfl rfl hd kk
    · cases hs
  · cases hs
/-- a place of an array is written -/
theorem ho_asr {kd i j o : Nat} {v : Value} {h' : ab_H} {H1 : Heap} {cell : Cell} (hR : ab_Rep g s h H) (hS : va_S (ab_S g) s.heap H locs) (ho : ab_ok h i kd = true) (hk : kd < 100) (hc : H[ab_ad g i]? = some cell) (hch : ab_ch h h' i j) (hv : v = ab_fv g h' i (ab_ty g kd) j) (e1 : H1[ab_ad g i]? = some (cell.setSlot j v)) (e2 : H1.size = H.size) (e3 : ∀ q, q ≠ ab_ad g i → H1[q]? = H[q]?) : ab_Rep g s h' H1 ∧ va_S (ab_S g) s.heap H1 (locs ++ [⟨ab_ad g i, o⟩]) := by
  obtain ⟨o1, o2, o3⟩ := ab_ok_iff ho
  obtain ⟨a1, a2⟩ := ab_arr_at hR ho hk
  refine ⟨ab_Rep_ch hR o1 hch e2 e3 ⟨fun z => ?_, fun _ => ?_⟩, ab_S_put o1 hS e2 e3⟩
  · rw [hch.2.1, o3] at z
    omega
  · rw [hch.2.1, o3]
    refine ⟨a1, ?_⟩
    rw [e1]
    cases a2.symm.trans hc
    rw [arrV_store, hch.2.1]
    congr 2
    funext x
    by_cases ex : x = j
    · subst ex
      simp only [updV, if_true]
      exact hv
    · simp only [updV, if_neg ex]
      exact (ab_ch_fv hch (fun z => ex z.2) _).symm
theorem oq_asi (hx : p.tables.exec = Jvm.exec) (hb : c.code = cc) (hK : ab_K g s) (hd : decode cc pc = .ok (.iastore, 1)) (hs : ab_asi (pc + 1) L st h = some q)
    (k : ab_Wc g nL p l e R s m args below meth c Q cells slots q) : ab_Wc g nL p l e R s m args below meth c Q cells slots (pc, L, st, h) := by
  unfold ab_asi at hs
  split at hs
  · rename_i v x i r
    split at hs
    · rename_i ho
      cases hs
      intro H locs ls hR hS hL
      obtain ⟨cell, c1, c2, c3, c4, c5⟩ := ho_ari (x := x) hK hR ho.1 (by decide) ho.2
      refine W.iast hx hb c1 c2 (by rw [c3]; exact fun z => by cases z) c4 rfl rfl hd fun H1 e1 e2 e3 => ?_
      obtain ⟨r1, r2⟩ := ho_asr (o := x.toNatClampNeg) hR hS ho.1 (by decide) c1 (ab_ch_i h i x.toNatClampNeg v) (by show _ = Value.int (ab_i _ i _); exact congrArg Value.int ab_up_eq.symm) e1 e2 e3
      exact k H1 _ ls r1 r2 hL
    · cases hs
  · cases hs
theorem oq_asz (hx : p.tables.exec = Jvm.exec) (hb : c.code = cc) (hK : ab_K g s) (hd : decode cc pc = .ok (.bastore, 1)) (hs : ab_asz (pc + 1) L st h = some q)
    (k : ab_Wc g nL p l e R s m args below meth c Q cells slots q) : ab_Wc g nL p l e R s m args below meth c Q cells slots (pc, L, st, h) := by
  unfold ab_asz at hs
  split at hs
  · rename_i v x i r
    split at hs
    · rename_i ho
      cases hs
      intro H locs ls hR hS hL
      obtain ⟨cell, c1, c2, c3, c4, c5⟩ := ho_ari (x := x) hK hR ho.1 (by decide) ho.2
      refine W.zast hx hb c1 c2 (by rw [c3]; exact fun z => by cases z) c4 rfl rfl hd fun H1 e1 e2 e3 => ?_
      obtain ⟨r1, r2⟩ := ho_asr (o := x.toNatClampNeg) hR hS ho.1 (by decide) c1 (ab_ch_i h i x.toNatClampNeg (v &&& 1)) (by show _ = Value.int (ab_i _ i _); exact congrArg Value.int ab_up_eq.symm) e1 e2 e3
      exact k H1 _ ls r1 r2 hL
    · cases hs
  · cases hs
theorem oq_asl (hx : p.tables.exec = Jvm.exec) (hb : c.code = cc) (hK : ab_K g s) (hd : decode cc pc = .ok (.lastore, 1)) (hs : ab_asl (pc + 1) L st h = some q)
    (k : ab_Wc g nL p l e R s m args below meth c Q cells slots q) : ab_Wc g nL p l e R s m args below meth c Q cells slots (pc, L, st, h) := by
  unfold ab_asl at hs
  split at hs
  · rename_i v x i r
    split at hs
    · rename_i ho
      cases hs
      intro H locs ls hR hS hL
      obtain ⟨cell, c1, c2, c3, c4, c5⟩ := ho_ari (x := x) hK hR ho.1 (by decide) ho.2
      refine W.last hx hb c1 c2 (by rw [c3]; exact fun z => by cases z) c4 rfl rfl hd fun H1 e1 e2 e3 => ?_
      obtain ⟨r1, r2⟩ := ho_asr (o := x.toNatClampNeg) hR hS ho.1 (by decide) c1 (ab_ch_l h i x.toNatClampNeg v) (by show _ = Value.long (ab_l _ i _); exact congrArg Value.long ab_up_eq.symm) e1 e2 e3
      exact k H1 _ ls r1 r2 hL
    · cases hs
  · cases hs
theorem oq_asr {C : Nat} (hC : C < 90) (hx : p.tables.exec = Jvm.exec) (hb : c.code = cc) (hK : ab_K g s) (hd : decode cc pc = .ok (.aastore, 1)) (hs : ab_asr C (pc + 1) L st h = some q)
    (k : ab_Wc g nL p l e R s m args below meth c Q cells slots q) : ab_Wc g nL p l e R s m args below meth c Q cells slots (pc, L, st, h) := by
  unfold ab_asr at hs
  split at hs
  · rename_i v x i r
    split at hs
    · rename_i ho
      cases hs
      intro H locs ls hR hS hL
      obtain ⟨a1, a2⟩ := ab_arr_at hR ho.1.1 (by omega)
      obtain ⟨cell, c1, c2, c3, c4, c5⟩ := ho_ari (x := x) hK hR ho.1.1 (by omega) ho.2
      obtain ⟨hCl, cellV, g1, g2, g3, -⟩ := ab_obj_at hR ho.1.2
      have hra := (hK.2.1 (3 + C) a1).2
      rw [ab_ty_3] at hra
      obtain ⟨kA, comp, k1, k2, k3, -⟩ := hra
      have hcls := (hK.1 C hCl).2
      have hcomp : comp = (gc_D g).1 C := Option.some.inj (k3.symm.trans hcls.1)
      subst hcomp
      obtain ⟨kC, hkC, -⟩ := hcls.2
      cases a2.symm.trans c1
      refine W.aast hx hb c1 (fun q z => by cases z) (fun z => by cases z) k1 k2 rfl hkC ⟨fun z => c4 (Or.inl z), Nat.not_le.mp fun z => c4 (Or.inr z)⟩ g1 (fun q z => by rw [g3] at z; cases z) (by rw [g2]; exact hkC) (by rw [g2]; exact va_assign hcls) rfl rfl hd fun H1 e1 e2 e3 => ?_
      obtain ⟨r1, r2⟩ := ho_asr (o := x.toNatClampNeg) hR hS ho.1.1 (by omega) c1 (ab_ch_r h i x.toNatClampNeg (some v)) (by rw [ab_ty_3]; show _ = va_rf ((ab_r _ i _).map _); rw [show ab_r (ab_pr h i x.toNatClampNeg (some v)) i x.toNatClampNeg = some v from ab_up_eq]; rfl) e1 e2 e3
      exact k H1 _ ls r1 r2 hL
    · cases hs
  · cases hs
/-- what is made -/
theorem ab_new_n (kd len sl : Nat) : ab_n (ab_new h kd len sl) = ab_n h + 1 := rfl
theorem ab_new_t (kd len sl : Nat) : ab_t (ab_new h kd len sl) = ab_t h + sl := rfl
theorem ab_new_s (kd len sl : Nat) : ab_s (ab_new h kd len sl) (ab_n h) = (kd, len) := by simp [ab_new, ab_s, ab_n]
theorem ab_new_v {kd len sl : Nat} {ty : FieldType} (ht : ab_tok ty = true) (k : Nat) : ab_fv g (ab_new h kd len sl) (ab_n h) ty k = defaultValue ty := by
  have e1 : ab_i (ab_new h kd len sl) (ab_n h) k = 0 := by simp [ab_new, ab_i, ab_n]
  have e2 : ab_l (ab_new h kd len sl) (ab_n h) k = 0 := by simp [ab_new, ab_l, ab_n]
  have e3 : ab_r (ab_new h kd len sl) (ab_n h) k = none := by simp [ab_new, ab_r, ab_n]
  cases ty <;> simp [ab_tok] at ht <;> simp [ab_fv, defaultValue, e1, e2, e3, va_rf]
theorem oq_nwa {kd : Nat} {aty : ArrayType} (hkd : kd < 3) (hty : newarray.typeOf aty = ab_ty g kd) (hb8 : componentBytes (ab_ty g kd) ≤ 8) (hgk : gc_K g kd = true) (hx : p.tables.exec = Jvm.exec) (hb : c.code = cc) (hK : ab_K g s) (hw : (Cond.arrayClass (ab_ty g kd)).before args s = true) (hd : decode cc pc = .ok (.newarray aty, 2)) (hs : ab_nwa kd (pc + 2) L st h = some q)
    (hcl : cells + (ab_n q.2.2.2 - ab_n h) ≤ R.cells) (hsl : slots + (ab_t q.2.2.2 - ab_t h) ≤ R.slots)
    (k : ab_Wc g nL p l e R s m args below meth c Q (cells + (ab_n q.2.2.2 - ab_n h)) (slots + (ab_t q.2.2.2 - ab_t h)) q) : ab_Wc g nL p l e R s m args below meth c Q cells slots (pc, L, st, h) := by
  unfold ab_nwa at hs
  split at hs
  · rename_i x r
    split at hs
    · rename_i hc
      cases hs
      intro H locs ls hR hS hL
      simp only [ab_new_n, ab_new_t, Nat.add_sub_cancel_left] at hcl hsl k
      have hn0 := hR.2.2.1
      refine va_newaK hx hb (by rw [hty]; exact hw) rfl hd rfl hc.1 rfl (by rw [hty]; exact Nat.le_trans (Nat.mul_le_mul hc.2 hb8) (by decide)) hcl hsl rfl fun H1 cA e1 e2 e3 e4 e5 => ?_
      rw [hty] at e1 e4 e5
      have hcA : cA = gc_A g kd := by
        have a := (hK.2.1 kd hgk).2
        have : kd = 0 ∨ kd = 1 ∨ kd = 2 := by omega
        rcases this with rfl | rfl | rfl <;> exact Option.some.inj (e5.symm.trans a)
      subst hcA
      have hadr : ab_ad g (ab_n h) = H.size := by rw [ab_ad_pos hn0, hR.1]
      have kk := k H1 locs ls (ab_Rep_new hR e2 e3 ⟨fun z => ?_, fun _ => ?_⟩) (ab_S_new hS e2 e3) hL
      · simp only [List.map_cons, ab_cv, hadr] at kk
        exact kk
      · rw [ab_new_s] at z
        simp at z
        omega
      · rw [ab_new_s]
        refine ⟨hgk, ?_⟩
        rw [hadr, e1, ab_new_s]
        congr 2
        funext j
        exact (ab_new_v (by have : kd = 0 ∨ kd = 1 ∨ kd = 2 := by omega
                            rcases this with rfl | rfl | rfl <;> rfl) j).symm
    · cases hs
  · cases hs
theorem oq_nwr {C idx : Nat} (hC : C < 90) (hgk : gc_K g (3 + C) = true) (hx : p.tables.exec = Jvm.exec) (hb : c.code = cc) (hown : s.vm.findClass own = some m.cls) (hK : ab_K g s) (hw : (Cond.classLink own idx (gc_N g C)).before args s = true) (hd : decode cc pc = .ok (.anewarray idx, 3)) (hs : ab_nwa (3 + C) (pc + 3) L st h = some q)
    (hcl : cells + (ab_n q.2.2.2 - ab_n h) ≤ R.cells) (hsl : slots + (ab_t q.2.2.2 - ab_t h) ≤ R.slots)
    (k : ab_Wc g nL p l e R s m args below meth c Q (cells + (ab_n q.2.2.2 - ab_n h)) (slots + (ab_t q.2.2.2 - ab_t h)) q) : ab_Wc g nL p l e R s m args below meth c Q cells slots (pc, L, st, h) := by
  unfold ab_nwa at hs
  split at hs
  · rename_i x r
    split at hs
    · rename_i hc
      cases hs
      intro H locs ls hR hS hL
      simp only [ab_new_n, ab_new_t, Nat.add_sub_cancel_left] at hcl hsl k
      have hn0 := hR.2.2.1
      refine W.anew hx hb hown hw (va_AO.use (hK.2.2 C hgk).2) rfl hd rfl hc.1 (by omega) hcl hsl fun cA kA comp f1 f2 f3 f4 => ?_
      have hcA : cA = gc_A g (3 + C) := by
        have a := (hK.2.1 (3 + C) hgk).2
        rw [ab_ty_3] at a
        obtain ⟨_, _, _, _, _, a⟩ := a
        exact Option.some.inj (f1.symm.trans a)
      subst hcA
      generalize hH1 : H.push ({ cls := gc_A g (3 + C), slots := Array.replicate x.toNatClampNeg .null, vm := .none } : Cell) = H1
      have e2 : H1.size = H.size + 1 := by rw [← hH1, Array.size_push]
      have e1 : H1[H.size]? = some (arrV (gc_A g (3 + C)) x.toNatClampNeg (fun _ => .null)) := by rw [← hH1, Array.getElem?_push_size, ← arrV_new]
      have e3 : ∀ q : Nat, q < H.size → H1[q]? = H[q]? := fun q hq => by rw [← hH1, Array.getElem?_push, if_neg (Nat.ne_of_lt hq)]
      have hadr : ab_ad g (ab_n h) = H.size := by rw [ab_ad_pos hn0, hR.1]
      have kk := k H1 locs ls (ab_Rep_new hR e2 e3 ⟨fun z => ?_, fun _ => ?_⟩) (ab_S_new hS e2 e3) hL
      · simp only [List.map_cons, ab_cv, hadr] at kk
        exact kk
      · rw [ab_new_s] at z
        simp at z
        omega
      · rw [ab_new_s]
        refine ⟨hgk, ?_⟩
        rw [hadr, e1, ab_new_s]
        congr 2
        funext j
        rw [ab_ty_3]
        exact (ab_new_v (ty := .object (gc_N g C)) rfl j).symm
    · cases hs
  · cases hs
theorem oq_nwo {C idx : Nat} (hCl : C < gc_C g) (hx : p.tables.exec = Jvm.exec) (hb : c.code = cc) (hts : ∀ w ∈ Ts, w.before args s = true) (hwf : ab_wf g Ts) (hown : s.vm.findClass own = some m.cls) (hK : ab_K g s) (hw1 : (Cond.classLink own idx (gc_N g C)).before args s = true) (hw2 : (Cond.instantiable (gc_N g C) (gc_F g C)).before args s = true) (hw3 : (Cond.initialized (gc_N g C)).before args s = true) (hd : decode cc pc = .ok (.new idx, 3)) (hs : ab_nwo C (gc_F g C) (pc + 3) L st h = some q)
    (hcl : cells + (ab_n q.2.2.2 - ab_n h) ≤ R.cells) (hsl : slots + (ab_t q.2.2.2 - ab_t h) ≤ R.slots)
    (k : ab_Wc g nL p l e R s m args below meth c Q (cells + (ab_n q.2.2.2 - ab_n h)) (slots + (ab_t q.2.2.2 - ab_t h)) q) : ab_Wc g nL p l e R s m args below meth c Q cells slots (pc, L, st, h) := by
  unfold ab_nwo at hs
  cases hs
  intro H locs ls hR hS hL
  simp only [ab_new_n, ab_new_t, Nat.add_sub_cancel_left] at hcl hsl k
  have hn0 := hR.2.2.1
  obtain ⟨w1, w2, w3, w4⟩ := hwf C hCl
  have hKn := hK.1 C hCl
  refine W.newcK hx hb hown hw1 hw2 hw3 rfl hd hcl hsl hKn.2.1 rfl fun H1 kC hkC e1 e2 e3 => ?_
  have hadr : ab_ad g (ab_n h) = H.size := by rw [ab_ad_pos hn0, hR.1]
  have kk := k H1 locs ls (ab_Rep_new hR e2 e3 ⟨fun _ => ?_, fun z => ?_⟩) (ab_S_new hS e2 e3) hL
  · simp only [List.map_cons, ab_cv, hadr] at kk
    exact kk
  · rw [ab_new_s]
    simp only [Nat.add_sub_cancel_left]
    refine ⟨hCl, ?_⟩
    rw [hadr]
    exact (u_born (gc_Y g C) hts w1 hKn hkC e1 w2).to (fun j hj => (ab_new_v (w4 j hj) j).symm)
  · rw [ab_new_s] at z
    simp at z
    omega
theorem oq_oin {idx : Nat} (hx : p.tables.exec = Jvm.exec) (hb : c.code = cc) (hml : c.maxLocals = nL) (hown : s.vm.findClass own = some m.cls) (hw1 : (Cond.methodLink own idx Lib.objectInit).before args s = true) (hw2 : (Cond.instanceMethod Lib.objectInit).before args s = true) (hw3 : (Cond.code Lib.objectInit ⟨#[0xb1]⟩ 1 none).before args s = true) (hd : decode cc pc = .ok (.invokespecial idx, 3)) (hs : ab_oin (pc + 3) L st h = some q) (hf : 1 ≤ R.frames) (hlo : 60 ≤ R.locals)
    (k : ab_Wc g nL p l e R s m args below meth c Q cells slots q) : ab_Wc g nL p l e R s m args below meth c Q cells slots (pc, L, st, h) := by
  unfold ab_oin at hs
  split at hs
  · rename_i i r
    split at hs
    · rename_i hr
      cases hs
      intro H locs ls hR hS hL
      have kk := k H locs ls hR hS hL
      have e : ((r.map (ab_cv g)).map fun v => v.category) = r.map fun v => v.category := by
        rw [List.map_map]
        exact List.map_congr_left (fun v _ => ab_cv_cat g)
      refine W.objInit hx hb hown hw1 hw2 hw3 rfl (by rw [hml]; exact hL.2.1) rfl hd hf ?_ kk
      show 2 * 0 + ((r.map (ab_cv g)).map fun v => v.category).sum + 12 ≤ R.locals
      rw [e]
      omega
    · cases hs
  · cases hs
theorem ab_Rep_row {i : Nat} {f : Nat → Int32} {H1 : Heap} (hR : ab_Rep g s h H) (ho : ab_ok h i 0 = true) (e1 : H1[ab_ad g i]? = some (arrV (gc_A g 0) (ab_s h i).2 (fun j => .int (f j)))) (e2 : H1.size = H.size) (e3 : ∀ q, q ≠ ab_ad g i → H1[q]? = H[q]?) : ab_Rep g s (ab_row h i f) H1 := by
  obtain ⟨o1, o2, o3⟩ := ab_ok_iff ho
  obtain ⟨a1, a2⟩ := ab_arr_at hR ho (by decide)
  refine ab_Rep_put hR o1 rfl rfl (fun j ej => ?_) (fun j _ => rfl) (fun j _ => rfl) e2 e3 ⟨fun z => ?_, fun _ => ?_⟩
  · simp [ab_row, ab_i, ej]
  · have z' : 100 ≤ (ab_s h i).1 := z
    omega
  · have o3' : (ab_s (ab_row h i f) i).1 = 0 := o3
    rw [o3']
    refine ⟨a1, ?_⟩
    rw [e1]
    congr 2
    funext j
    simp [ab_fv, ab_ty, ab_row, ab_i]
theorem ab_nn {z : Int32} (hz : ¬ z < 0) : z.toInt = (z.toNatClampNeg : Int) := by
  have hz0 : (0 : Int) ≤ z.toInt := by
    have := Int32.not_lt.mp hz
    simpa using Int32.le_iff_toInt_le.mp this
  show z.toInt = ((z.toInt.toNat : Nat) : Int)
  omega
theorem oq_cpy {idx : Nat} (hx : p.tables.exec = Jvm.exec) (hb : c.code = cc) (hml : c.maxLocals = nL) (hown : s.vm.findClass own = some m.cls) (hK : ab_K g s) (hw1 : (Cond.methodLink own idx arraycopyName).before args s = true) (hw2 : (Cond.native arraycopyName).before args s = true) (hw3 : (Cond.static arraycopyName).before args s = true) (hw4 : (Cond.initialized "java/lang/System").before args s = true) (hd : decode cc pc = .ok (.invokestatic idx, 3)) (hs : ab_cpy (pc + 3) L st h = some q) (hf : 1 ≤ R.frames) (hlo : 60 ≤ R.locals)
    (k : ab_Wc g nL p l e R s m args below meth c Q cells slots q) : ab_Wc g nL p l e R s m args below meth c Q cells slots (pc, L, st, h) := by
  unfold ab_cpy at hs
  split at hs
  · rename_i n dp j sp i r
    split at hs
    · rename_i hc
      obtain ⟨⟨hoi, hoj⟩, ⟨s1, s2, s3⟩, s4, s5, s6⟩ := hc
      cases hs
      intro H locs ls hR hS hL T hT X
      have hR : ab_Rep g s h H := hR
      obtain ⟨i1, i2⟩ := ab_arr_at hR hoi (by decide)
      obtain ⟨j1, j2⟩ := ab_arr_at hR hoj (by decide)
      obtain ⟨jo, -, -⟩ := ab_ok_iff hoj
      have ii : (fun x => ab_fv g h i (ab_ty g 0) x) = fun x => .int (ab_i h i x) := rfl
      have jj : (fun x => ab_fv g h j (ab_ty g 0) x) = fun x => .int (ab_i h j x) := rfl
      rw [ii] at i2
      rw [jj] at j2
      obtain ⟨-, k0, hk0, cm0, hkk0⟩ := (hK.2.1 0 i1).1 (ab_s h i).2 (fun x => .int (ab_i h i x))
      have er : ((r.map (ab_cv g)).map fun v => v.category) = r.map fun v => v.category := by
        rw [List.map_map]
        exact List.map_congr_left (fun v _ => ab_cv_cat g)
      obtain ⟨vm', X', step⟩ := X.arraycopy hx hown hw1 hw2 hw3 hw4 (src := ab_ad g i) (dst := ab_ad g j) (cs := arrV (gc_A g 0) (ab_s h i).2 (fun x => .int (ab_i h i x))) (cd := arrV (gc_A g 0) (ab_s h j).2 (fun x => .int (ab_i h j x))) (srcPos := sp) (destPos := dp) (n := n) (by rw [hT]; exact i2) (by rw [hT]; exact j2)
        (fun _ z => by cases z) (fun _ z => by cases z) (fun z => by cases z) (fun z => by cases z) hk0 hk0 hkk0 hkk0 (by simp [ab_ty, refKind]) s1 s2 s3
        (by rw [ab_nn s1, ab_nn s3, arrV_size]; omega) (by rw [ab_nn s2, ab_nn s3, arrV_size]; omega)
        (fun vm₁ _ x hx' => by
          have e0 : (arrV (gc_A g 0) (ab_s h i).2 (fun x => .int (ab_i h i x))).slots.getD (sp.toNatClampNeg + x) .null = .int (ab_i h i (sp.toNatClampNeg + x)) := by
            rw [Array.getD_eq_getD_getElem?, arrV_read _ _ (by omega)]
            rfl
          refine ⟨?_, ?_⟩ <;> rw [e0]
          · rfl
          · exact trivial)
        (g := F0 m pc ls (.int n :: .int dp :: .ref (ab_ad g j) :: .int sp :: .ref (ab_ad g i) :: r.map (ab_cv g))) rfl (by rw [hml]; exact hL.2.1) (rest := r.map (ab_cv g)) rfl (by rw [hb]; exact hd) hf (by
          show 2 * 0 + ((r.map (ab_cv g)).map fun v => v.category).sum + _ ≤ _
          rw [er]
          have : nativeFrameWords "java/lang/System" "arraycopy" 5 ≤ 30 := by decide
          omega)
      rw [show copied (arrV (gc_A g 0) (ab_s h i).2 (fun x => .int (ab_i h i x))) (arrV (gc_A g 0) (ab_s h j).2 (fun x => .int (ab_i h j x))) sp dp n = arrV (gc_A g 0) (ab_s h j).2 (fun x => .int (va_cpy (ab_i h i) (ab_i h j) sp.toNatClampNeg dp.toNatClampNeg n.toNatClampNeg x)) from va_copied (fun x => .int x) _ _ _ _ s4] at X' step
      generalize hcell : arrV (gc_A g 0) (ab_s h j).2 (fun x => .int (va_cpy (ab_i h i) (ab_i h j) sp.toNatClampNeg dp.toNatClampNeg n.toNatClampNeg x)) = cell at X' step
      have hl : ab_ad g j < H.size := (Array.getElem?_eq_some_iff.mp j2).1
      have hheap : ((T.setVm vm').setCell (ab_ad g j) cell).heap = H.setIfInBounds (ab_ad g j) cell := by rw [← hT]; rfl
      have e3 : ∀ x : Nat, x ≠ ab_ad g j → (H.setIfInBounds (ab_ad g j) cell)[x]? = H[x]? := fun x hq => by simp [Array.getElem?_setIfInBounds, Ne.symm hq]
      have e1 : (H.setIfInBounds (ab_ad g j) cell)[ab_ad g j]? = some cell := by simp [Array.getElem?_setIfInBounds, hl]
      have e2 : (H.setIfInBounds (ab_ad g j) cell).size = H.size := by simp
      have e1 := e1.trans (congrArg some hcell.symm)
      obtain ⟨t, a1, b1⟩ := k _ _ ls (ab_Rep_row hR hoj e1 e2 e3) ⟨by rw [e2]; exact hS.1, fun x g1 g2 => by
          rw [e3 x (fun z => g2 (by rw [z]; show gc_z g < ab_ad g j; rw [ab_ad_pos jo]; omega))]
          exact hS.2.1 x g1 g2, fun x hq => by
          rcases List.mem_append.mp hq with z | z
          · exact hS.2.2 x z
          · obtain ⟨y, -, hy⟩ := List.mem_map.mp z
            rw [← hy]
            show gc_z g < ab_ad g j
            rw [ab_ad_pos jo]; omega⟩ hL _ hheap X'
      exact ⟨t, step t a1, b1⟩
    · cases hs
  · cases hs
end ABHP
