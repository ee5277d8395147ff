/-! ===== the tables are right: all of them, from the check of each method's code (own work) ===== -/
def pk_1 (M pc : Nat) : Bool := if (pg_cd M pc).1 < 70 then ck_I pg_T pg_F pg_Y 13 pg_K pg_sw pg_FL pg_CL pg_KI pg_KL pg_OB pg_AC (pg_mb M) (pg_mc M) (decide (pg_mk M = 1)) pc (pg_cd M pc) else if (pg_cd M pc).1 < 80 then true else if (pg_cd M pc).1 < 90 then ck_C pg_ML pg_mk (pg_mb M) (pg_mc M) pc (pg_cd M pc).1 (pg_cd M pc).2.1 (pg_cd M pc).2.2.1 else ck_E (pg_mb M) (pg_mr M) pc (pg_cd M pc).1
def pk_M (M : Nat) : Bool := (List.range (pg_cs.getD M []).length).all (pk_1 M)
set_option maxRecDepth 100000 in
theorem pk_ini : ∀ M, M < 332 → decide ((pg_my M).name = "<init>") = decide (pg_mk M = 1) := by decide +kernel
section PKG
variable {D : va_G} {cA : Nat → ClassId} {b z ss : Nat}
theorem pk_V : ck_V (pg_G D cA b z ss) pg_Ts pg_N pg_ML pg_my pg_mb pg_mx pg_mr pg_na pg_mc pg_mk := by
  intro q hq
  obtain ⟨k1, k2, k3, k4⟩ := pw_kind q hq
  obtain ⟨o1, o2, o3, o4⟩ := pw_own _ k3
  refine ⟨pg_ML_in q hq, ⟨pg_VC_in _ k1, rfl, pg_VO_in _ o4, o1, k2⟩, ⟨o2, o3, pw_desc _ k1⟩, fun e => ?_, fun e => ?_, fun e => ?_⟩
  · rcases k4 with ⟨e1, h1, h2, h3⟩ | ⟨e1, -⟩ | ⟨e1, -⟩
    · exact ⟨h1, rfl, pg_VI_in _ h2, h3.elim (pg_VP_in _) (pg_VQ_in _)⟩
    · omega
    · omega
  · rcases k4 with ⟨e1, -⟩ | ⟨e1, h1, h2, h3⟩ | ⟨e1, -⟩
    · omega
    · exact ⟨h1, rfl, pg_VI_in _ h2, (pw_init _ h3).1, (pw_init _ h3).2⟩
    · omega
  · rcases k4 with ⟨e1, -⟩ | ⟨e1, -⟩ | ⟨e1, h1⟩
    · omega
    · omega
    · exact pg_VS_in _ h1
theorem pk_VN : ∀ c, c < 13 → c ∈ pg_VN ∧ c ∈ pg_VO := by decide +kernel
theorem pk_own : ∀ c, c < 13 → ∀ k, k < pg_F c → (pg_T c k).1 = pg_N c := by
  intro c _ k hk
  unfold pg_T
  have : k < (pg_fs.getD c []).length := hk
  rw [List.getElem?_eq_getElem this]
theorem pk_W1 : Cond.instanceMethod Lib.objectInit ∈ pg_Ts ∧ Cond.code Lib.objectInit ⟨#[0xb1]⟩ 1 none ∈ pg_Ts ∧ Cond.native arraycopyName ∈ pg_Ts ∧ Cond.static arraycopyName ∈ pg_Ts ∧ Cond.initialized "java/lang/System" ∈ pg_Ts ∧ Cond.arrayClass .int ∈ pg_Ts ∧ Cond.arrayClass .long ∈ pg_Ts ∧ Cond.arrayClass .boolean ∈ pg_Ts := by
  refine ⟨pw_in ?_ rfl, pw_in ?_ rfl, pw_in ?_ rfl, pw_in ?_ rfl, pw_in ?_ rfl, pw_in ?_ rfl, pw_in ?_ rfl, pw_in ?_ rfl⟩ <;> decide +kernel
theorem pk_W : ck_W (pg_G D cA b z ss) pg_Ts pg_N pg_FL pg_CL pg_KI pg_KL pg_OB pg_AC := by
  obtain ⟨w1, w2, w3, w4, w5, w6, w7, w8⟩ := pk_W1
  exact ⟨pg_FL_in, pg_CL_in, pg_KI_in, pg_KL_in, ⟨pg_OB_in, w1, w2⟩, ⟨pg_AC_in, w3, w4, w5⟩, ⟨w6, w7, w8⟩, fun c hc => ⟨pg_VN_in _ (pk_VN c hc).1, pg_VO_in _ (pk_VN c hc).2⟩, fun c k hc hk => ⟨pk_own c hc k hk, rfl⟩⟩
theorem pk_lays : ∀ c, c < 13 → ∀ w ∈ u_ws (pg_N c) (pg_T c) (pg_F c), w ∈ lw_tbl := by decide +kernel
theorem pk_desc : ∀ c, c < 13 → ∀ k, k < pg_F c → parseFieldDescriptor (pg_T c k).2.2.1 = some (pg_Y c k) ∧ ab_tok (pg_Y c k) = true := by decide +kernel
theorem pk_nam : ∀ c, c < 13 → ∀ a, a < pg_F c → ∀ b, b < pg_F c → a ≠ b → (pg_T c a).2.1 ≠ (pg_T c b).2.1 := by decide +kernel
theorem pk_wf : ab_wf (pg_G D cA b z ss) pg_Ts := by
  intro c hc
  refine ⟨fun w hw => pw_in (pk_lays c hc w hw) ?_, fun k hk => (pk_desc c hc k hk).1, pk_nam c hc, fun k hk => (pk_desc c hc k hk).2⟩
  obtain ⟨k, -, rfl⟩ := List.mem_map.mp hw
  unfold u_lay
  split <;> rfl
theorem pk_out {M pc : Nat} (h : ¬ (M < 332 ∧ pc < (pg_cs.getD M []).length)) : pg_cd M pc = pg_un 0 := by
  unfold pg_cd
  congr 1
  rw [List.getD_eq_getElem?_getD, List.getElem?_eq_none]
  · rfl
  · by_cases hM : M < 332
    · exact Nat.not_lt.mp fun q => h ⟨hM, q⟩
    · have : pg_cs.getD M [] = [] := by
        rw [List.getD_eq_getElem?_getD, List.getElem?_eq_none]
        · rfl
        · have : pg_cs.length = 332 := by decide +kernel
          omega
      rw [this]
      exact Nat.zero_le _
theorem pk_okP {E : State → Prop} {l : Launch} (hk : ∀ M, M < 332 → pk_M M = true) (hX : ∀ M pc, 70 ≤ (pg_cd M pc).1 → (pg_cd M pc).1 < 80 → ab_okX (pg_G D cA b z ss) pg_Ts E l pg_sw (pg_mb M) (pg_my M).cls (pg_mx M) pc (pg_cd M pc)) : ab_okP (pg_G D cA b z ss) pg_Ts E l pg_cd pg_sw pg_na pg_mx pg_mc pg_my pg_mb pg_mr := by
  intro M pc
  by_cases hin : M < 332 ∧ pc < (pg_cs.getD M []).length
  · have h1 : pk_1 M pc = true := by
      have := hk M hin.1
      unfold pk_M at this
      exact List.all_eq_true.mp this pc (List.mem_range.mpr hin.2)
    unfold pk_1 at h1
    refine ⟨hX M pc, fun h70 => ?_, fun h80 h90 => ?_, fun h90 => ?_⟩
    · rw [if_pos h70, ← pk_ini M hin.1] at h1
      exact ck_I_ok pk_W h1
    · rw [if_neg (by omega), if_neg (by omega), if_pos h90] at h1
      exact ck_C_ok pk_V h1
    · rw [if_neg (by omega), if_neg (by omega), if_neg (by omega)] at h1
      exact ck_E_ok h1
  · rw [pk_out hin]
    have e0 : (pg_un 0).1 = 0 := by decide
    refine ⟨fun q => ?_, fun _ => ?_, fun q => ?_, fun q => ?_⟩
    · rw [e0] at q; omega
    · show ab_okI _ _ _ _ _ _ _ (pg_un 0)
      have : ∃ a b k z, pg_un 0 = (0, a, b, k, z) := ⟨_, _, _, _, rfl⟩
      obtain ⟨a, b, k, z, e⟩ := this
      rw [e]
      trivial
    · rw [e0] at q; omega
    · rw [e0] at q; omega
end PKG
