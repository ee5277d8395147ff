/-! ===== other code of the platform: every place (segments printed by wip/whole, contracts own work) ===== -/
theorem hw_m : Cond.initialized "java/lang/Math" ∈ pg_Ts := pw_in (by decide +kernel) (by decide +kernel)
theorem hw_s72 : Cond.static fd_name ∈ pg_Ts := pw_in (by decide +kernel) (by decide +kernel)
theorem hw_c72 : Cond.code fd_name prog_15_method_47_code 3 (some .int) ∈ pg_Ts := pw_in (by decide +kernel) (by decide +kernel)
theorem hw_s73 : Cond.static Lib.Math.max.name ∈ pg_Ts := pw_in (by decide +kernel) (by decide +kernel)
theorem hw_c73 : Cond.code Lib.Math.max.name Lib.Math.max.code 2 (some .int) ∈ pg_Ts := pw_in (by decide +kernel) (by decide +kernel)
theorem hw_s74 : Cond.static Lib.Math.min.name ∈ pg_Ts := pw_in (by decide +kernel) (by decide +kernel)
theorem hw_c74 : Cond.code Lib.Math.min.name Lib.Math.min.code 2 (some .int) ∈ pg_Ts := pw_in (by decide +kernel) (by decide +kernel)
theorem hw_s75 : Cond.static Lib.Math.abs.name ∈ pg_Ts := pw_in (by decide +kernel) (by decide +kernel)
theorem hw_c75 : Cond.code Lib.Math.abs.name Lib.Math.abs.code 1 (some .int) ∈ pg_Ts := pw_in (by decide +kernel) (by decide +kernel)
theorem hw_s76 : Cond.static Lib.MathLoose.max_long.x ∈ pg_Ts := pw_in (by decide +kernel) (by decide +kernel)
theorem hw_c76 : Cond.code Lib.MathLoose.max_long.x Lib.MathLoose.max_long.code 4 (some .long) ∈ pg_Ts := pw_in (by decide +kernel) (by decide +kernel)
theorem hw_s77 : Cond.static Lib.MathLoose.min_long.x ∈ pg_Ts := pw_in (by decide +kernel) (by decide +kernel)
theorem hw_c77 : Cond.code Lib.MathLoose.min_long.x Lib.MathLoose.min_long.code 4 (some .long) ∈ pg_Ts := pw_in (by decide +kernel) (by decide +kernel)
section HXX
variable {D : va_G} {cA : Nat → ClassId} {b z ss adV : Nat} {t : Value} {tx : String} {l : Launch}
theorem hc_0 : pg_cd 16 9 = (73, 0, 75, 0, 0) := by decide +kernel
theorem hd_0 : decode (pg_mb 16) 9 = .ok (.invokestatic 75, 3) := by decide +kernel
theorem hl_0 : Cond.methodLink (pg_my 16).cls 75 Lib.Math.max.name ∈ pg_Ts := pw_in (by decide +kernel) (by decide +kernel)
theorem ho_0 : ab_okX (pg_G D cA b z ss) pg_Ts (sx_E (pg_G D cA b z ss) adV t tx) l pg_sw (pg_mb 16) (pg_my 16).cls (pg_mx 16) 9 (pg_cd 16 9) := by
  rw [hc_0]
  exact ox_73 hl_0 hw_s73 hw_m hw_c73 hd_0
theorem hc_1 : pg_cd 16 74 = (73, 0, 75, 0, 0) := by decide +kernel
theorem hd_1 : decode (pg_mb 16) 74 = .ok (.invokestatic 75, 3) := by decide +kernel
theorem hl_1 : Cond.methodLink (pg_my 16).cls 75 Lib.Math.max.name ∈ pg_Ts := pw_in (by decide +kernel) (by decide +kernel)
theorem ho_1 : ab_okX (pg_G D cA b z ss) pg_Ts (sx_E (pg_G D cA b z ss) adV t tx) l pg_sw (pg_mb 16) (pg_my 16).cls (pg_mx 16) 74 (pg_cd 16 74) := by
  rw [hc_1]
  exact ox_73 hl_1 hw_s73 hw_m hw_c73 hd_1
theorem hc_2 : pg_cd 19 122 = (76, 0, 89, 0, 0) := by decide +kernel
theorem hd_2 : decode (pg_mb 19) 122 = .ok (.invokestatic 89, 3) := by decide +kernel
theorem hl_2 : Cond.methodLink (pg_my 19).cls 89 Lib.MathLoose.max_long.x ∈ pg_Ts := pw_in (by decide +kernel) (by decide +kernel)
theorem ho_2 : ab_okX (pg_G D cA b z ss) pg_Ts (sx_E (pg_G D cA b z ss) adV t tx) l pg_sw (pg_mb 19) (pg_my 19).cls (pg_mx 19) 122 (pg_cd 19 122) := by
  rw [hc_2]
  exact ox_76 hl_2 hw_s76 hw_m hw_c76 hd_2
theorem hc_3 : pg_cd 19 132 = (77, 0, 94, 0, 0) := by decide +kernel
theorem hd_3 : decode (pg_mb 19) 132 = .ok (.invokestatic 94, 3) := by decide +kernel
theorem hl_3 : Cond.methodLink (pg_my 19).cls 94 Lib.MathLoose.min_long.x ∈ pg_Ts := pw_in (by decide +kernel) (by decide +kernel)
theorem ho_3 : ab_okX (pg_G D cA b z ss) pg_Ts (sx_E (pg_G D cA b z ss) adV t tx) l pg_sw (pg_mb 19) (pg_my 19).cls (pg_mx 19) 132 (pg_cd 19 132) := by
  rw [hc_3]
  exact ox_77 hl_3 hw_s77 hw_m hw_c77 hd_3
theorem hc_4 : pg_cd 22 246 = (77, 0, 94, 0, 0) := by decide +kernel
theorem hd_4 : decode (pg_mb 22) 246 = .ok (.invokestatic 94, 3) := by decide +kernel
theorem hl_4 : Cond.methodLink (pg_my 22).cls 94 Lib.MathLoose.min_long.x ∈ pg_Ts := pw_in (by decide +kernel) (by decide +kernel)
theorem ho_4 : ab_okX (pg_G D cA b z ss) pg_Ts (sx_E (pg_G D cA b z ss) adV t tx) l pg_sw (pg_mb 22) (pg_my 22).cls (pg_mx 22) 246 (pg_cd 22 246) := by
  rw [hc_4]
  exact ox_77 hl_4 hw_s77 hw_m hw_c77 hd_4
theorem hc_5 : pg_cd 22 262 = (76, 0, 89, 0, 0) := by decide +kernel
theorem hd_5 : decode (pg_mb 22) 262 = .ok (.invokestatic 89, 3) := by decide +kernel
theorem hl_5 : Cond.methodLink (pg_my 22).cls 89 Lib.MathLoose.max_long.x ∈ pg_Ts := pw_in (by decide +kernel) (by decide +kernel)
theorem ho_5 : ab_okX (pg_G D cA b z ss) pg_Ts (sx_E (pg_G D cA b z ss) adV t tx) l pg_sw (pg_mb 22) (pg_my 22).cls (pg_mx 22) 262 (pg_cd 22 262) := by
  rw [hc_5]
  exact ox_76 hl_5 hw_s76 hw_m hw_c76 hd_5
theorem hc_6 : pg_cd 22 313 = (76, 0, 89, 0, 0) := by decide +kernel
theorem hd_6 : decode (pg_mb 22) 313 = .ok (.invokestatic 89, 3) := by decide +kernel
theorem hl_6 : Cond.methodLink (pg_my 22).cls 89 Lib.MathLoose.max_long.x ∈ pg_Ts := pw_in (by decide +kernel) (by decide +kernel)
theorem ho_6 : ab_okX (pg_G D cA b z ss) pg_Ts (sx_E (pg_G D cA b z ss) adV t tx) l pg_sw (pg_mb 22) (pg_my 22).cls (pg_mx 22) 313 (pg_cd 22 313) := by
  rw [hc_6]
  exact ox_76 hl_6 hw_s76 hw_m hw_c76 hd_6
theorem hc_7 : pg_cd 27 80 = (75, 0, 25, 0, 0) := by decide +kernel
theorem hd_7 : decode (pg_mb 27) 80 = .ok (.invokestatic 25, 3) := by decide +kernel
theorem hl_7 : Cond.methodLink (pg_my 27).cls 25 Lib.Math.abs.name ∈ pg_Ts := pw_in (by decide +kernel) (by decide +kernel)
theorem ho_7 : ab_okX (pg_G D cA b z ss) pg_Ts (sx_E (pg_G D cA b z ss) adV t tx) l pg_sw (pg_mb 27) (pg_my 27).cls (pg_mx 27) 80 (pg_cd 27 80) := by
  rw [hc_7]
  exact ox_75 hl_7 hw_s75 hw_m hw_c75 hd_7
theorem hc_8 : pg_cd 27 88 = (75, 0, 25, 0, 0) := by decide +kernel
theorem hd_8 : decode (pg_mb 27) 88 = .ok (.invokestatic 25, 3) := by decide +kernel
theorem hl_8 : Cond.methodLink (pg_my 27).cls 25 Lib.Math.abs.name ∈ pg_Ts := pw_in (by decide +kernel) (by decide +kernel)
theorem ho_8 : ab_okX (pg_G D cA b z ss) pg_Ts (sx_E (pg_G D cA b z ss) adV t tx) l pg_sw (pg_mb 27) (pg_my 27).cls (pg_mx 27) 88 (pg_cd 27 88) := by
  rw [hc_8]
  exact ox_75 hl_8 hw_s75 hw_m hw_c75 hd_8
theorem hc_9 : pg_cd 27 104 = (72, 0, 35, 0, 0) := by decide +kernel
theorem hd_9 : decode (pg_mb 27) 104 = .ok (.invokestatic 35, 3) := by decide +kernel
theorem hl_9 : Cond.methodLink (pg_my 27).cls 35 fd_name ∈ pg_Ts := pw_in (by decide +kernel) (by decide +kernel)
theorem ho_9 : ab_okX (pg_G D cA b z ss) pg_Ts (sx_E (pg_G D cA b z ss) adV t tx) l pg_sw (pg_mb 27) (pg_my 27).cls (pg_mx 27) 104 (pg_cd 27 104) := by
  rw [hc_9]
  exact ox_72 hl_9 hw_s72 hw_m hw_c72 hd_9
theorem hc_10 : pg_cd 27 114 = (74, 0, 38, 0, 0) := by decide +kernel
theorem hd_10 : decode (pg_mb 27) 114 = .ok (.invokestatic 38, 3) := by decide +kernel
theorem hl_10 : Cond.methodLink (pg_my 27).cls 38 Lib.Math.min.name ∈ pg_Ts := pw_in (by decide +kernel) (by decide +kernel)
theorem ho_10 : ab_okX (pg_G D cA b z ss) pg_Ts (sx_E (pg_G D cA b z ss) adV t tx) l pg_sw (pg_mb 27) (pg_my 27).cls (pg_mx 27) 114 (pg_cd 27 114) := by
  rw [hc_10]
  exact ox_74 hl_10 hw_s74 hw_m hw_c74 hd_10
theorem hc_11 : pg_cd 27 117 = (73, 0, 41, 0, 0) := by decide +kernel
theorem hd_11 : decode (pg_mb 27) 117 = .ok (.invokestatic 41, 3) := by decide +kernel
theorem hl_11 : Cond.methodLink (pg_my 27).cls 41 Lib.Math.max.name ∈ pg_Ts := pw_in (by decide +kernel) (by decide +kernel)
theorem ho_11 : ab_okX (pg_G D cA b z ss) pg_Ts (sx_E (pg_G D cA b z ss) adV t tx) l pg_sw (pg_mb 27) (pg_my 27).cls (pg_mx 27) 117 (pg_cd 27 117) := by
  rw [hc_11]
  exact ox_73 hl_11 hw_s73 hw_m hw_c73 hd_11
theorem hc_12 : pg_cd 27 129 = (74, 0, 38, 0, 0) := by decide +kernel
theorem hd_12 : decode (pg_mb 27) 129 = .ok (.invokestatic 38, 3) := by decide +kernel
theorem hl_12 : Cond.methodLink (pg_my 27).cls 38 Lib.Math.min.name ∈ pg_Ts := pw_in (by decide +kernel) (by decide +kernel)
theorem ho_12 : ab_okX (pg_G D cA b z ss) pg_Ts (sx_E (pg_G D cA b z ss) adV t tx) l pg_sw (pg_mb 27) (pg_my 27).cls (pg_mx 27) 129 (pg_cd 27 129) := by
  rw [hc_12]
  exact ox_74 hl_12 hw_s74 hw_m hw_c74 hd_12
theorem hc_13 : pg_cd 27 132 = (73, 0, 41, 0, 0) := by decide +kernel
theorem hd_13 : decode (pg_mb 27) 132 = .ok (.invokestatic 41, 3) := by decide +kernel
theorem hl_13 : Cond.methodLink (pg_my 27).cls 41 Lib.Math.max.name ∈ pg_Ts := pw_in (by decide +kernel) (by decide +kernel)
theorem ho_13 : ab_okX (pg_G D cA b z ss) pg_Ts (sx_E (pg_G D cA b z ss) adV t tx) l pg_sw (pg_mb 27) (pg_my 27).cls (pg_mx 27) 132 (pg_cd 27 132) := by
  rw [hc_13]
  exact ox_73 hl_13 hw_s73 hw_m hw_c73 hd_13
theorem hc_14 : pg_cd 27 151 = (75, 0, 25, 0, 0) := by decide +kernel
theorem hd_14 : decode (pg_mb 27) 151 = .ok (.invokestatic 25, 3) := by decide +kernel
theorem hl_14 : Cond.methodLink (pg_my 27).cls 25 Lib.Math.abs.name ∈ pg_Ts := pw_in (by decide +kernel) (by decide +kernel)
theorem ho_14 : ab_okX (pg_G D cA b z ss) pg_Ts (sx_E (pg_G D cA b z ss) adV t tx) l pg_sw (pg_mb 27) (pg_my 27).cls (pg_mx 27) 151 (pg_cd 27 151) := by
  rw [hc_14]
  exact ox_75 hl_14 hw_s75 hw_m hw_c75 hd_14
theorem hc_15 : pg_cd 27 172 = (75, 0, 25, 0, 0) := by decide +kernel
theorem hd_15 : decode (pg_mb 27) 172 = .ok (.invokestatic 25, 3) := by decide +kernel
theorem hl_15 : Cond.methodLink (pg_my 27).cls 25 Lib.Math.abs.name ∈ pg_Ts := pw_in (by decide +kernel) (by decide +kernel)
theorem ho_15 : ab_okX (pg_G D cA b z ss) pg_Ts (sx_E (pg_G D cA b z ss) adV t tx) l pg_sw (pg_mb 27) (pg_my 27).cls (pg_mx 27) 172 (pg_cd 27 172) := by
  rw [hc_15]
  exact ox_75 hl_15 hw_s75 hw_m hw_c75 hd_15
theorem hc_16 : pg_cd 35 22 = (74, 0, 33, 0, 0) := by decide +kernel
theorem hd_16 : decode (pg_mb 35) 22 = .ok (.invokestatic 33, 3) := by decide +kernel
theorem hl_16 : Cond.methodLink (pg_my 35).cls 33 Lib.Math.min.name ∈ pg_Ts := pw_in (by decide +kernel) (by decide +kernel)
theorem ho_16 : ab_okX (pg_G D cA b z ss) pg_Ts (sx_E (pg_G D cA b z ss) adV t tx) l pg_sw (pg_mb 35) (pg_my 35).cls (pg_mx 35) 22 (pg_cd 35 22) := by
  rw [hc_16]
  exact ox_74 hl_16 hw_s74 hw_m hw_c74 hd_16
theorem hc_17 : pg_cd 35 25 = (74, 0, 33, 0, 0) := by decide +kernel
theorem hd_17 : decode (pg_mb 35) 25 = .ok (.invokestatic 33, 3) := by decide +kernel
theorem hl_17 : Cond.methodLink (pg_my 35).cls 33 Lib.Math.min.name ∈ pg_Ts := pw_in (by decide +kernel) (by decide +kernel)
theorem ho_17 : ab_okX (pg_G D cA b z ss) pg_Ts (sx_E (pg_G D cA b z ss) adV t tx) l pg_sw (pg_mb 35) (pg_my 35).cls (pg_mx 35) 25 (pg_cd 35 25) := by
  rw [hc_17]
  exact ox_74 hl_17 hw_s74 hw_m hw_c74 hd_17
theorem hc_18 : pg_cd 41 13 = (78, 2, 89, 0, 0) := by decide +kernel
theorem hd_18 : decode (pg_mb 41) 13 = .ok (.ldc 89, 2) := by decide +kernel
theorem ho_18 : ab_okX (pg_G D cA b z ss) pg_Ts (sx_E (pg_G D cA b z ss) adV t tx) l pg_sw (pg_mb 41) (pg_my 41).cls (pg_mx 41) 13 (pg_cd 41 13) := by
  rw [hc_18]
  exact ox_78 (by decide +kernel) rfl rfl hd_18
theorem hc_19 : pg_cd 41 15 = (70, 0, 91, 0, 0) := by decide +kernel
theorem hd_19 : decode (pg_mb 41) 15 = .ok (.invokevirtual 91, 3) := by decide +kernel
theorem ho_19 : ab_okX (pg_G D cA b z ss) pg_Ts (sx_E (pg_G D cA b z ss) adV t tx) l pg_sw (pg_mb 41) (pg_my 41).cls (pg_mx 41) 15 (pg_cd 41 15) := by
  rw [hc_19]
  exact ox_70 (pw_in (by decide +kernel) (by decide +kernel)) hd_19
theorem hc_20 : pg_cd 41 21 = (78, 2, 89, 0, 0) := by decide +kernel
theorem hd_20 : decode (pg_mb 41) 21 = .ok (.ldc 89, 2) := by decide +kernel
theorem ho_20 : ab_okX (pg_G D cA b z ss) pg_Ts (sx_E (pg_G D cA b z ss) adV t tx) l pg_sw (pg_mb 41) (pg_my 41).cls (pg_mx 41) 21 (pg_cd 41 21) := by
  rw [hc_20]
  exact ox_78 (by decide +kernel) rfl rfl hd_20
theorem hc_21 : pg_cd 41 25 = (71, 0, 97, 0, 0) := by decide +kernel
theorem hd_21 : decode (pg_mb 41) 25 = .ok (.invokevirtual 97, 3) := by decide +kernel
theorem ho_21 : ab_okX (pg_G D cA b z ss) pg_Ts (sx_E (pg_G D cA b z ss) adV t tx) l pg_sw (pg_mb 41) (pg_my 41).cls (pg_mx 41) 25 (pg_cd 41 25) := by
  rw [hc_21]
  exact ox_71 (pw_in (by decide +kernel) (by decide +kernel)) hd_21
theorem hc_22 : pg_cd 42 36 = (74, 0, 33, 0, 0) := by decide +kernel
theorem hd_22 : decode (pg_mb 42) 36 = .ok (.invokestatic 33, 3) := by decide +kernel
theorem hl_22 : Cond.methodLink (pg_my 42).cls 33 Lib.Math.min.name ∈ pg_Ts := pw_in (by decide +kernel) (by decide +kernel)
theorem ho_22 : ab_okX (pg_G D cA b z ss) pg_Ts (sx_E (pg_G D cA b z ss) adV t tx) l pg_sw (pg_mb 42) (pg_my 42).cls (pg_mx 42) 36 (pg_cd 42 36) := by
  rw [hc_22]
  exact ox_74 hl_22 hw_s74 hw_m hw_c74 hd_22
theorem hc_23 : pg_cd 60 14 = (74, 0, 36, 0, 0) := by decide +kernel
theorem hd_23 : decode (pg_mb 60) 14 = .ok (.invokestatic 36, 3) := by decide +kernel
theorem hl_23 : Cond.methodLink (pg_my 60).cls 36 Lib.Math.min.name ∈ pg_Ts := pw_in (by decide +kernel) (by decide +kernel)
theorem ho_23 : ab_okX (pg_G D cA b z ss) pg_Ts (sx_E (pg_G D cA b z ss) adV t tx) l pg_sw (pg_mb 60) (pg_my 60).cls (pg_mx 60) 14 (pg_cd 60 14) := by
  rw [hc_23]
  exact ox_74 hl_23 hw_s74 hw_m hw_c74 hd_23
theorem hc_24 : pg_cd 69 19 = (74, 0, 133, 0, 0) := by decide +kernel
theorem hd_24 : decode (pg_mb 69) 19 = .ok (.invokestatic 133, 3) := by decide +kernel
theorem hl_24 : Cond.methodLink (pg_my 69).cls 133 Lib.Math.min.name ∈ pg_Ts := pw_in (by decide +kernel) (by decide +kernel)
theorem ho_24 : ab_okX (pg_G D cA b z ss) pg_Ts (sx_E (pg_G D cA b z ss) adV t tx) l pg_sw (pg_mb 69) (pg_my 69).cls (pg_mx 69) 19 (pg_cd 69 19) := by
  rw [hc_24]
  exact ox_74 hl_24 hw_s74 hw_m hw_c74 hd_24
theorem hc_25 : pg_cd 71 30 = (74, 0, 133, 0, 0) := by decide +kernel
theorem hd_25 : decode (pg_mb 71) 30 = .ok (.invokestatic 133, 3) := by decide +kernel
theorem hl_25 : Cond.methodLink (pg_my 71).cls 133 Lib.Math.min.name ∈ pg_Ts := pw_in (by decide +kernel) (by decide +kernel)
theorem ho_25 : ab_okX (pg_G D cA b z ss) pg_Ts (sx_E (pg_G D cA b z ss) adV t tx) l pg_sw (pg_mb 71) (pg_my 71).cls (pg_mx 71) 30 (pg_cd 71 30) := by
  rw [hc_25]
  exact ox_74 hl_25 hw_s74 hw_m hw_c74 hd_25
theorem hc_26 : pg_cd 79 79 = (74, 0, 32, 0, 0) := by decide +kernel
theorem hd_26 : decode (pg_mb 79) 79 = .ok (.invokestatic 32, 3) := by decide +kernel
theorem hl_26 : Cond.methodLink (pg_my 79).cls 32 Lib.Math.min.name ∈ pg_Ts := pw_in (by decide +kernel) (by decide +kernel)
theorem ho_26 : ab_okX (pg_G D cA b z ss) pg_Ts (sx_E (pg_G D cA b z ss) adV t tx) l pg_sw (pg_mb 79) (pg_my 79).cls (pg_mx 79) 79 (pg_cd 79 79) := by
  rw [hc_26]
  exact ox_74 hl_26 hw_s74 hw_m hw_c74 hd_26
theorem hc_27 : pg_cd 85 38 = (73, 0, 46, 0, 0) := by decide +kernel
theorem hd_27 : decode (pg_mb 85) 38 = .ok (.invokestatic 46, 3) := by decide +kernel
theorem hl_27 : Cond.methodLink (pg_my 85).cls 46 Lib.Math.max.name ∈ pg_Ts := pw_in (by decide +kernel) (by decide +kernel)
theorem ho_27 : ab_okX (pg_G D cA b z ss) pg_Ts (sx_E (pg_G D cA b z ss) adV t tx) l pg_sw (pg_mb 85) (pg_my 85).cls (pg_mx 85) 38 (pg_cd 85 38) := by
  rw [hc_27]
  exact ox_73 hl_27 hw_s73 hw_m hw_c73 hd_27
theorem hc_28 : pg_cd 119 84 = (74, 0, 182, 0, 0) := by decide +kernel
theorem hd_28 : decode (pg_mb 119) 84 = .ok (.invokestatic 182, 3) := by decide +kernel
theorem hl_28 : Cond.methodLink (pg_my 119).cls 182 Lib.Math.min.name ∈ pg_Ts := pw_in (by decide +kernel) (by decide +kernel)
theorem ho_28 : ab_okX (pg_G D cA b z ss) pg_Ts (sx_E (pg_G D cA b z ss) adV t tx) l pg_sw (pg_mb 119) (pg_my 119).cls (pg_mx 119) 84 (pg_cd 119 84) := by
  rw [hc_28]
  exact ox_74 hl_28 hw_s74 hw_m hw_c74 hd_28
theorem hc_29 : pg_cd 123 51 = (74, 0, 182, 0, 0) := by decide +kernel
theorem hd_29 : decode (pg_mb 123) 51 = .ok (.invokestatic 182, 3) := by decide +kernel
theorem hl_29 : Cond.methodLink (pg_my 123).cls 182 Lib.Math.min.name ∈ pg_Ts := pw_in (by decide +kernel) (by decide +kernel)
theorem ho_29 : ab_okX (pg_G D cA b z ss) pg_Ts (sx_E (pg_G D cA b z ss) adV t tx) l pg_sw (pg_mb 123) (pg_my 123).cls (pg_mx 123) 51 (pg_cd 123 51) := by
  rw [hc_29]
  exact ox_74 hl_29 hw_s74 hw_m hw_c74 hd_29
theorem hc_30 : pg_cd 123 115 = (74, 0, 182, 0, 0) := by decide +kernel
theorem hd_30 : decode (pg_mb 123) 115 = .ok (.invokestatic 182, 3) := by decide +kernel
theorem hl_30 : Cond.methodLink (pg_my 123).cls 182 Lib.Math.min.name ∈ pg_Ts := pw_in (by decide +kernel) (by decide +kernel)
theorem ho_30 : ab_okX (pg_G D cA b z ss) pg_Ts (sx_E (pg_G D cA b z ss) adV t tx) l pg_sw (pg_mb 123) (pg_my 123).cls (pg_mx 123) 115 (pg_cd 123 115) := by
  rw [hc_30]
  exact ox_74 hl_30 hw_s74 hw_m hw_c74 hd_30
theorem hc_31 : pg_cd 124 71 = (74, 0, 182, 0, 0) := by decide +kernel
theorem hd_31 : decode (pg_mb 124) 71 = .ok (.invokestatic 182, 3) := by decide +kernel
theorem hl_31 : Cond.methodLink (pg_my 124).cls 182 Lib.Math.min.name ∈ pg_Ts := pw_in (by decide +kernel) (by decide +kernel)
theorem ho_31 : ab_okX (pg_G D cA b z ss) pg_Ts (sx_E (pg_G D cA b z ss) adV t tx) l pg_sw (pg_mb 124) (pg_my 124).cls (pg_mx 124) 71 (pg_cd 124 71) := by
  rw [hc_31]
  exact ox_74 hl_31 hw_s74 hw_m hw_c74 hd_31
theorem hc_32 : pg_cd 124 74 = (73, 0, 217, 0, 0) := by decide +kernel
theorem hd_32 : decode (pg_mb 124) 74 = .ok (.invokestatic 217, 3) := by decide +kernel
theorem hl_32 : Cond.methodLink (pg_my 124).cls 217 Lib.Math.max.name ∈ pg_Ts := pw_in (by decide +kernel) (by decide +kernel)
theorem ho_32 : ab_okX (pg_G D cA b z ss) pg_Ts (sx_E (pg_G D cA b z ss) adV t tx) l pg_sw (pg_mb 124) (pg_my 124).cls (pg_mx 124) 74 (pg_cd 124 74) := by
  rw [hc_32]
  exact ox_73 hl_32 hw_s73 hw_m hw_c73 hd_32
theorem hc_33 : pg_cd 124 129 = (74, 0, 182, 0, 0) := by decide +kernel
theorem hd_33 : decode (pg_mb 124) 129 = .ok (.invokestatic 182, 3) := by decide +kernel
theorem hl_33 : Cond.methodLink (pg_my 124).cls 182 Lib.Math.min.name ∈ pg_Ts := pw_in (by decide +kernel) (by decide +kernel)
theorem ho_33 : ab_okX (pg_G D cA b z ss) pg_Ts (sx_E (pg_G D cA b z ss) adV t tx) l pg_sw (pg_mb 124) (pg_my 124).cls (pg_mx 124) 129 (pg_cd 124 129) := by
  rw [hc_33]
  exact ox_74 hl_33 hw_s74 hw_m hw_c74 hd_33
theorem hc_34 : pg_cd 131 56 = (74, 0, 182, 0, 0) := by decide +kernel
theorem hd_34 : decode (pg_mb 131) 56 = .ok (.invokestatic 182, 3) := by decide +kernel
theorem hl_34 : Cond.methodLink (pg_my 131).cls 182 Lib.Math.min.name ∈ pg_Ts := pw_in (by decide +kernel) (by decide +kernel)
theorem ho_34 : ab_okX (pg_G D cA b z ss) pg_Ts (sx_E (pg_G D cA b z ss) adV t tx) l pg_sw (pg_mb 131) (pg_my 131).cls (pg_mx 131) 56 (pg_cd 131 56) := by
  rw [hc_34]
  exact ox_74 hl_34 hw_s74 hw_m hw_c74 hd_34
theorem hc_35 : pg_cd 133 29 = (74, 0, 182, 0, 0) := by decide +kernel
theorem hd_35 : decode (pg_mb 133) 29 = .ok (.invokestatic 182, 3) := by decide +kernel
theorem hl_35 : Cond.methodLink (pg_my 133).cls 182 Lib.Math.min.name ∈ pg_Ts := pw_in (by decide +kernel) (by decide +kernel)
theorem ho_35 : ab_okX (pg_G D cA b z ss) pg_Ts (sx_E (pg_G D cA b z ss) adV t tx) l pg_sw (pg_mb 133) (pg_my 133).cls (pg_mx 133) 29 (pg_cd 133 29) := by
  rw [hc_35]
  exact ox_74 hl_35 hw_s74 hw_m hw_c74 hd_35
def hx_L : List (Nat × Nat) := [(16, 9), (16, 74), (19, 122), (19, 132), (22, 246), (22, 262), (22, 313), (27, 80), (27, 88), (27, 104), (27, 114), (27, 117), (27, 129), (27, 132), (27, 151), (27, 172), (35, 22), (35, 25), (41, 13), (41, 15), (41, 21), (41, 25), (42, 36), (60, 14), (69, 19), (71, 30), (79, 79), (85, 38), (119, 84), (123, 51), (123, 115), (124, 71), (124, 74), (124, 129), (131, 56), (133, 29)]
theorem hx_all : ∀ q ∈ hx_L, ab_okX (pg_G D cA b z ss) pg_Ts (sx_E (pg_G D cA b z ss) adV t tx) l pg_sw (pg_mb q.1) (pg_my q.1).cls (pg_mx q.1) q.2 (pg_cd q.1 q.2) :=
  List.forall_mem_cons.mpr ⟨ho_0, List.forall_mem_cons.mpr ⟨ho_1, List.forall_mem_cons.mpr ⟨ho_2, List.forall_mem_cons.mpr ⟨ho_3, List.forall_mem_cons.mpr ⟨ho_4, List.forall_mem_cons.mpr ⟨ho_5, List.forall_mem_cons.mpr ⟨ho_6, List.forall_mem_cons.mpr ⟨ho_7, List.forall_mem_cons.mpr ⟨ho_8, List.forall_mem_cons.mpr ⟨ho_9, List.forall_mem_cons.mpr ⟨ho_10, List.forall_mem_cons.mpr ⟨ho_11, List.forall_mem_cons.mpr ⟨ho_12, List.forall_mem_cons.mpr ⟨ho_13, List.forall_mem_cons.mpr ⟨ho_14, List.forall_mem_cons.mpr ⟨ho_15, List.forall_mem_cons.mpr ⟨ho_16, List.forall_mem_cons.mpr ⟨ho_17, List.forall_mem_cons.mpr ⟨ho_18, List.forall_mem_cons.mpr ⟨ho_19, List.forall_mem_cons.mpr ⟨ho_20, List.forall_mem_cons.mpr ⟨ho_21, List.forall_mem_cons.mpr ⟨ho_22, List.forall_mem_cons.mpr ⟨ho_23, List.forall_mem_cons.mpr ⟨ho_24, List.forall_mem_cons.mpr ⟨ho_25, List.forall_mem_cons.mpr ⟨ho_26, List.forall_mem_cons.mpr ⟨ho_27, List.forall_mem_cons.mpr ⟨ho_28, List.forall_mem_cons.mpr ⟨ho_29, List.forall_mem_cons.mpr ⟨ho_30, List.forall_mem_cons.mpr ⟨ho_31, List.forall_mem_cons.mpr ⟨ho_32, List.forall_mem_cons.mpr ⟨ho_33, List.forall_mem_cons.mpr ⟨ho_34, List.forall_mem_cons.mpr ⟨ho_35, fun _ h => absurd h List.not_mem_nil⟩⟩⟩⟩⟩⟩⟩⟩⟩⟩⟩⟩⟩⟩⟩⟩⟩⟩⟩⟩⟩⟩⟩⟩⟩⟩⟩⟩⟩⟩⟩⟩⟩⟩⟩⟩
def hx_go (M : Nat) : List Nat → Nat → Bool
  | [], _ => true
  | v :: l, pc => (if 70 ≤ v % 128 ∧ v % 128 < 80 then decide ((M, pc) ∈ hx_L) else true) && hx_go M l (pc + 1)
theorem hx_go_s {M : Nat} : ∀ (l : List Nat) (pc : Nat), hx_go M l pc = true → ∀ i, 70 ≤ l.getD i 0 % 128 → l.getD i 0 % 128 < 80 → (M, pc + i) ∈ hx_L
  | [], pc, _, i, h1, _ => by
    rw [List.getD_nil] at h1
    omega
  | v :: l, pc, h, i, h1, h2 => by
    have h' : ((if 70 ≤ v % 128 ∧ v % 128 < 80 then decide ((M, pc) ∈ hx_L) else true) && hx_go M l (pc + 1)) = true := h
    rw [Bool.and_eq_true] at h'
    cases i with
    | zero =>
      rw [List.getD_cons_zero] at h1 h2
      have h3 := h'.1
      rw [if_pos ⟨h1, h2⟩] at h3
      exact of_decide_eq_true h3
    | succ i =>
      rw [List.getD_cons_succ] at h1 h2
      have := hx_go_s l (pc + 1) h'.2 i h1 h2
      rw [show pc + 1 + i = pc + (i + 1) by omega] at this
      exact this
set_option maxRecDepth 100000 in
theorem hx_chk : ∀ M, M < 332 → hx_go M (pg_cs.getD M []) 0 = true := by decide +kernel
theorem hx_X : ∀ M pc, 70 ≤ (pg_cd M pc).1 → (pg_cd M pc).1 < 80 → ab_okX (pg_G D cA b z ss) pg_Ts (sx_E (pg_G D cA b z ss) adV t tx) l pg_sw (pg_mb M) (pg_my M).cls (pg_mx M) pc (pg_cd M pc) := by
  intro M pc h1 h2
  by_cases hM : M < 332
  · have h := hx_go_s _ 0 (hx_chk M hM) pc h1 h2
    rw [Nat.zero_add] at h
    exact hx_all _ h
  · rw [pk_out (fun q => hM q.1)] at h1
    have e0 : (pg_un 0).1 = 0 := by decide
    omega
end HXX
section HXE
variable {b : Addr} {s : State}
theorem hx_E (hts : ∀ w ∈ lw_tbl, w.before #[Value.ref b] s = true) (hgv : (Jvm.Cond.and given_1 narrow_1).before #[Value.ref b] s = true) : ∃ ss adV t tx, ∀ (D : va_G) (cA : Nat → ClassId), sx_E (pg_G D cA b (s.heap.size - 1) ss) adV t tx s := by
  have hs := flat_of_before _ hgv
  have hA : ∀ a : Nat, a < s.heap.size → ¬ (fun q => s.heap.size - 1 < q) a := fun a h1 h2 => by
    have h3 : s.heap.size - 1 < a := h2
    omega
  have hex : (Cond.exactly (.string "MillTown$Reader" 89) "java/lang/String").before #[Value.ref b] s = true := hs _ (by decide +kernel)
  have hco : (Cond.eq (.field (.string "MillTown$Reader" 89) "java/lang/String" "coder" "B") (.int 0)).before #[Value.ref b] s = true := hs _ (by decide +kernel)
  have har : (Cond.arrayOf (.field (.string "MillTown$Reader" 89) "java/lang/String" "value" "[B") .byte).before #[Value.ref b] s = true := hs _ (by decide +kernel)
  have hle : (Cond.eq (.length (.field (.string "MillTown$Reader" 89) "java/lang/String" "value" "[B")) (.int (Int32.ofNat 98))).before #[Value.ref b] s = true := hs _ (by decide +kernel)
  have hmem : ∀ j, j < 98 → Cond.eq (.elem (.field (.string "MillTown$Reader" 89) "java/lang/String" "value" "[B") (.int (Int32.ofNat j))) (.int (sx_b.getD j 0)) ∈ flatC (Jvm.Cond.and given_1 narrow_1) := by decide +kernel
  have hcs : (Cond.eq (.static "java/lang/String" "COMPACT_STRINGS" "Z") (.int 1)).before #[Value.ref b] s = true := hs _ (by decide +kernel)
  have hsf : (Cond.isRef (.static "jdk/internal/util/Preconditions" "SIOOBE_FORMATTER" "Ljava/util/function/BiFunction;")).before #[Value.ref b] s = true := hs _ (by decide +kernel)
  obtain ⟨adK, adV, hK, hev⟩ := vk_Sof (args := #[Value.ref b]) (s := s) (N := 1) (tm := fun _ => .string "MillTown$Reader" 89) (len := [98]) (byt := [sx_b]) (A := fun q => s.heap.size - 1 < q) (fun i hi => by
      have : i = 0 := by omega
      subst this
      decide) (fun _ _ => hex) (fun _ _ => hco) (fun _ _ => har) (fun i hi => by
      have : i = 0 := by omega
      subst this
      exact hle) (fun i hi j hj => by
      have : i = 0 := by omega
      subst this
      exact hs _ (hmem j hj)) (fun i j hi hj hij => absurd (by omega) hij) hA
  obtain ⟨v, hv, hvr⟩ := Cond.isRef_spec hsf
  have hR : vk_R "MillTown$Reader" 89 "price extra when least age meals clean add take to hours or and not picks width yarn hard min max " (adK 0) s := vk_R.of (hts _ (by decide +kernel)) (hev 0 (by decide))
  have hC : va_Z "java/lang/String" "COMPACT_STRINGS" "Z" (.int 1) (fun q => s.heap.size - 1 < q) s s.heap := va_Zof (args := #[Value.ref b]) (hts _ (by decide +kernel)) (hts _ (by decide +kernel)) (va_eqi hcs) hA
  have hF : va_Z "jdk/internal/util/Preconditions" "SIOOBE_FORMATTER" "Ljava/util/function/BiFunction;" v (fun q => s.heap.size - 1 < q) s s.heap := va_Zof (args := #[Value.ref b]) (hts _ (by decide +kernel)) (hts _ (by decide +kernel)) hv hA
  refine ⟨adK 0, adV 0, v, _, fun D cA => ⟨⟨fun i hi => ?_, fun i j hi hj _ => by omega⟩, hC, hF, hR, ?_⟩⟩
  · have : i = 0 := by omega
    subst this
    exact hK.1 0 hi
  · cases v with
    | ref a => exact Or.inr ⟨a, rfl⟩
    | null => exact Or.inl rfl
    | _ => cases hvr
end HXE
