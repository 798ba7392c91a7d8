set_option maxRecDepth 100000 in
theorem zk_1070 : zmeth zKS zuq zNS zm_1070 4000 = true := by decide +kernel
theorem zM_1070 {l : Launch} {D : va_G} {cI cZ cB cJ cR : ClassId} {ks ad : List Nat} {Psi : va_W → Prop} (hw : zworld ks ad zuq zNS Psi) (hm : zMan l D cI cZ cB cJ cR ks ad Psi) : zMet l D cI cZ cB cJ cR zKS ks ad Psi yX6_tells (.code yX6_tells cX6_tells 3 none) 0 zc_1070 :=
  zmet_of hw 0 (by decide) 4000 zk_1070 (by decide) (by decide) (fun X => ⟨zg_RX6 X, zp_RX6 X, zl1_RX6 X, zl2_RX6 X, nilz, nilz⟩)
set_option maxRecDepth 100000 in
theorem zk_1071 : zmeth zKS zuq zNS zm_1071 4000 = true := by decide +kernel
theorem zM_1071 {l : Launch} {D : va_G} {cI cZ cB cJ cR : ClassId} {ks ad : List Nat} {Psi : va_W → Prop} (hw : zworld ks ad zuq zNS Psi) (hm : zMan l D cI cZ cB cJ cR ks ad Psi) : zMet l D cI cZ cB cJ cR zKS ks ad Psi yX6_tells (.code yX6_tells cX6_tells 3 none) 0 zc_1071 :=
  zmet_of hw 0 (by decide) 4000 zk_1071 (by decide) (by decide) (fun X => ⟨zg_RX6 X, zp_RX6 X, zl1_RX6 X, zl2_RX6 X, nilz, nilz⟩)
set_option maxRecDepth 100000 in
theorem zk_1072 : zmeth zKS zuq zNS zm_1072 4000 = true := by decide +kernel
theorem zM_1072 {l : Launch} {D : va_G} {cI cZ cB cJ cR : ClassId} {ks ad : List Nat} {Psi : va_W → Prop} (hw : zworld ks ad zuq zNS Psi) (hm : zMan l D cI cZ cB cJ cR ks ad Psi) : zMet l D cI cZ cB cJ cR zKS ks ad Psi yX6_tells (.code yX6_tells cX6_tells 3 none) 0 zc_1072 :=
  zmet_of hw 0 (by decide) 4000 zk_1072 (by decide) (by decide) (fun X => ⟨zg_RX6 X, zp_RX6 X, zl1_RX6 X, zl2_RX6 X, nilz, nilz⟩)
set_option maxRecDepth 100000 in
theorem zk_1073 : zmeth zKS zuq zNS zm_1073 4000 = true := by decide +kernel
theorem zM_1073 {l : Launch} {D : va_G} {cI cZ cB cJ cR : ClassId} {ks ad : List Nat} {Psi : va_W → Prop} (hw : zworld ks ad zuq zNS Psi) (hm : zMan l D cI cZ cB cJ cR ks ad Psi) : zMet l D cI cZ cB cJ cR zKS ks ad Psi yX6_tells (.code yX6_tells cX6_tells 3 none) 0 zc_1073 :=
  zmet_of hw 0 (by decide) 4000 zk_1073 (by decide) (by decide) (fun X => ⟨zg_RX6 X, zp_RX6 X, zl1_RX6 X, zl2_RX6 X, nilz, nilz⟩)
set_option maxRecDepth 100000 in
theorem zk_1074 : zmeth zKS zuq zNS zm_1074 4000 = true := by decide +kernel
theorem zM_1074 {l : Launch} {D : va_G} {cI cZ cB cJ cR : ClassId} {ks ad : List Nat} {Psi : va_W → Prop} (hw : zworld ks ad zuq zNS Psi) (hm : zMan l D cI cZ cB cJ cR ks ad Psi) : zMet l D cI cZ cB cJ cR zKS ks ad Psi yX6_tells (.code yX6_tells cX6_tells 3 none) 0 zc_1074 :=
  zmet_of hw 0 (by decide) 4000 zk_1074 (by decide) (by decide) (fun X => ⟨zg_RX6 X, zp_RX6 X, zl1_RX6 X, zl2_RX6 X, nilz, nilz⟩)
set_option maxRecDepth 100000 in
theorem zk_1075 : zmeth zKS zuq zNS zm_1075 4000 = true := by decide +kernel
theorem zM_1075 {l : Launch} {D : va_G} {cI cZ cB cJ cR : ClassId} {ks ad : List Nat} {Psi : va_W → Prop} (hw : zworld ks ad zuq zNS Psi) (hm : zMan l D cI cZ cB cJ cR ks ad Psi) : zMet l D cI cZ cB cJ cR zKS ks ad Psi yX6_tells (.code yX6_tells cX6_tells 3 none) 0 zc_1075 :=
  zmet_of hw 0 (by decide) 4000 zk_1075 (by decide) (by decide) (fun X => ⟨zg_RX6 X, zp_RX6 X, zl1_RX6 X, zl2_RX6 X, nilz, nilz⟩)
set_option maxRecDepth 100000 in
theorem zk_1076 : zmeth zKS zuq zNS zm_1076 4000 = true := by decide +kernel
theorem zM_1076 {l : Launch} {D : va_G} {cI cZ cB cJ cR : ClassId} {ks ad : List Nat} {Psi : va_W → Prop} (hw : zworld ks ad zuq zNS Psi) (hm : zMan l D cI cZ cB cJ cR ks ad Psi) : zMet l D cI cZ cB cJ cR zKS ks ad Psi yX6_tells (.code yX6_tells cX6_tells 3 none) 0 zc_1076 :=
  zmet_of hw 0 (by decide) 4000 zk_1076 (by decide) (by decide) (fun X => ⟨zg_RX6 X, zp_RX6 X, zl1_RX6 X, zl2_RX6 X, nilz, nilz⟩)
set_option maxRecDepth 100000 in
theorem zk_1077 : zmeth zKS zuq zNS zm_1077 4000 = true := by decide +kernel
theorem zM_1077 {l : Launch} {D : va_G} {cI cZ cB cJ cR : ClassId} {ks ad : List Nat} {Psi : va_W → Prop} (hw : zworld ks ad zuq zNS Psi) (hm : zMan l D cI cZ cB cJ cR ks ad Psi) : zMet l D cI cZ cB cJ cR zKS ks ad Psi yX6_tells (.code yX6_tells cX6_tells 3 none) 0 zc_1077 :=
  zmet_of hw 0 (by decide) 4000 zk_1077 (by decide) (by decide) (fun X => ⟨zg_RX6 X, zp_RX6 X, zl1_RX6 X, zl2_RX6 X, nilz, nilz⟩)
set_option maxRecDepth 100000 in
theorem zk_1078 : zmeth zKS zuq zNS zm_1078 4000 = true := by decide +kernel
theorem zM_1078 {l : Launch} {D : va_G} {cI cZ cB cJ cR : ClassId} {ks ad : List Nat} {Psi : va_W → Prop} (hw : zworld ks ad zuq zNS Psi) (hm : zMan l D cI cZ cB cJ cR ks ad Psi) : zMet l D cI cZ cB cJ cR zKS ks ad Psi yX6_tells (.code yX6_tells cX6_tells 3 none) 0 zc_1078 :=
  zmet_of hw 0 (by decide) 4000 zk_1078 (by decide) (by decide) (fun X => ⟨zg_RX6 X, zp_RX6 X, zl1_RX6 X, zl2_RX6 X, nilz, nilz⟩)
set_option maxRecDepth 100000 in
theorem zk_1079 : zmeth zKS zuq zNS zm_1079 4000 = true := by decide +kernel
theorem zM_1079 {l : Launch} {D : va_G} {cI cZ cB cJ cR : ClassId} {ks ad : List Nat} {Psi : va_W → Prop} (hw : zworld ks ad zuq zNS Psi) (hm : zMan l D cI cZ cB cJ cR ks ad Psi) : zMet l D cI cZ cB cJ cR zKS ks ad Psi yX6_tells (.code yX6_tells cX6_tells 3 none) 0 zc_1079 :=
  zmet_of hw 0 (by decide) 4000 zk_1079 (by decide) (by decide) (fun X => ⟨zg_RX6 X, zp_RX6 X, zl1_RX6 X, zl2_RX6 X, nilz, nilz⟩)
set_option maxRecDepth 100000 in
theorem zk_1080 : zmeth zKS zuq zNS zm_1080 4000 = true := by decide +kernel
theorem zM_1080 {l : Launch} {D : va_G} {cI cZ cB cJ cR : ClassId} {ks ad : List Nat} {Psi : va_W → Prop} (hw : zworld ks ad zuq zNS Psi) (hm : zMan l D cI cZ cB cJ cR ks ad Psi) : zMet l D cI cZ cB cJ cR zKS ks ad Psi yX6_tells (.code yX6_tells cX6_tells 3 none) 0 zc_1080 :=
  zmet_of hw 0 (by decide) 4000 zk_1080 (by decide) (by decide) (fun X => ⟨zg_RX6 X, zp_RX6 X, zl1_RX6 X, zl2_RX6 X, nilz, nilz⟩)
set_option maxRecDepth 100000 in
theorem zk_1081 : zmeth zKS zuq zNS zm_1081 4000 = true := by decide +kernel
theorem zM_1081 {l : Launch} {D : va_G} {cI cZ cB cJ cR : ClassId} {ks ad : List Nat} {Psi : va_W → Prop} (hw : zworld ks ad zuq zNS Psi) (hm : zMan l D cI cZ cB cJ cR ks ad Psi) : zMet l D cI cZ cB cJ cR zKS ks ad Psi yX6_tells (.code yX6_tells cX6_tells 3 none) 0 zc_1081 :=
  zmet_of hw 0 (by decide) 4000 zk_1081 (by decide) (by decide) (fun X => ⟨zg_RX6 X, zp_RX6 X, zl1_RX6 X, zl2_RX6 X, nilz, nilz⟩)
set_option maxRecDepth 100000 in
theorem zk_1082 : zmeth zKS zuq zNS zm_1082 4000 = true := by decide +kernel
theorem zM_1082 {l : Launch} {D : va_G} {cI cZ cB cJ cR : ClassId} {ks ad : List Nat} {Psi : va_W → Prop} (hw : zworld ks ad zuq zNS Psi) (hm : zMan l D cI cZ cB cJ cR ks ad Psi) : zMet l D cI cZ cB cJ cR zKS ks ad Psi yX6_tells (.code yX6_tells cX6_tells 3 none) 0 zc_1082 :=
  zmet_of hw 0 (by decide) 4000 zk_1082 (by decide) (by decide) (fun X => ⟨zg_RX6 X, zp_RX6 X, zl1_RX6 X, zl2_RX6 X, nilz, nilz⟩)
set_option maxRecDepth 100000 in
theorem zk_1083 : zmeth zKS zuq zNS zm_1083 4000 = true := by decide +kernel
theorem zM_1083 {l : Launch} {D : va_G} {cI cZ cB cJ cR : ClassId} {ks ad : List Nat} {Psi : va_W → Prop} (hw : zworld ks ad zuq zNS Psi) (hm : zMan l D cI cZ cB cJ cR ks ad Psi) : zMet l D cI cZ cB cJ cR zKS ks ad Psi yX6_tells (.code yX6_tells cX6_tells 3 none) 0 zc_1083 :=
  zmet_of hw 0 (by decide) 4000 zk_1083 (by decide) (by decide) (fun X => ⟨zg_RX6 X, zp_RX6 X, zl1_RX6 X, zl2_RX6 X, nilz, nilz⟩)
set_option maxRecDepth 100000 in
theorem zk_1084 : zmeth zKS zuq zNS zm_1084 4000 = true := by decide +kernel
theorem zM_1084 {l : Launch} {D : va_G} {cI cZ cB cJ cR : ClassId} {ks ad : List Nat} {Psi : va_W → Prop} (hw : zworld ks ad zuq zNS Psi) (hm : zMan l D cI cZ cB cJ cR ks ad Psi) : zMet l D cI cZ cB cJ cR zKS ks ad Psi yX6_tells (.code yX6_tells cX6_tells 3 none) 0 zc_1084 :=
  zmet_of hw 0 (by decide) 4000 zk_1084 (by decide) (by decide) (fun X => ⟨zg_RX6 X, zp_RX6 X, zl1_RX6 X, zl2_RX6 X, nilz, nilz⟩)
set_option maxRecDepth 100000 in
theorem zk_224 : zmeth zKS zuq zNS zm_224 4000 = true := by decide +kernel
theorem zM_224 {l : Launch} {D : va_G} {cI cZ cB cJ cR : ClassId} {ks ad : List Nat} {Psi : va_W → Prop} (hw : zworld ks ad zuq zNS Psi) (hm : zMan l D cI cZ cB cJ cR ks ad Psi) : zMet l D cI cZ cB cJ cR zKS ks ad Psi yX0_allHours (.code yX0_allHours cX0_allHours 1 (some .int)) 1 zc_224 :=
  zmet_of hw 1 (by decide) 4000 zk_224 (by decide) (by decide) (fun X => ⟨zg_RX0 X, zp_RX0 X, zl1_RX0 X, zl2_RX0 X, nilz, (List.forall_mem_cons.mpr ⟨zq_RX0_76 X (zM_242 hw hm) (by decide) rfl rfl, nilz⟩)⟩)
set_option maxRecDepth 100000 in
theorem zk_226 : zmeth zKS zuq zNS zm_226 4000 = true := by decide +kernel
theorem zM_226 {l : Launch} {D : va_G} {cI cZ cB cJ cR : ClassId} {ks ad : List Nat} {Psi : va_W → Prop} (hw : zworld ks ad zuq zNS Psi) (hm : zMan l D cI cZ cB cJ cR ks ad Psi) : zMet l D cI cZ cB cJ cR zKS ks ad Psi yX0_chainFrom (.code yX0_chainFrom cX0_chainFrom 5 (some .int)) 1 zc_226 :=
  zmet_of hw 1 (by decide) 4000 zk_226 (by decide) (by decide) (fun X => ⟨zg_RX0 X, zp_RX0 X, zl1_RX0 X, zl2_RX0 X, nilz, (List.forall_mem_cons.mpr ⟨zq_RX0_72 X (zM_247 hw hm) (by decide) rfl rfl, (List.forall_mem_cons.mpr ⟨zq_RX0_98 X (zM_605 hw hm) (by decide) rfl, nilz⟩)⟩)⟩)
set_option maxRecDepth 100000 in
theorem zk_233 : zmeth zKS zuq zNS zm_233 4000 = true := by decide +kernel
theorem zM_233 {l : Launch} {D : va_G} {cI cZ cB cJ cR : ClassId} {ks ad : List Nat} {Psi : va_W → Prop} (hw : zworld ks ad zuq zNS Psi) (hm : zMan l D cI cZ cB cJ cR ks ad Psi) : zMet l D cI cZ cB cJ cR zKS ks ad Psi yX0_fogFrom (.code yX0_fogFrom cX0_fogFrom 6 (some .int)) 1 zc_233 :=
  zmet_of hw 1 (by decide) 4000 zk_233 (by decide) (by decide) (fun X => ⟨zg_RX0 X, zp_RX0 X, zl1_RX0 X, zl2_RX0 X, nilz, (List.forall_mem_cons.mpr ⟨zq_RX0_76 X (zM_242 hw hm) (by decide) rfl rfl, nilz⟩)⟩)
set_option maxRecDepth 100000 in
theorem zk_243 : zmeth zKS zuq zNS zm_243 4000 = true := by decide +kernel
theorem zM_243 {l : Launch} {D : va_G} {cI cZ cB cJ cR : ClassId} {ks ad : List Nat} {Psi : va_W → Prop} (hw : zworld ks ad zuq zNS Psi) (hm : zMan l D cI cZ cB cJ cR ks ad Psi) : zMet l D cI cZ cB cJ cR zKS ks ad Psi yX0_hoursSeen (.code yX0_hoursSeen cX0_hoursSeen 3 (some .int)) 1 zc_243 :=
  zmet_of hw 1 (by decide) 4000 zk_243 (by decide) (by decide) (fun X => ⟨zg_RX0 X, zp_RX0 X, zl1_RX0 X, zl2_RX0 X, nilz, (List.forall_mem_cons.mpr ⟨zq_RX0_95 X (zM_260 hw hm) (by decide) rfl rfl, (List.forall_mem_cons.mpr ⟨zq_RX0_101 X (zM_0 hw hm) (by decide) rfl, nilz⟩)⟩)⟩)
set_option maxRecDepth 100000 in
theorem zk_245 : zmeth zKS zuq zNS zm_245 4000 = true := by decide +kernel
theorem zM_245 {l : Launch} {D : va_G} {cI cZ cB cJ cR : ClassId} {ks ad : List Nat} {Psi : va_W → Prop} (hw : zworld ks ad zuq zNS Psi) (hm : zMan l D cI cZ cB cJ cR ks ad Psi) : zMet l D cI cZ cB cJ cR zKS ks ad Psi yX0_isHour (.code yX0_isHour cX0_isHour 3 (some .boolean)) 1 zc_245 :=
  zmet_of hw 1 (by decide) 4000 zk_245 (by decide) (by decide) (fun X => ⟨zg_RX0 X, zp_RX0 X, zl1_RX0 X, zl2_RX0 X, nilz, (List.forall_mem_cons.mpr ⟨zq_RX0_76 X (zM_242 hw hm) (by decide) rfl rfl, nilz⟩)⟩)
set_option maxRecDepth 100000 in
theorem zk_246 : zmeth zKS zuq zNS zm_246 4000 = true := by decide +kernel
theorem zM_246 {l : Launch} {D : va_G} {cI cZ cB cJ cR : ClassId} {ks ad : List Nat} {Psi : va_W → Prop} (hw : zworld ks ad zuq zNS Psi) (hm : zMan l D cI cZ cB cJ cR ks ad Psi) : zMet l D cI cZ cB cJ cR zKS ks ad Psi yX0_isPair (.code yX0_isPair cX0_isPair 5 (some .boolean)) 1 zc_246 :=
  zmet_of hw 1 (by decide) 4000 zk_246 (by decide) (by decide) (fun X => ⟨zg_RX0 X, zp_RX0 X, zl1_RX0 X, zl2_RX0 X, nilz, (List.forall_mem_cons.mpr ⟨zq_RX0_72 X (zM_247 hw hm) (by decide) rfl rfl, nilz⟩)⟩)
set_option maxRecDepth 100000 in
theorem zk_248 : zmeth zKS zuq zNS zm_248 4000 = true := by decide +kernel
theorem zM_248 {l : Launch} {D : va_G} {cI cZ cB cJ cR : ClassId} {ks ad : List Nat} {Psi : va_W → Prop} (hw : zworld ks ad zuq zNS Psi) (hm : zMan l D cI cZ cB cJ cR ks ad Psi) : zMet l D cI cZ cB cJ cR zKS ks ad Psi yX0_isPlace (.code yX0_isPlace cX0_isPlace 3 (some .boolean)) 1 zc_248 :=
  zmet_of hw 1 (by decide) 4000 zk_248 (by decide) (by decide) (fun X => ⟨zg_RX0 X, zp_RX0 X, zl1_RX0 X, zl2_RX0 X, nilz, (List.forall_mem_cons.mpr ⟨zq_RX0_80 X (zM_257 hw hm) (by decide) rfl rfl, nilz⟩)⟩)
set_option maxRecDepth 100000 in
theorem zk_253 : zmeth zKS zuq zNS zm_253 4000 = true := by decide +kernel
theorem zM_253 {l : Launch} {D : va_G} {cI cZ cB cJ cR : ClassId} {ks ad : List Nat} {Psi : va_W → Prop} (hw : zworld ks ad zuq zNS Psi) (hm : zMan l D cI cZ cB cJ cR ks ad Psi) : zMet l D cI cZ cB cJ cR zKS ks ad Psi yX0_manyIn (.code yX0_manyIn cX0_manyIn 5 (some .int)) 1 zc_253 :=
  zmet_of hw 1 (by decide) 4000 zk_253 (by decide) (by decide) (fun X => ⟨zg_RX0 X, zp_RX0 X, zl1_RX0 X, zl2_RX0 X, nilz, (List.forall_mem_cons.mpr ⟨zq_RX0_65 X (zM_256 hw hm) (by decide) rfl rfl, nilz⟩)⟩)
set_option maxRecDepth 100000 in
theorem zk_255 : zmeth zKS zuq zNS zm_255 4000 = true := by decide +kernel
theorem zM_255 {l : Launch} {D : va_G} {cI cZ cB cJ cR : ClassId} {ks ad : List Nat} {Psi : va_W → Prop} (hw : zworld ks ad zuq zNS Psi) (hm : zMan l D cI cZ cB cJ cR ks ad Psi) : zMet l D cI cZ cB cJ cR zKS ks ad Psi yX0_nearBits (.code yX0_nearBits cX0_nearBits 5 (some .int)) 1 zc_255 :=
  zmet_of hw 1 (by decide) 4000 zk_255 (by decide) (by decide) (fun X => ⟨zg_RX0 X, zp_RX0 X, zl1_RX0 X, zl2_RX0 X, nilz, (List.forall_mem_cons.mpr ⟨zq_RX0_65 X (zM_256 hw hm) (by decide) rfl rfl, (List.forall_mem_cons.mpr ⟨zq_RX0_76 X (zM_242 hw hm) (by decide) rfl rfl, (List.forall_mem_cons.mpr ⟨zq_abs X (by decide) lm_43_0 lm_40_12 lm_11_7 lm_40_13 (by decide), nilz⟩)⟩)⟩)⟩)
set_option maxRecDepth 100000 in
theorem zk_258 : zmeth zKS zuq zNS zm_258 4000 = true := by decide +kernel
theorem zM_258 {l : Launch} {D : va_G} {cI cZ cB cJ cR : ClassId} {ks ad : List Nat} {Psi : va_W → Prop} (hw : zworld ks ad zuq zNS Psi) (hm : zMan l D cI cZ cB cJ cR ks ad Psi) : zMet l D cI cZ cB cJ cR zKS ks ad Psi yX0_reaches (.code yX0_reaches cX0_reaches 6 (some .boolean)) 1 zc_258 :=
  zmet_of hw 1 (by decide) 4000 zk_258 (by decide) (by decide) (fun X => ⟨zg_RX0 X, zp_RX0 X, zl1_RX0 X, zl2_RX0 X, nilz, (List.forall_mem_cons.mpr ⟨zq_min X (by decide) lm_13_8 lm_11_6 lm_11_7 lm_11_8 (by decide) (by decide), (List.forall_mem_cons.mpr ⟨zq_max X (by decide) lm_13_9 lm_13_10 lm_11_7 lm_13_11 (by decide) (by decide), nilz⟩)⟩)⟩)
set_option maxRecDepth 100000 in
theorem zk_262 : zmeth zKS zuq zNS zm_262 4000 = true := by decide +kernel
theorem zM_262 {l : Launch} {D : va_G} {cI cZ cB cJ cR : ClassId} {ks ad : List Nat} {Psi : va_W → Prop} (hw : zworld ks ad zuq zNS Psi) (hm : zMan l D cI cZ cB cJ cR ks ad Psi) : zMet l D cI cZ cB cJ cR zKS ks ad Psi yX0_seenByAny (.code yX0_seenByAny cX0_seenByAny 5 (some .int)) 1 zc_262 :=
  zmet_of hw 1 (by decide) 4000 zk_262 (by decide) (by decide) (fun X => ⟨zg_RX0 X, zp_RX0 X, zl1_RX0 X, zl2_RX0 X, nilz, (List.forall_mem_cons.mpr ⟨zq_RX0_95 X (zM_260 hw hm) (by decide) rfl rfl, (List.forall_mem_cons.mpr ⟨zq_RX0_98 X (zM_605 hw hm) (by decide) rfl, nilz⟩)⟩)⟩)
set_option maxRecDepth 100000 in
theorem zk_263 : zmeth zKS zuq zNS zm_263 4000 = true := by decide +kernel
theorem zM_263 {l : Launch} {D : va_G} {cI cZ cB cJ cR : ClassId} {ks ad : List Nat} {Psi : va_W → Prop} (hw : zworld ks ad zuq zNS Psi) (hm : zMan l D cI cZ cB cJ cR ks ad Psi) : zMet l D cI cZ cB cJ cR zKS ks ad Psi yX0_seesIn (.code yX0_seesIn cX0_seesIn 4 (some .boolean)) 1 zc_263 :=
  zmet_of hw 1 (by decide) 4000 zk_263 (by decide) (by decide) (fun X => ⟨zg_RX0 X, zp_RX0 X, zl1_RX0 X, zl2_RX0 X, nilz, (List.forall_mem_cons.mpr ⟨zq_RX0_95 X (zM_260 hw hm) (by decide) rfl rfl, (List.forall_mem_cons.mpr ⟨zq_RX0_98 X (zM_605 hw hm) (by decide) rfl, nilz⟩)⟩)⟩)
set_option maxRecDepth 100000 in
theorem zk_272 : zmeth zKS zuq zNS zm_272 4000 = true := by decide +kernel
theorem zM_272 {l : Launch} {D : va_G} {cI cZ cB cJ cR : ClassId} {ks ad : List Nat} {Psi : va_W → Prop} (hw : zworld ks ad zuq zNS Psi) (hm : zMan l D cI cZ cB cJ cR ks ad Psi) : zMet l D cI cZ cB cJ cR zKS ks ad Psi yX1_firstFrom (.code yX1_firstFrom cX1_firstFrom 6 (some .int)) 1 zc_272 :=
  zmet_of hw 1 (by decide) 4000 zk_272 (by decide) (by decide) (fun X => ⟨zg_RX1 X, zp_RX1 X, zl1_RX1 X, zl2_RX1 X, nilz, (List.forall_mem_cons.mpr ⟨zq_abs X (by decide) lm_40_11 lm_40_12 lm_11_7 lm_40_13 (by decide), nilz⟩)⟩)
set_option maxRecDepth 100000 in
theorem zk_274 : zmeth zKS zuq zNS zm_274 4000 = true := by decide +kernel
theorem zM_274 {l : Launch} {D : va_G} {cI cZ cB cJ cR : ClassId} {ks ad : List Nat} {Psi : va_W → Prop} (hw : zworld ks ad zuq zNS Psi) (hm : zMan l D cI cZ cB cJ cR ks ad Psi) : zMet l D cI cZ cB cJ cR zKS ks ad Psi yX1_most (.code yX1_most cX1_most 3 (some .int)) 1 zc_274 :=
  zmet_of hw 1 (by decide) 4000 zk_274 (by decide) (by decide) (fun X => ⟨zg_RX1 X, zp_RX1 X, zl1_RX1 X, zl2_RX1 X, nilz, (List.forall_mem_cons.mpr ⟨zq_max X (by decide) lm_40_21 lm_13_10 lm_11_7 lm_13_11 (by decide) (by decide), nilz⟩)⟩)
set_option maxRecDepth 100000 in
theorem zk_276 : zmeth zKS zuq zNS zm_276 4000 = true := by decide +kernel
theorem zM_276 {l : Launch} {D : va_G} {cI cZ cB cJ cR : ClassId} {ks ad : List Nat} {Psi : va_W → Prop} (hw : zworld ks ad zuq zNS Psi) (hm : zMan l D cI cZ cB cJ cR ks ad Psi) : zMet l D cI cZ cB cJ cR zKS ks ad Psi yX1_planFrom (.code yX1_planFrom cX1_planFrom 7 none) 1 zc_276 :=
  zmet_of hw 1 (by decide) 4000 zk_276 (by decide) (by decide) (fun X => ⟨zg_RX1 X, zp_RX1 X, zl1_RX1 X, zl2_RX1 X, nilz, (List.forall_mem_cons.mpr ⟨zq_abs X (by decide) lm_40_11 lm_40_12 lm_11_7 lm_40_13 (by decide), (List.forall_mem_cons.mpr ⟨zq_RX1_69 X (zM_273 hw hm) (by decide) rfl rfl, nilz⟩)⟩)⟩)
set_option maxRecDepth 100000 in
theorem zk_284 : zmeth zKS zuq zNS zm_284 4000 = true := by decide +kernel
theorem zM_284 {l : Launch} {D : va_G} {cI cZ cB cJ cR : ClassId} {ks ad : List Nat} {Psi : va_W → Prop} (hw : zworld ks ad zuq zNS Psi) (hm : zMan l D cI cZ cB cJ cR ks ad Psi) : zMet l D cI cZ cB cJ cR zKS ks ad Psi yX2_begin (.code yX2_begin cX2_begin 4 none) 1 zc_284 :=
  zmet_of hw 1 (by decide) 4000 zk_284 (by decide) (by decide) (fun X => ⟨zg_RX2 X, zp_RX2 X, zl1_RX2 X, zl2_RX2 X, nilz, (List.forall_mem_cons.mpr ⟨zq_RX2_111 X (zM_260 hw hm) (by decide) rfl rfl, (List.forall_mem_cons.mpr ⟨zq_RX2_114 X (zM_291 hw hm) (by decide) rfl rfl, nilz⟩)⟩)⟩)
set_option maxRecDepth 100000 in
theorem zk_289 : zmeth zKS zuq zNS zm_289 4000 = true := by decide +kernel
theorem zM_289 {l : Launch} {D : va_G} {cI cZ cB cJ cR : ClassId} {ks ad : List Nat} {Psi : va_W → Prop} (hw : zworld ks ad zuq zNS Psi) (hm : zMan l D cI cZ cB cJ cR ks ad Psi) : zMet l D cI cZ cB cJ cR zKS ks ad Psi yX2_fits (.code yX2_fits cX2_fits 3 (some .boolean)) 1 zc_289 :=
  zmet_of hw 1 (by decide) 4000 zk_289 (by decide) (by decide) (fun X => ⟨zg_RX2 X, zp_RX2 X, zl1_RX2 X, zl2_RX2 X, nilz, (List.forall_mem_cons.mpr ⟨zq_RX2_125 X (zM_605 hw hm) (by decide) rfl, nilz⟩)⟩)
set_option maxRecDepth 100000 in
theorem zk_293 : zmeth zKS zuq zNS zm_293 4000 = true := by decide +kernel
theorem zM_293 {l : Launch} {D : va_G} {cI cZ cB cJ cR : ClassId} {ks ad : List Nat} {Psi : va_W → Prop} (hw : zworld ks ad zuq zNS Psi) (hm : zMan l D cI cZ cB cJ cR ks ad Psi) : zMet l D cI cZ cB cJ cR zKS ks ad Psi yX2_weigh (.code yX2_weigh cX2_weigh 5 none) 1 zc_293 :=
  zmet_of hw 1 (by decide) 4000 zk_293 (by decide) (by decide) (fun X => ⟨zg_RX2 X, zp_RX2 X, zl1_RX2 X, zl2_RX2 X, nilz, (List.forall_mem_cons.mpr ⟨zq_max X (by decide) lm_31_11 lm_13_10 lm_11_7 lm_13_11 (by decide) (by decide), (List.forall_mem_cons.mpr ⟨zq_copy (k0 := 21) (k1 := 26) (fun ws i k a e e9 h1 h2 => hw.2.2.2 ws i k a e e9 h1 (by rw [h2]; decide)) X (by decide) lm_31_12 lm_31_13 lm_31_14 lm_31_15 rfl rfl (by decide) (by decide) (by decide), nilz⟩)⟩)⟩)
set_option maxRecDepth 100000 in
theorem zk_550 : zmeth zKS zuq zNS zm_550 4000 = true := by decide +kernel
theorem zM_550 {l : Launch} {D : va_G} {cI cZ cB cJ cR : ClassId} {ks ad : List Nat} {Psi : va_W → Prop} (hw : zworld ks ad zuq zNS Psi) (hm : zMan l D cI cZ cB cJ cR ks ad Psi) : zMet l D cI cZ cB cJ cR zKS ks ad Psi yX4_numberLookedAt (.code yX4_numberLookedAt cX4_numberLookedAt 3 (some .int)) 1 zc_550 :=
  zmet_of hw 1 (by decide) 4000 zk_550 (by decide) (by decide) (fun X => ⟨zg_RX4 X, zp_RX4 X, zl1_RX4 X, zl2_RX4 X, nilz, (List.forall_mem_cons.mpr ⟨zq_min X (by decide) lm_11_5 lm_11_6 lm_11_7 lm_11_8 (by decide) (by decide), nilz⟩)⟩)
set_option maxRecDepth 100000 in
theorem zk_563 : zmeth zKS zuq zNS zm_563 4000 = true := by decide +kernel
theorem zM_563 {l : Launch} {D : va_G} {cI cZ cB cJ cR : ClassId} {ks ad : List Nat} {Psi : va_W → Prop} (hw : zworld ks ad zuq zNS Psi) (hm : zMan l D cI cZ cB cJ cR ks ad Psi) : zMet l D cI cZ cB cJ cR zKS ks ad Psi yX4_toNextToken (.code yX4_toNextToken cX4_toNextToken 1 none) 1 zc_563 :=
  zmet_of hw 1 (by decide) 4000 zk_563 (by decide) (by decide) (fun X => ⟨zg_RX4 X, zp_RX4 X, zl1_RX4 X, zl2_RX4 X, nilz, (List.forall_mem_cons.mpr ⟨zq_RX4_165 X (zM_548 hw hm) (by decide) rfl, nilz⟩)⟩)
set_option maxRecDepth 100000 in
theorem zk_583 : zmeth zKS zuq zNS zm_583 4000 = true := by decide +kernel
theorem zM_583 {l : Launch} {D : va_G} {cI cZ cB cJ cR : ClassId} {ks ad : List Nat} {Psi : va_W → Prop} (hw : zworld ks ad zuq zNS Psi) (hm : zMan l D cI cZ cB cJ cR ks ad Psi) : zMet l D cI cZ cB cJ cR zKS ks ad Psi yX5_count (.code yX5_count cX5_count 2 (some .int)) 1 zc_583 :=
  zmet_of hw 1 (by decide) 4000 zk_583 (by decide) (by decide) (fun X => ⟨zg_RX5 X, zp_RX5 X, zl1_RX5 X, zl2_RX5 X, nilz, (List.forall_mem_cons.mpr ⟨zq_RX5_314 X (zM_298 hw hm) (by decide) rfl rfl, nilz⟩)⟩)
set_option maxRecDepth 100000 in
theorem zk_597 : zmeth zKS zuq zNS zm_597 4000 = true := by decide +kernel
theorem zM_597 {l : Launch} {D : va_G} {cI cZ cB cJ cR : ClassId} {ks ad : List Nat} {Psi : va_W → Prop} (hw : zworld ks ad zuq zNS Psi) (hm : zMan l D cI cZ cB cJ cR ks ad Psi) : zMet l D cI cZ cB cJ cR zKS ks ad Psi yX5_feed (.code yX5_feed cX5_feed 6 (some .int)) 1 zc_597 :=
  zmet_of hw 1 (by decide) 4000 zk_597 (by decide) (by decide) (fun X => ⟨zg_RX5 X, zp_RX5 X, zl1_RX5 X, zl2_RX5 X, nilz, (List.forall_mem_cons.mpr ⟨zq_RX5_55 X (zM_546 hw hm) (by decide) rfl rfl, (List.forall_mem_cons.mpr ⟨zq_RX5_59 X (zM_545 hw hm) (by decide) rfl rfl, nilz⟩)⟩)⟩)
set_option maxRecDepth 100000 in
theorem zk_600 : zmeth zKS zuq zNS zm_600 4000 = true := by decide +kernel
theorem zM_600 {l : Launch} {D : va_G} {cI cZ cB cJ cR : ClassId} {ks ad : List Nat} {Psi : va_W → Prop} (hw : zworld ks ad zuq zNS Psi) (hm : zMan l D cI cZ cB cJ cR ks ad Psi) : zMet l D cI cZ cB cJ cR zKS ks ad Psi yX5_gapOdds (.code yX5_gapOdds cX5_gapOdds 4 (some .int)) 1 zc_600 :=
  zmet_of hw 1 (by decide) 4000 zk_600 (by decide) (by decide) (fun X => ⟨zg_RX5 X, zp_RX5 X, zl1_RX5 X, zl2_RX5 X, nilz, (List.forall_mem_cons.mpr ⟨zq_RX5_128 X (zM_605 hw hm) (by decide) rfl, nilz⟩)⟩)
set_option maxRecDepth 100000 in
theorem zk_698 : zmeth zKS zuq zNS zm_698 4000 = true := by decide +kernel
theorem zM_698 {l : Launch} {D : va_G} {cI cZ cB cJ cR : ClassId} {ks ad : List Nat} {Psi : va_W → Prop} (hw : zworld ks ad zuq zNS Psi) (hm : zMan l D cI cZ cB cJ cR ks ad Psi) : zMet l D cI cZ cB cJ cR zKS ks ad Psi yX5_mutual (.code yX5_mutual cX5_mutual 4 (some .int)) 1 zc_698 :=
  zmet_of hw 1 (by decide) 4000 zk_698 (by decide) (by decide) (fun X => ⟨zg_RX5 X, zp_RX5 X, zl1_RX5 X, zl2_RX5 X, nilz, (List.forall_mem_cons.mpr ⟨zq_RX5_115 X (zM_231 hw hm) (by decide) rfl rfl, nilz⟩)⟩)
set_option maxRecDepth 100000 in
theorem zk_713 : zmeth zKS zuq zNS zm_713 4000 = true := by decide +kernel
theorem zM_713 {l : Launch} {D : va_G} {cI cZ cB cJ cR : ClassId} {ks ad : List Nat} {Psi : va_W → Prop} (hw : zworld ks ad zuq zNS Psi) (hm : zMan l D cI cZ cB cJ cR ks ad Psi) : zMet l D cI cZ cB cJ cR zKS ks ad Psi yX5_refuseRow (.code yX5_refuseRow cX5_refuseRow 3 (some .int)) 1 zc_713 :=
  zmet_of hw 1 (by decide) 4000 zk_713 (by decide) (by decide) (fun X => ⟨zg_RX5 X, zp_RX5 X, zl1_RX5 X, zl2_RX5 X, nilz, (List.forall_mem_cons.mpr ⟨zq_RX5_321 X (zM_296 hw hm) (by decide) rfl rfl, nilz⟩)⟩)
