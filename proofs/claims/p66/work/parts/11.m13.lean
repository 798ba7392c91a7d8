set_option maxRecDepth 100000 in
theorem zk_984 : zmeth zKS zuq zNS zm_984 4000 = true := by decide +kernel
theorem zM_984 {l : Launch} {D : va_G} {cI cZ cB cJ cR : ClassId} {ks ad : List Nat} {Psi : va_W → Prop} (hw : zworld ks ad zuq zNS Psi) (hm : zMan l D cI cZ cB cJ cR ks ad Psi) : zMet l D cI cZ cB cJ cR zKS ks ad Psi yX6_number (.code yX6_number cX6_number 4 (some .int)) 2 zc_984 :=
  zmet_of hw 2 (by decide) 4000 zk_984 (by decide) (by decide) (fun X => ⟨zg_RX6 X, zp_RX6 X, zl1_RX6 X, zl2_RX6 X, nilz, (List.forall_mem_cons.mpr ⟨zq_RX6_76 X (zM_850 hw hm) (by decide) rfl, (List.forall_mem_cons.mpr ⟨zq_RX6_133 X (zM_973 hw hm) (by decide) rfl rfl, (List.forall_mem_cons.mpr ⟨zq_RX6_139 X (zM_811 hw hm) (by decide) rfl rfl, nilz⟩)⟩)⟩)⟩)
set_option maxRecDepth 100000 in
theorem zk_1061 : zmeth zKS zuq zNS zm_1061 4000 = true := by decide +kernel
theorem zM_1061 {l : Launch} {D : va_G} {cI cZ cB cJ cR : ClassId} {ks ad : List Nat} {Psi : va_W → Prop} (hw : zworld ks ad zuq zNS Psi) (hm : zMan l D cI cZ cB cJ cR ks ad Psi) : zMet l D cI cZ cB cJ cR zKS ks ad Psi yX6_takes (.code yX6_takes cX6_takes 3 (some .boolean)) 2 zc_1061 :=
  zmet_of hw 2 (by decide) 4000 zk_1061 (by decide) (by decide) (fun X => ⟨zg_RX6 X, zp_RX6 X, zl1_RX6 X, zl2_RX6 X, nilz, (List.forall_mem_cons.mpr ⟨zq_RX6_129 X (zM_855 hw hm) (by decide) rfl rfl, (List.forall_mem_cons.mpr ⟨zq_RX6_133 X (zM_973 hw hm) (by decide) rfl rfl, nilz⟩)⟩)⟩)
set_option maxRecDepth 100000 in
theorem zk_1096 : zmeth zKS zuq zNS zm_1096 4000 = true := by decide +kernel
theorem zM_1096 {l : Launch} {D : va_G} {cI cZ cB cJ cR : ClassId} {ks ad : List Nat} {Psi : va_W → Prop} (hw : zworld ks ad zuq zNS Psi) (hm : zMan l D cI cZ cB cJ cR ks ad Psi) : zMet l D cI cZ cB cJ cR zKS ks ad Psi yX6_whyNotOaths (.code yX6_whyNotOaths cX6_whyNotOaths 4 (some .int)) 2 zc_1096 :=
  zmet_of hw 2 (by decide) 4000 zk_1096 (by decide) (by decide) (fun X => ⟨zg_RX6 X, zp_RX6 X, zl1_RX6 X, zl2_RX6 X, nilz, (List.forall_mem_cons.mpr ⟨zq_RX6_80 X (zM_870 hw hm) (by decide) rfl, nilz⟩)⟩)
set_option maxRecDepth 100000 in
theorem zk_1101 : zmeth zKS zuq zNS zm_1101 4000 = true := by decide +kernel
theorem zM_1101 {l : Launch} {D : va_G} {cI cZ cB cJ cR : ClassId} {ks ad : List Nat} {Psi : va_W → Prop} (hw : zworld ks ad zuq zNS Psi) (hm : zMan l D cI cZ cB cJ cR ks ad Psi) : zMet l D cI cZ cB cJ cR zKS ks ad Psi yX6_whyNotOaths (.code yX6_whyNotOaths cX6_whyNotOaths 4 (some .int)) 2 zc_1101 :=
  zmet_of hw 2 (by decide) 4000 zk_1101 (by decide) (by decide) (fun X => ⟨zg_RX6 X, zp_RX6 X, zl1_RX6 X, zl2_RX6 X, nilz, (List.forall_mem_cons.mpr ⟨zq_RX6_80 X (zM_870 hw hm) (by decide) rfl, nilz⟩)⟩)
set_option maxRecDepth 100000 in
theorem zk_1102 : zmeth zKS zuq zNS zm_1102 4000 = true := by decide +kernel
theorem zM_1102 {l : Launch} {D : va_G} {cI cZ cB cJ cR : ClassId} {ks ad : List Nat} {Psi : va_W → Prop} (hw : zworld ks ad zuq zNS Psi) (hm : zMan l D cI cZ cB cJ cR ks ad Psi) : zMet l D cI cZ cB cJ cR zKS ks ad Psi yX6_whyNotWho (.code yX6_whyNotWho cX6_whyNotWho 3 (some .int)) 2 zc_1102 :=
  zmet_of hw 2 (by decide) 4000 zk_1102 (by decide) (by decide) (fun X => ⟨zg_RX6 X, zp_RX6 X, zl1_RX6 X, zl2_RX6 X, nilz, (List.forall_mem_cons.mpr ⟨zq_RX6_80 X (zM_870 hw hm) (by decide) rfl, nilz⟩)⟩)
set_option maxRecDepth 100000 in
theorem zk_1107 : zmeth zKS zuq zNS zm_1107 4000 = true := by decide +kernel
theorem zM_1107 {l : Launch} {D : va_G} {cI cZ cB cJ cR : ClassId} {ks ad : List Nat} {Psi : va_W → Prop} (hw : zworld ks ad zuq zNS Psi) (hm : zMan l D cI cZ cB cJ cR ks ad Psi) : zMet l D cI cZ cB cJ cR zKS ks ad Psi yX6_whyNotWho (.code yX6_whyNotWho cX6_whyNotWho 3 (some .int)) 2 zc_1107 :=
  zmet_of hw 2 (by decide) 4000 zk_1107 (by decide) (by decide) (fun X => ⟨zg_RX6 X, zp_RX6 X, zl1_RX6 X, zl2_RX6 X, nilz, (List.forall_mem_cons.mpr ⟨zq_RX6_80 X (zM_870 hw hm) (by decide) rfl, nilz⟩)⟩)
set_option maxRecDepth 100000 in
theorem zk_1108 : zmeth zKS zuq zNS zm_1108 4000 = true := by decide +kernel
theorem zM_1108 {l : Launch} {D : va_G} {cI cZ cB cJ cR : ClassId} {ks ad : List Nat} {Psi : va_W → Prop} (hw : zworld ks ad zuq zNS Psi) (hm : zMan l D cI cZ cB cJ cR ks ad Psi) : zMet l D cI cZ cB cJ cR zKS ks ad Psi yX6_whyNotWorn (.code yX6_whyNotWorn cX6_whyNotWorn 4 (some .int)) 2 zc_1108 :=
  zmet_of hw 2 (by decide) 4000 zk_1108 (by decide) (by decide) (fun X => ⟨zg_RX6 X, zp_RX6 X, zl1_RX6 X, zl2_RX6 X, nilz, (List.forall_mem_cons.mpr ⟨zq_RX6_80 X (zM_870 hw hm) (by decide) rfl, nilz⟩)⟩)
set_option maxRecDepth 100000 in
theorem zk_1113 : zmeth zKS zuq zNS zm_1113 4000 = true := by decide +kernel
theorem zM_1113 {l : Launch} {D : va_G} {cI cZ cB cJ cR : ClassId} {ks ad : List Nat} {Psi : va_W → Prop} (hw : zworld ks ad zuq zNS Psi) (hm : zMan l D cI cZ cB cJ cR ks ad Psi) : zMet l D cI cZ cB cJ cR zKS ks ad Psi yX6_whyNotWorn (.code yX6_whyNotWorn cX6_whyNotWorn 4 (some .int)) 2 zc_1113 :=
  zmet_of hw 2 (by decide) 4000 zk_1113 (by decide) (by decide) (fun X => ⟨zg_RX6 X, zp_RX6 X, zl1_RX6 X, zl2_RX6 X, nilz, (List.forall_mem_cons.mpr ⟨zq_RX6_80 X (zM_870 hw hm) (by decide) rfl, nilz⟩)⟩)
set_option maxRecDepth 100000 in
theorem zk_225 : zmeth zKS zuq zNS zm_225 4000 = true := by decide +kernel
theorem zM_225 {l : Launch} {D : va_G} {cI cZ cB cJ cR : ClassId} {ks ad : List Nat} {Psi : va_W → Prop} (hw : zworld ks ad zuq zNS Psi) (hm : zMan l D cI cZ cB cJ cR ks ad Psi) : zMet l D cI cZ cB cJ cR zKS ks ad Psi yX0_aloneIn (.code yX0_aloneIn cX0_aloneIn 4 (some .int)) 3 zc_225 :=
  zmet_of hw 3 (by decide) 4000 zk_225 (by decide) (by decide) (fun X => ⟨zg_RX0 X, zp_RX0 X, zl1_RX0 X, zl2_RX0 X, nilz, (List.forall_mem_cons.mpr ⟨zq_RX0_98 X (zM_605 hw hm) (by decide) rfl, (List.forall_mem_cons.mpr ⟨zq_RX0_114 X (zM_236 hw hm) (by decide) rfl rfl, nilz⟩)⟩)⟩)
set_option maxRecDepth 100000 in
theorem zk_229 : zmeth zKS zuq zNS zm_229 4000 = true := by decide +kernel
theorem zM_229 {l : Launch} {D : va_G} {cI cZ cB cJ cR : ClassId} {ks ad : List Nat} {Psi : va_W → Prop} (hw : zworld ks ad zuq zNS Psi) (hm : zMan l D cI cZ cB cJ cR ks ad Psi) : zMet l D cI cZ cB cJ cR zKS ks ad Psi yX0_doers (.code yX0_doers cX0_doers 5 (some .int)) 3 zc_229 :=
  zmet_of hw 3 (by decide) 4000 zk_229 (by decide) (by decide) (fun X => ⟨zg_RX0 X, zp_RX0 X, zl1_RX0 X, zl2_RX0 X, nilz, (List.forall_mem_cons.mpr ⟨zq_RX0_98 X (zM_605 hw hm) (by decide) rfl, (List.forall_mem_cons.mpr ⟨zq_RX0_114 X (zM_236 hw hm) (by decide) rfl rfl, (List.forall_mem_cons.mpr ⟨zq_RX0_150 X (zM_255 hw hm) (by decide) rfl rfl, nilz⟩)⟩)⟩)⟩)
set_option maxRecDepth 100000 in
theorem zk_232 : zmeth zKS zuq zNS zm_232 4000 = true := by decide +kernel
theorem zM_232 {l : Launch} {D : va_G} {cI cZ cB cJ cR : ClassId} {ks ad : List Nat} {Psi : va_W → Prop} (hw : zworld ks ad zuq zNS Psi) (hm : zMan l D cI cZ cB cJ cR ks ad Psi) : zMet l D cI cZ cB cJ cR zKS ks ad Psi yX0_fineOf (.code yX0_fineOf cX0_fineOf 6 (some .int)) 3 zc_232 :=
  zmet_of hw 3 (by decide) 4000 zk_232 (by decide) (by decide) (fun X => ⟨zg_RX0 X, zp_RX0 X, zl1_RX0 X, zl2_RX0 X, nilz, (List.forall_mem_cons.mpr ⟨zq_RX0_76 X (zM_242 hw hm) (by decide) rfl rfl, (List.forall_mem_cons.mpr ⟨zq_RX0_98 X (zM_605 hw hm) (by decide) rfl, (List.forall_mem_cons.mpr ⟨zq_RX0_114 X (zM_236 hw hm) (by decide) rfl rfl, nilz⟩)⟩)⟩)⟩)
set_option maxRecDepth 100000 in
theorem zk_237 : zmeth zKS zuq zNS zm_237 4000 = true := by decide +kernel
theorem zM_237 {l : Launch} {D : va_G} {cI cZ cB cJ cR : ClassId} {ks ad : List Nat} {Psi : va_W → Prop} (hw : zworld ks ad zuq zNS Psi) (hm : zMan l D cI cZ cB cJ cR ks ad Psi) : zMet l D cI cZ cB cJ cR zKS ks ad Psi yX0_gapBitsUnder (.code yX0_gapBitsUnder cX0_gapBitsUnder 3 (some .int)) 3 zc_237 :=
  zmet_of hw 3 (by decide) 4000 zk_237 (by decide) (by decide) (fun X => ⟨zg_RX0 X, zp_RX0 X, zl1_RX0 X, zl2_RX0 X, nilz, (List.forall_mem_cons.mpr ⟨zq_RX0_114 X (zM_236 hw hm) (by decide) rfl rfl, (List.forall_mem_cons.mpr ⟨zq_RX0_117 X (zM_234 hw hm) (by decide) rfl rfl, nilz⟩)⟩)⟩)
set_option maxRecDepth 100000 in
theorem zk_238 : zmeth zKS zuq zNS zm_238 4000 = true := by decide +kernel
theorem zM_238 {l : Launch} {D : va_G} {cI cZ cB cJ cR : ClassId} {ks ad : List Nat} {Psi : va_W → Prop} (hw : zworld ks ad zuq zNS Psi) (hm : zMan l D cI cZ cB cJ cR ks ad Psi) : zMet l D cI cZ cB cJ cR zKS ks ad Psi yX0_gapsIfHome (.code yX0_gapsIfHome cX0_gapsIfHome 6 (some .int)) 3 zc_238 :=
  zmet_of hw 3 (by decide) 4000 zk_238 (by decide) (by decide) (fun X => ⟨zg_RX0 X, zp_RX0 X, zl1_RX0 X, zl2_RX0 X, nilz, (List.forall_mem_cons.mpr ⟨zq_RX0_101 X (zM_0 hw hm) (by decide) rfl, (List.forall_mem_cons.mpr ⟨zq_RX0_111 X (zM_224 hw hm) (by decide) rfl rfl, (List.forall_mem_cons.mpr ⟨zq_RX0_137 X (zM_261 hw hm) (by decide) rfl rfl, nilz⟩)⟩)⟩)⟩)
set_option maxRecDepth 100000 in
theorem zk_240 : zmeth zKS zuq zNS zm_240 4000 = true := by decide +kernel
theorem zM_240 {l : Launch} {D : va_G} {cI cZ cB cJ cR : ClassId} {ks ad : List Nat} {Psi : va_W → Prop} (hw : zworld ks ad zuq zNS Psi) (hm : zMan l D cI cZ cB cJ cR ks ad Psi) : zMet l D cI cZ cB cJ cR zKS ks ad Psi yX0_gapsOfAll (.code yX0_gapsOfAll cX0_gapsOfAll 4 (some .int)) 3 zc_240 :=
  zmet_of hw 3 (by decide) 4000 zk_240 (by decide) (by decide) (fun X => ⟨zg_RX0 X, zp_RX0 X, zl1_RX0 X, zl2_RX0 X, nilz, (List.forall_mem_cons.mpr ⟨zq_RX0_101 X (zM_0 hw hm) (by decide) rfl, (List.forall_mem_cons.mpr ⟨zq_RX0_114 X (zM_236 hw hm) (by decide) rfl rfl, nilz⟩)⟩)⟩)
set_option maxRecDepth 100000 in
theorem zk_241 : zmeth zKS zuq zNS zm_241 4000 = true := by decide +kernel
theorem zM_241 {l : Launch} {D : va_G} {cI cZ cB cJ cR : ClassId} {ks ad : List Nat} {Psi : va_W → Prop} (hw : zworld ks ad zuq zNS Psi) (hm : zMan l D cI cZ cB cJ cR ks ad Psi) : zMet l D cI cZ cB cJ cR zKS ks ad Psi yX0_hasDoer (.code yX0_hasDoer cX0_hasDoer 3 (some .boolean)) 3 zc_241 :=
  zmet_of hw 3 (by decide) 4000 zk_241 (by decide) (by decide) (fun X => ⟨zg_RX0 X, zp_RX0 X, zl1_RX0 X, zl2_RX0 X, nilz, (List.forall_mem_cons.mpr ⟨zq_RX0_114 X (zM_236 hw hm) (by decide) rfl rfl, (List.forall_mem_cons.mpr ⟨zq_RX0_150 X (zM_255 hw hm) (by decide) rfl rfl, nilz⟩)⟩)⟩)
set_option maxRecDepth 100000 in
theorem zk_251 : zmeth zKS zuq zNS zm_251 4000 = true := by decide +kernel
theorem zM_251 {l : Launch} {D : va_G} {cI cZ cB cJ cR : ClassId} {ks ad : List Nat} {Psi : va_W → Prop} (hw : zworld ks ad zuq zNS Psi) (hm : zMan l D cI cZ cB cJ cR ks ad Psi) : zMet l D cI cZ cB cJ cR zKS ks ad Psi yX0_leastGuards (.code yX0_leastGuards cX0_leastGuards 5 (some .int)) 3 zc_251 :=
  zmet_of hw 3 (by decide) 4000 zk_251 (by decide) (by decide) (fun X => ⟨zg_RX0 X, zp_RX0 X, zl1_RX0 X, zl2_RX0 X, nilz, (List.forall_mem_cons.mpr ⟨zq_RX0_98 X (zM_605 hw hm) (by decide) rfl, (List.forall_mem_cons.mpr ⟨zq_RX0_101 X (zM_0 hw hm) (by decide) rfl, (List.forall_mem_cons.mpr ⟨zq_RX0_114 X (zM_236 hw hm) (by decide) rfl rfl, (List.forall_mem_cons.mpr ⟨zq_RX0_153 X (zM_262 hw hm) (by decide) rfl rfl, nilz⟩)⟩)⟩)⟩)⟩)
set_option maxRecDepth 100000 in
theorem zk_254 : zmeth zKS zuq zNS zm_254 4000 = true := by decide +kernel
theorem zM_254 {l : Launch} {D : va_G} {cI cZ cB cJ cR : ClassId} {ks ad : List Nat} {Psi : va_W → Prop} (hw : zworld ks ad zuq zNS Psi) (hm : zMan l D cI cZ cB cJ cR ks ad Psi) : zMet l D cI cZ cB cJ cR zKS ks ad Psi yX0_moveAnew (.code yX0_moveAnew cX0_moveAnew 5 (some .int)) 3 zc_254 :=
  zmet_of hw 3 (by decide) 4000 zk_254 (by decide) (by decide) (fun X => ⟨zg_RX0 X, zp_RX0 X, zl1_RX0 X, zl2_RX0 X, nilz, (List.forall_mem_cons.mpr ⟨zq_RX0_61 X (zman_250 hm) (by decide) rfl rfl, (List.forall_mem_cons.mpr ⟨zq_RX0_65 X (zM_256 hw hm) (by decide) rfl rfl, (List.forall_mem_cons.mpr ⟨zq_RX0_69 X (zM_264 hw hm) (by decide) rfl rfl, nilz⟩)⟩)⟩)⟩)
set_option maxRecDepth 100000 in
theorem zk_266 : zmeth zKS zuq zNS zm_266 4000 = true := by decide +kernel
theorem zM_266 {l : Launch} {D : va_G} {cI cZ cB cJ cR : ClassId} {ks ad : List Nat} {Psi : va_W → Prop} (hw : zworld ks ad zuq zNS Psi) (hm : zMan l D cI cZ cB cJ cR ks ad Psi) : zMet l D cI cZ cB cJ cR zKS ks ad Psi yX0_swearAnew (.code yX0_swearAnew cX0_swearAnew 4 (some .int)) 3 zc_266 :=
  zmet_of hw 3 (by decide) 4000 zk_266 (by decide) (by decide) (fun X => ⟨zg_RX0 X, zp_RX0 X, zl1_RX0 X, zl2_RX0 X, nilz, (List.forall_mem_cons.mpr ⟨zq_RX0_61 X (zman_249 hm) (by decide) rfl rfl, nilz⟩)⟩)
set_option maxRecDepth 100000 in
theorem zk_290 : zmeth zKS zuq zNS zm_290 4000 = true := by decide +kernel
theorem zM_290 {l : Launch} {D : va_G} {cI cZ cB cJ cR : ClassId} {ks ad : List Nat} {Psi : va_W → Prop} (hw : zworld ks ad zuq zNS Psi) (hm : zMan l D cI cZ cB cJ cR ks ad Psi) : zMet l D cI cZ cB cJ cR zKS ks ad Psi yX2_goesOn (.code yX2_goesOn cX2_goesOn 3 (some .boolean)) 3 zc_290 :=
  zmet_of hw 3 (by decide) 4000 zk_290 (by decide) (by decide) (fun X => ⟨zg_RX2 X, zp_RX2 X, zl1_RX2 X, zl2_RX2 X, nilz, (List.forall_mem_cons.mpr ⟨zq_RX2_118 X (zM_277 hw hm) (by decide) rfl rfl, (List.forall_mem_cons.mpr ⟨zq_RX2_118 X (zM_278 hw hm) (by decide) rfl rfl, (List.forall_mem_cons.mpr ⟨zq_RX2_118 X (zM_279 hw hm) (by decide) rfl rfl, (List.forall_mem_cons.mpr ⟨zq_RX2_118 X (zM_280 hw hm) (by decide) rfl rfl, (List.forall_mem_cons.mpr ⟨zq_RX2_118 X (zM_281 hw hm) (by decide) rfl rfl, (List.forall_mem_cons.mpr ⟨zq_RX2_118 X (zM_282 hw hm) (by decide) rfl rfl, (List.forall_mem_cons.mpr ⟨zq_RX2_118 X (zM_283 hw hm) (by decide) rfl rfl, nilz⟩)⟩)⟩)⟩)⟩)⟩)⟩)⟩)
set_option maxRecDepth 100000 in
theorem zk_562 : zmeth zKS zuq zNS zm_562 4000 = true := by decide +kernel
theorem zM_562 {l : Launch} {D : va_G} {cI cZ cB cJ cR : ClassId} {ks ad : List Nat} {Psi : va_W → Prop} (hw : zworld ks ad zuq zNS Psi) (hm : zMan l D cI cZ cB cJ cR ks ad Psi) : zMet l D cI cZ cB cJ cR zKS ks ad Psi yX4_takeWord (.code yX4_takeWord cX4_takeWord 2 (some .boolean)) 3 zc_562 :=
  zmet_of hw 3 (by decide) 4000 zk_562 (by decide) (by decide) (fun X => ⟨zg_RX4 X, zp_RX4 X, zl1_RX4 X, zl2_RX4 X, nilz, (List.forall_mem_cons.mpr ⟨zq_RX4_33 X (zM_563 hw hm) (by decide) rfl rfl, (List.forall_mem_cons.mpr ⟨zq_RX4_58 X (zman_547 hm) (by decide) rfl rfl, (List.forall_mem_cons.mpr ⟨zq_RX4_109 X (zM_549 hw hm) (by decide) rfl rfl, nilz⟩)⟩)⟩)⟩)
set_option maxRecDepth 100000 in
theorem zk_585 : zmeth zKS zuq zNS zm_585 4000 = true := by decide +kernel
theorem zM_585 {l : Launch} {D : va_G} {cI cZ cB cJ cR : ClassId} {ks ad : List Nat} {Psi : va_W → Prop} (hw : zworld ks ad zuq zNS Psi) (hm : zMan l D cI cZ cB cJ cR ks ad Psi) : zMet l D cI cZ cB cJ cR zKS ks ad Psi yX5_dark (.code yX5_dark cX5_dark 4 (some .int)) 3 zc_585 :=
  zmet_of hw 3 (by decide) 4000 zk_585 (by decide) (by decide) (fun X => ⟨zg_RX5 X, zp_RX5 X, zl1_RX5 X, zl2_RX5 X, nilz, (List.forall_mem_cons.mpr ⟨zq_RX5_87 X (zM_245 hw hm) (by decide) rfl rfl, (List.forall_mem_cons.mpr ⟨zq_RX5_189 X (zM_269 hw hm) (by decide) rfl rfl, (List.forall_mem_cons.mpr ⟨zq_RX5_192 X (zM_257 hw hm) (by decide) rfl rfl, nilz⟩)⟩)⟩)⟩)
set_option maxRecDepth 100000 in
theorem zk_586 : zmeth zKS zuq zNS zm_586 4000 = true := by decide +kernel
theorem zM_586 {l : Launch} {D : va_G} {cI cZ cB cJ cR : ClassId} {ks ad : List Nat} {Psi : va_W → Prop} (hw : zworld ks ad zuq zNS Psi) (hm : zMan l D cI cZ cB cJ cR ks ad Psi) : zMet l D cI cZ cB cJ cR zKS ks ad Psi yX5_deeds (.code yX5_deeds cX5_deeds 3 (some .int)) 3 zc_586 :=
  zmet_of hw 3 (by decide) 4000 zk_586 (by decide) (by decide) (fun X => ⟨zg_RX5 X, zp_RX5 X, zl1_RX5 X, zl2_RX5 X, nilz, (List.forall_mem_cons.mpr ⟨zq_RX5_83 X (zM_247 hw hm) (by decide) rfl rfl, (List.forall_mem_cons.mpr ⟨zq_RX5_109 X (zM_236 hw hm) (by decide) rfl rfl, (List.forall_mem_cons.mpr ⟨zq_RX5_186 X (zM_248 hw hm) (by decide) rfl rfl, (List.forall_mem_cons.mpr ⟨zq_RX5_217 X (zM_255 hw hm) (by decide) rfl rfl, nilz⟩)⟩)⟩)⟩)⟩)
set_option maxRecDepth 100000 in
theorem zk_589 : zmeth zKS zuq zNS zm_589 4000 = true := by decide +kernel
theorem zM_589 {l : Launch} {D : va_G} {cI cZ cB cJ cR : ClassId} {ks ad : List Nat} {Psi : va_W → Prop} (hw : zworld ks ad zuq zNS Psi) (hm : zMan l D cI cZ cB cJ cR ks ad Psi) : zMet l D cI cZ cB cJ cR zKS ks ad Psi yX5_envy (.code yX5_envy cX5_envy 4 (some .int)) 3 zc_589 :=
  zmet_of hw 3 (by decide) 4000 zk_589 (by decide) (by decide) (fun X => ⟨zg_RX5 X, zp_RX5 X, zl1_RX5 X, zl2_RX5 X, nilz, (List.forall_mem_cons.mpr ⟨zq_RX5_115 X (zM_231 hw hm) (by decide) rfl rfl, (List.forall_mem_cons.mpr ⟨zq_RX5_176 X (zM_230 hw hm) (by decide) rfl rfl, nilz⟩)⟩)⟩)
set_option maxRecDepth 100000 in
theorem zk_594 : zmeth zKS zuq zNS zm_594 4000 = true := by decide +kernel
theorem zM_594 {l : Launch} {D : va_G} {cI cZ cB cJ cR : ClassId} {ks ad : List Nat} {Psi : va_W → Prop} (hw : zworld ks ad zuq zNS Psi) (hm : zMan l D cI cZ cB cJ cR ks ad Psi) : zMet l D cI cZ cB cJ cR zKS ks ad Psi yX5_extra (.code yX5_extra cX5_extra 6 (some .int)) 3 zc_594 :=
  zmet_of hw 3 (by decide) 4000 zk_594 (by decide) (by decide) (fun X => ⟨zg_RX5 X, zp_RX5 X, zl1_RX5 X, zl2_RX5 X, nilz, (List.forall_mem_cons.mpr ⟨zq_RX5_109 X (zM_236 hw hm) (by decide) rfl rfl, (List.forall_mem_cons.mpr ⟨zq_RX5_115 X (zM_231 hw hm) (by decide) rfl rfl, (List.forall_mem_cons.mpr ⟨zq_RX5_149 X (zM_0 hw hm) (by decide) rfl, (List.forall_mem_cons.mpr ⟨zq_RX5_201 X (zM_260 hw hm) (by decide) rfl rfl, nilz⟩)⟩)⟩)⟩)⟩)
set_option maxRecDepth 100000 in
theorem zk_601 : zmeth zKS zuq zNS zm_601 4000 = true := by decide +kernel
theorem zM_601 {l : Launch} {D : va_G} {cI cZ cB cJ cR : ClassId} {ks ad : List Nat} {Psi : va_W → Prop} (hw : zworld ks ad zuq zNS Psi) (hm : zMan l D cI cZ cB cJ cR ks ad Psi) : zMet l D cI cZ cB cJ cR zKS ks ad Psi yX5_gaps (.code yX5_gaps cX5_gaps 2 (some .int)) 3 zc_601 :=
  zmet_of hw 3 (by decide) 4000 zk_601 (by decide) (by decide) (fun X => ⟨zg_RX5 X, zp_RX5 X, zl1_RX5 X, zl2_RX5 X, nilz, (List.forall_mem_cons.mpr ⟨zq_RX5_83 X (zM_247 hw hm) (by decide) rfl rfl, (List.forall_mem_cons.mpr ⟨zq_RX5_109 X (zM_236 hw hm) (by decide) rfl rfl, nilz⟩)⟩)⟩)
set_option maxRecDepth 100000 in
theorem zk_602 : zmeth zKS zuq zNS zm_602 4000 = true := by decide +kernel
theorem zM_602 {l : Launch} {D : va_G} {cI cZ cB cJ cR : ClassId} {ks ad : List Nat} {Psi : va_W → Prop} (hw : zworld ks ad zuq zNS Psi) (hm : zMan l D cI cZ cB cJ cR ks ad Psi) : zMet l D cI cZ cB cJ cR zKS ks ad Psi yX5_guard (.code yX5_guard cX5_guard 6 (some .int)) 3 zc_602 :=
  zmet_of hw 3 (by decide) 4000 zk_602 (by decide) (by decide) (fun X => ⟨zg_RX5 X, zp_RX5 X, zl1_RX5 X, zl2_RX5 X, nilz, (List.forall_mem_cons.mpr ⟨zq_RX5_83 X (zM_247 hw hm) (by decide) rfl rfl, (List.forall_mem_cons.mpr ⟨zq_RX5_109 X (zM_236 hw hm) (by decide) rfl rfl, (List.forall_mem_cons.mpr ⟨zq_RX5_186 X (zM_248 hw hm) (by decide) rfl rfl, (List.forall_mem_cons.mpr ⟨zq_RX5_201 X (zM_260 hw hm) (by decide) rfl rfl, (List.forall_mem_cons.mpr ⟨zq_RX5_217 X (zM_255 hw hm) (by decide) rfl rfl, nilz⟩)⟩)⟩)⟩)⟩)⟩)
set_option maxRecDepth 100000 in
theorem zk_607 : zmeth zKS zuq zNS zm_607 4000 = true := by decide +kernel
theorem zM_607 {l : Launch} {D : va_G} {cI cZ cB cJ cR : ClassId} {ks ad : List Nat} {Psi : va_W → Prop} (hw : zworld ks ad zuq zNS Psi) (hm : zMan l D cI cZ cB cJ cR ks ad Psi) : zMet l D cI cZ cB cJ cR zKS ks ad Psi yX5_image (.code yX5_image cX5_image 2 (some .int)) 3 zc_607 :=
  zmet_of hw 3 (by decide) 4000 zk_607 (by decide) (by decide) (fun X => ⟨zg_RX5 X, zp_RX5 X, zl1_RX5 X, zl2_RX5 X, nilz, (List.forall_mem_cons.mpr ⟨zq_RX5_317 X (zman_228 hm) (by decide) rfl rfl, nilz⟩)⟩)
set_option maxRecDepth 100000 in
theorem zk_690 : zmeth zKS zuq zNS zm_690 4000 = true := by decide +kernel
theorem zM_690 {l : Launch} {D : va_G} {cI cZ cB cJ cR : ClassId} {ks ad : List Nat} {Psi : va_W → Prop} (hw : zworld ks ad zuq zNS Psi) (hm : zMan l D cI cZ cB cJ cR ks ad Psi) : zMet l D cI cZ cB cJ cR zKS ks ad Psi yX5_leftAtWorst (.code yX5_leftAtWorst cX5_leftAtWorst 6 (some .int)) 3 zc_690 :=
  zmet_of hw 3 (by decide) 4000 zk_690 (by decide) (by decide) (fun X => ⟨zg_RX5 X, zp_RX5 X, zl1_RX5 X, zl2_RX5 X, nilz, (List.forall_mem_cons.mpr ⟨zq_RX5_98 X (zM_244 hw hm) (by decide) rfl rfl, (List.forall_mem_cons.mpr ⟨zq_max X (by decide) lm_26_1 lm_13_10 lm_11_7 lm_13_11 (by decide) (by decide), (List.forall_mem_cons.mpr ⟨zq_RX5_149 X (zM_0 hw hm) (by decide) rfl, nilz⟩)⟩)⟩)⟩)
set_option maxRecDepth 100000 in
theorem zk_693 : zmeth zKS zuq zNS zm_693 4000 = true := by decide +kernel
theorem zM_693 {l : Launch} {D : va_G} {cI cZ cB cJ cR : ClassId} {ks ad : List Nat} {Psi : va_W → Prop} (hw : zworld ks ad zuq zNS Psi) (hm : zMan l D cI cZ cB cJ cR ks ad Psi) : zMet l D cI cZ cB cJ cR zKS ks ad Psi yX5_likely (.code yX5_likely cX5_likely 8 (some .int)) 3 zc_693 :=
  zmet_of hw 3 (by decide) 4000 zk_693 (by decide) (by decide) (fun X => ⟨zg_RX5 X, zp_RX5 X, zl1_RX5 X, zl2_RX5 X, nilz, (List.forall_mem_cons.mpr ⟨zq_RX5_83 X (zM_247 hw hm) (by decide) rfl rfl, (List.forall_mem_cons.mpr ⟨zq_RX5_109 X (zM_236 hw hm) (by decide) rfl rfl, (List.forall_mem_cons.mpr ⟨zq_RX5_125 X (zM_242 hw hm) (by decide) rfl rfl, (List.forall_mem_cons.mpr ⟨zq_RX5_273 X (zM_234 hw hm) (by decide) rfl rfl, (List.forall_mem_cons.mpr ⟨zq_RX5_276 X (zM_600 hw hm) (by decide) rfl rfl, nilz⟩)⟩)⟩)⟩)⟩)⟩)
set_option maxRecDepth 100000 in
theorem zk_694 : zmeth zKS zuq zNS zm_694 4000 = true := by decide +kernel
theorem zM_694 {l : Launch} {D : va_G} {cI cZ cB cJ cR : ClassId} {ks ad : List Nat} {Psi : va_W → Prop} (hw : zworld ks ad zuq zNS Psi) (hm : zMan l D cI cZ cB cJ cR ks ad Psi) : zMet l D cI cZ cB cJ cR zKS ks ad Psi yX5_longest (.code yX5_longest cX5_longest 6 (some .int)) 3 zc_694 :=
  zmet_of hw 3 (by decide) 4000 zk_694 (by decide) (by decide) (fun X => ⟨zg_RX5 X, zp_RX5 X, zl1_RX5 X, zl2_RX5 X, nilz, (List.forall_mem_cons.mpr ⟨zq_RX5_83 X (zM_247 hw hm) (by decide) rfl rfl, (List.forall_mem_cons.mpr ⟨zq_RX5_109 X (zM_236 hw hm) (by decide) rfl rfl, (List.forall_mem_cons.mpr ⟨zq_RX5_125 X (zM_242 hw hm) (by decide) rfl rfl, (List.forall_mem_cons.mpr ⟨zq_RX5_128 X (zM_605 hw hm) (by decide) rfl, (List.forall_mem_cons.mpr ⟨zq_max X (by decide) lm_26_1 lm_13_10 lm_11_7 lm_13_11 (by decide) (by decide), (List.forall_mem_cons.mpr ⟨zq_max X (by decide) lm_26_1 lm_13_10 lm_11_7 lm_13_11 (by decide) (by decide), nilz⟩)⟩)⟩)⟩)⟩)⟩)⟩)
set_option maxRecDepth 100000 in
theorem zk_695 : zmeth zKS zuq zNS zm_695 4000 = true := by decide +kernel
theorem zM_695 {l : Launch} {D : va_G} {cI cZ cB cJ cR : ClassId} {ks ad : List Nat} {Psi : va_W → Prop} (hw : zworld ks ad zuq zNS Psi) (hm : zMan l D cI cZ cB cJ cR ks ad Psi) : zMet l D cI cZ cB cJ cR zKS ks ad Psi yX5_lookAnew (.code yX5_lookAnew cX5_lookAnew 1 none) 3 zc_695 :=
  zmet_of hw 3 (by decide) 4000 zk_695 (by decide) (by decide) (fun X => ⟨zg_RX5 X, zp_RX5 X, zl1_RX5 X, zl2_RX5 X, nilz, (List.forall_mem_cons.mpr ⟨zq_RX5_345 X (zM_252 hw hm) (by decide) rfl rfl, nilz⟩)⟩)
set_option maxRecDepth 100000 in
theorem zk_731 : zmeth zKS zuq zNS zm_731 4000 = true := by decide +kernel
theorem zM_731 {l : Launch} {D : va_G} {cI cZ cB cJ cR : ClassId} {ks ad : List Nat} {Psi : va_W → Prop} (hw : zworld ks ad zuq zNS Psi) (hm : zMan l D cI cZ cB cJ cR ks ad Psi) : zMet l D cI cZ cB cJ cR zKS ks ad Psi yX5_ring (.code yX5_ring cX5_ring 2 (some .int)) 3 zc_731 :=
  zmet_of hw 3 (by decide) 4000 zk_731 (by decide) (by decide) (fun X => ⟨zg_RX5 X, zp_RX5 X, zl1_RX5 X, zl2_RX5 X, nilz, (List.forall_mem_cons.mpr ⟨zq_RX5_83 X (zM_247 hw hm) (by decide) rfl rfl, (List.forall_mem_cons.mpr ⟨zq_RX5_143 X (zM_259 hw hm) (by decide) rfl rfl, nilz⟩)⟩)⟩)
set_option maxRecDepth 100000 in
theorem zk_732 : zmeth zKS zuq zNS zm_732 4000 = true := by decide +kernel
theorem zM_732 {l : Launch} {D : va_G} {cI cZ cB cJ cR : ClassId} {ks ad : List Nat} {Psi : va_W → Prop} (hw : zworld ks ad zuq zNS Psi) (hm : zMan l D cI cZ cB cJ cR ks ad Psi) : zMet l D cI cZ cB cJ cR zKS ks ad Psi yX5_rings (.code yX5_rings cX5_rings 4 (some .int)) 3 zc_732 :=
  zmet_of hw 3 (by decide) 4000 zk_732 (by decide) (by decide) (fun X => ⟨zg_RX5 X, zp_RX5 X, zl1_RX5 X, zl2_RX5 X, nilz, (List.forall_mem_cons.mpr ⟨zq_RX5_115 X (zM_231 hw hm) (by decide) rfl rfl, (List.forall_mem_cons.mpr ⟨zq_RX5_143 X (zM_259 hw hm) (by decide) rfl rfl, nilz⟩)⟩)⟩)
set_option maxRecDepth 100000 in
theorem zk_737 : zmeth zKS zuq zNS zm_737 4000 = true := by decide +kernel
theorem zM_737 {l : Launch} {D : va_G} {cI cZ cB cJ cR : ClassId} {ks ad : List Nat} {Psi : va_W → Prop} (hw : zworld ks ad zuq zNS Psi) (hm : zMan l D cI cZ cB cJ cR ks ad Psi) : zMet l D cI cZ cB cJ cR zKS ks ad Psi yX5_sight (.code yX5_sight cX5_sight 3 (some .int)) 3 zc_737 :=
  zmet_of hw 3 (by decide) 4000 zk_737 (by decide) (by decide) (fun X => ⟨zg_RX5 X, zp_RX5 X, zl1_RX5 X, zl2_RX5 X, nilz, (List.forall_mem_cons.mpr ⟨zq_RX5_83 X (zM_247 hw hm) (by decide) rfl rfl, (List.forall_mem_cons.mpr ⟨zq_RX5_87 X (zM_245 hw hm) (by decide) rfl rfl, (List.forall_mem_cons.mpr ⟨zq_RX5_98 X (zM_244 hw hm) (by decide) rfl rfl, nilz⟩)⟩)⟩)⟩)
set_option maxRecDepth 100000 in
theorem zk_738 : zmeth zKS zuq zNS zm_738 4000 = true := by decide +kernel
theorem zM_738 {l : Launch} {D : va_G} {cI cZ cB cJ cR : ClassId} {ks ad : List Nat} {Psi : va_W → Prop} (hw : zworld ks ad zuq zNS Psi) (hm : zMan l D cI cZ cB cJ cR ks ad Psi) : zMet l D cI cZ cB cJ cR zKS ks ad Psi yX5_steps (.code yX5_steps cX5_steps 3 (some .int)) 3 zc_738 :=
  zmet_of hw 3 (by decide) 4000 zk_738 (by decide) (by decide) (fun X => ⟨zg_RX5 X, zp_RX5 X, zl1_RX5 X, zl2_RX5 X, nilz, (List.forall_mem_cons.mpr ⟨zq_RX5_179 X (zM_246 hw hm) (by decide) rfl rfl, (List.forall_mem_cons.mpr ⟨zq_RX5_204 X (zM_275 hw hm) (by decide) rfl rfl, (List.forall_mem_cons.mpr ⟨zq_RX5_214 X (zM_270 hw hm) (by decide) rfl rfl, nilz⟩)⟩)⟩)⟩)
set_option maxRecDepth 100000 in
theorem zk_749 : zmeth zKS zuq zNS zm_749 4000 = true := by decide +kernel
theorem zM_749 {l : Launch} {D : va_G} {cI cZ cB cJ cR : ClassId} {ks ad : List Nat} {Psi : va_W → Prop} (hw : zworld ks ad zuq zNS Psi) (hm : zMan l D cI cZ cB cJ cR ks ad Psi) : zMet l D cI cZ cB cJ cR zKS ks ad Psi yX5_tied (.code yX5_tied cX5_tied 3 (some .int)) 3 zc_749 :=
  zmet_of hw 3 (by decide) 4000 zk_749 (by decide) (by decide) (fun X => ⟨zg_RX5 X, zp_RX5 X, zl1_RX5 X, zl2_RX5 X, nilz, (List.forall_mem_cons.mpr ⟨zq_RX5_179 X (zM_246 hw hm) (by decide) rfl rfl, (List.forall_mem_cons.mpr ⟨zq_RX5_204 X (zM_275 hw hm) (by decide) rfl rfl, (List.forall_mem_cons.mpr ⟨zq_RX5_208 X (zM_274 hw hm) (by decide) rfl rfl, nilz⟩)⟩)⟩)⟩)
set_option maxRecDepth 100000 in
theorem zk_750 : zmeth zKS zuq zNS zm_750 4000 = true := by decide +kernel
theorem zM_750 {l : Launch} {D : va_G} {cI cZ cB cJ cR : ClassId} {ks ad : List Nat} {Psi : va_W → Prop} (hw : zworld ks ad zuq zNS Psi) (hm : zMan l D cI cZ cB cJ cR ks ad Psi) : zMet l D cI cZ cB cJ cR zKS ks ad Psi yX5_ties (.code yX5_ties cX5_ties 4 (some .int)) 3 zc_750 :=
  zmet_of hw 3 (by decide) 4000 zk_750 (by decide) (by decide) (fun X => ⟨zg_RX5 X, zp_RX5 X, zl1_RX5 X, zl2_RX5 X, nilz, (List.forall_mem_cons.mpr ⟨zq_RX5_87 X (zM_245 hw hm) (by decide) rfl rfl, (List.forall_mem_cons.mpr ⟨zq_RX5_179 X (zM_246 hw hm) (by decide) rfl rfl, (List.forall_mem_cons.mpr ⟨zq_RX5_204 X (zM_275 hw hm) (by decide) rfl rfl, (List.forall_mem_cons.mpr ⟨zq_RX5_211 X (zM_271 hw hm) (by decide) rfl rfl, nilz⟩)⟩)⟩)⟩)⟩)
set_option maxRecDepth 100000 in
theorem zk_756 : zmeth zKS zuq zNS zm_756 4000 = true := by decide +kernel
theorem zM_756 {l : Launch} {D : va_G} {cI cZ cB cJ cR : ClassId} {ks ad : List Nat} {Psi : va_W → Prop} (hw : zworld ks ad zuq zNS Psi) (hm : zMan l D cI cZ cB cJ cR ks ad Psi) : zMet l D cI cZ cB cJ cR zKS ks ad Psi yX5_witness (.code yX5_witness cX5_witness 3 (some .int)) 3 zc_756 :=
  zmet_of hw 3 (by decide) 4000 zk_756 (by decide) (by decide) (fun X => ⟨zg_RX5 X, zp_RX5 X, zl1_RX5 X, zl2_RX5 X, nilz, (List.forall_mem_cons.mpr ⟨zq_RX5_87 X (zM_245 hw hm) (by decide) rfl rfl, (List.forall_mem_cons.mpr ⟨zq_RX5_186 X (zM_248 hw hm) (by decide) rfl rfl, (List.forall_mem_cons.mpr ⟨zq_RX5_189 X (zM_269 hw hm) (by decide) rfl rfl, nilz⟩)⟩)⟩)⟩)
set_option maxRecDepth 100000 in
theorem zk_769 : zmeth zKS zuq zNS zm_769 4000 = true := by decide +kernel
theorem zM_769 {l : Launch} {D : va_G} {cI cZ cB cJ cR : ClassId} {ks ad : List Nat} {Psi : va_W → Prop} (hw : zworld ks ad zuq zNS Psi) (hm : zMan l D cI cZ cB cJ cR ks ad Psi) : zMet l D cI cZ cB cJ cR zKS ks ad Psi yX6_asks (.code yX6_asks cX6_asks 3 none) 3 zc_769 :=
  zmet_of hw 3 (by decide) 4000 zk_769 (by decide) (by decide) (fun X => ⟨zg_RX6 X, zp_RX6 X, zl1_RX6 X, zl2_RX6 X, nilz, (List.forall_mem_cons.mpr ⟨zq_RX6_136 X (zM_1061 hw hm) (by decide) rfl rfl, (List.forall_mem_cons.mpr ⟨zq_RX6_139 X (zM_811 hw hm) (by decide) rfl rfl, nilz⟩)⟩)⟩)
set_option maxRecDepth 100000 in
theorem zk_787 : zmeth zKS zuq zNS zm_787 4000 = true := by decide +kernel
theorem zM_787 {l : Launch} {D : va_G} {cI cZ cB cJ cR : ClassId} {ks ad : List Nat} {Psi : va_W → Prop} (hw : zworld ks ad zuq zNS Psi) (hm : zMan l D cI cZ cB cJ cR ks ad Psi) : zMet l D cI cZ cB cJ cR zKS ks ad Psi yX6_copyCity (.code yX6_copyCity cX6_copyCity 3 none) 3 zc_787 :=
  zmet_of hw 3 (by decide) 4000 zk_787 (by decide) (by decide) (fun X => ⟨zg_RX6 X, zp_RX6 X, zl1_RX6 X, zl2_RX6 X, nilz, (List.forall_mem_cons.mpr ⟨zq_RX6_223 X (zman_788 hm) (by decide) rfl, (List.forall_mem_cons.mpr ⟨zq_RX6_223 X (zman_790 hm) (by decide) rfl, (List.forall_mem_cons.mpr ⟨zq_RX6_223 X (zman_792 hm) (by decide) rfl, (List.forall_mem_cons.mpr ⟨zq_RX6_223 X (zman_794 hm) (by decide) rfl, (List.forall_mem_cons.mpr ⟨zq_RX6_223 X (zman_796 hm) (by decide) rfl, nilz⟩)⟩)⟩)⟩)⟩)⟩)
