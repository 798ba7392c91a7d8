set_option maxRecDepth 100000 in
theorem zk_1184 : zmeth zKS zuq zNS zm_1184 4000 = true := zqF (zdt_X6_whyNotWorn) (by decide +kernel)
theorem zM_1184 {l : Launch} {D : va_G} {cI cZ cB cJ cR : ClassId} {ks ad : List Nat} {Psi : va_W → Prop} (hw : zworld ks ad zuq zNS Psi) (hm : zMan l D cI cZ cB cJ cR ks ad Psi) : zMet l D cI cZ cB cJ cR zKS ks ad Psi yX6_whyNotWorn (.code yX6_whyNotWorn cX6_whyNotWorn 4 (some .int)) 2 zc_1184 :=
  zmet_of hw 2 (by decide) 4000 zk_1184 (by decide) (by decide) (fun X => ⟨zg_RX6 X, zp_RX6 X, zl1_RX6 X, zl2_RX6 X, nilz, (List.forall_mem_cons.mpr ⟨zq_RX6_80 X (zM_935 hw hm) (by decide) rfl, nilz⟩)⟩)
set_option maxRecDepth 100000 in
theorem zk_1186 : zmeth zKS zuq zNS zm_1186 4000 = true := zqF (zdt0 _) (by decide +kernel)
theorem zM_1186 {l : Launch} {D : va_G} {cI cZ cB cJ cR : ClassId} {ks ad : List Nat} {Psi : va_W → Prop} (hw : zworld ks ad zuq zNS Psi) (hm : zMan l D cI cZ cB cJ cR ks ad Psi) : zMet l D cI cZ cB cJ cR zKS ks ad Psi yX6_witnessOf (.code yX6_witnessOf cX6_witnessOf 5 (some .int)) 2 zc_1186 :=
  zmet_of hw 2 (by decide) 4000 zk_1186 (by decide) (by decide) (fun X => ⟨zg_RX6 X, zp_RX6 X, zl1_RX6 X, zl2_RX6 X, nilz, (List.forall_mem_cons.mpr ⟨zq_RX6_227 X (zM_1061 hw hm) (by decide) rfl rfl, (List.forall_mem_cons.mpr ⟨zq_RX6_244 X (zM_1063 hw hm) (by decide) rfl rfl, (List.forall_mem_cons.mpr ⟨zq_RX6_247 X (zM_1117 hw hm) (by decide) rfl rfl, nilz⟩)⟩)⟩)⟩)
set_option maxRecDepth 100000 in
theorem zk_1190 : zmeth zKS zuq zNS zm_1190 4000 = true := zqF (zdt0 _) (by decide +kernel)
theorem zM_1190 {l : Launch} {D : va_G} {cI cZ cB cJ cR : ClassId} {ks ad : List Nat} {Psi : va_W → Prop} (hw : zworld ks ad zuq zNS Psi) (hm : zMan l D cI cZ cB cJ cR ks ad Psi) : zMet l D cI cZ cB cJ cR zKS ks ad Psi yX6_write (.code yX6_write cX6_write 5 (some .int)) 2 zc_1190 :=
  zmet_of hw 2 (by decide) 4000 zk_1190 (by decide) (by decide) (fun X => ⟨zg_RX6 X, zp_RX6 X, zl1_RX6 X, zl2_RX6 X, nilz, (List.forall_mem_cons.mpr ⟨zq_RX6_76 X (zM_900 hw hm) (by decide) rfl, (List.forall_mem_cons.mpr ⟨zq_RX6_80 X (zM_935 hw hm) (by decide) rfl, (List.forall_mem_cons.mpr ⟨zq_RX6_84 X (zM_865 hw hm) (by decide) rfl, nilz⟩)⟩)⟩)⟩)
set_option maxRecDepth 100000 in
theorem zk_281 : zmeth zKS zuq zNS zm_281 4000 = true := zqF (zdt0 _) (by decide +kernel)
theorem zM_281 {l : Launch} {D : va_G} {cI cZ cB cJ cR : ClassId} {ks ad : List Nat} {Psi : va_W → Prop} (hw : zworld ks ad zuq zNS Psi) (hm : zMan l D cI cZ cB cJ cR ks ad Psi) : zMet l D cI cZ cB cJ cR zKS ks ad Psi yX0_aloneIn (.code yX0_aloneIn cX0_aloneIn 4 (some .int)) 3 zc_281 :=
  zmet_of hw 3 (by decide) 4000 zk_281 (by decide) (by decide) (fun X => ⟨zg_RX0 X, zp_RX0 X, zl1_RX0 X, zl2_RX0 X, nilz, (List.forall_mem_cons.mpr ⟨zq_RX0_98 X (zM_670 hw hm) (by decide) rfl, (List.forall_mem_cons.mpr ⟨zq_RX0_114 X (zM_292 hw hm) (by decide) rfl rfl, nilz⟩)⟩)⟩)
set_option maxRecDepth 100000 in
theorem zk_285 : zmeth zKS zuq zNS zm_285 4000 = true := zqF (zdt0 _) (by decide +kernel)
theorem zM_285 {l : Launch} {D : va_G} {cI cZ cB cJ cR : ClassId} {ks ad : List Nat} {Psi : va_W → Prop} (hw : zworld ks ad zuq zNS Psi) (hm : zMan l D cI cZ cB cJ cR ks ad Psi) : zMet l D cI cZ cB cJ cR zKS ks ad Psi yX0_doers (.code yX0_doers cX0_doers 5 (some .int)) 3 zc_285 :=
  zmet_of hw 3 (by decide) 4000 zk_285 (by decide) (by decide) (fun X => ⟨zg_RX0 X, zp_RX0 X, zl1_RX0 X, zl2_RX0 X, nilz, (List.forall_mem_cons.mpr ⟨zq_RX0_98 X (zM_670 hw hm) (by decide) rfl, (List.forall_mem_cons.mpr ⟨zq_RX0_114 X (zM_292 hw hm) (by decide) rfl rfl, (List.forall_mem_cons.mpr ⟨zq_RX0_150 X (zM_311 hw hm) (by decide) rfl rfl, nilz⟩)⟩)⟩)⟩)
set_option maxRecDepth 100000 in
theorem zk_288 : zmeth zKS zuq zNS zm_288 4000 = true := zqF (zdt0 _) (by decide +kernel)
theorem zM_288 {l : Launch} {D : va_G} {cI cZ cB cJ cR : ClassId} {ks ad : List Nat} {Psi : va_W → Prop} (hw : zworld ks ad zuq zNS Psi) (hm : zMan l D cI cZ cB cJ cR ks ad Psi) : zMet l D cI cZ cB cJ cR zKS ks ad Psi yX0_fineOf (.code yX0_fineOf cX0_fineOf 6 (some .int)) 3 zc_288 :=
  zmet_of hw 3 (by decide) 4000 zk_288 (by decide) (by decide) (fun X => ⟨zg_RX0 X, zp_RX0 X, zl1_RX0 X, zl2_RX0 X, nilz, (List.forall_mem_cons.mpr ⟨zq_RX0_76 X (zM_298 hw hm) (by decide) rfl rfl, (List.forall_mem_cons.mpr ⟨zq_RX0_98 X (zM_670 hw hm) (by decide) rfl, (List.forall_mem_cons.mpr ⟨zq_RX0_114 X (zM_292 hw hm) (by decide) rfl rfl, nilz⟩)⟩)⟩)⟩)
set_option maxRecDepth 100000 in
theorem zk_293 : zmeth zKS zuq zNS zm_293 4000 = true := zqF (zdt0 _) (by decide +kernel)
theorem zM_293 {l : Launch} {D : va_G} {cI cZ cB cJ cR : ClassId} {ks ad : List Nat} {Psi : va_W → Prop} (hw : zworld ks ad zuq zNS Psi) (hm : zMan l D cI cZ cB cJ cR ks ad Psi) : zMet l D cI cZ cB cJ cR zKS ks ad Psi yX0_gapBitsUnder (.code yX0_gapBitsUnder cX0_gapBitsUnder 3 (some .int)) 3 zc_293 :=
  zmet_of hw 3 (by decide) 4000 zk_293 (by decide) (by decide) (fun X => ⟨zg_RX0 X, zp_RX0 X, zl1_RX0 X, zl2_RX0 X, nilz, (List.forall_mem_cons.mpr ⟨zq_RX0_114 X (zM_292 hw hm) (by decide) rfl rfl, (List.forall_mem_cons.mpr ⟨zq_RX0_117 X (zM_290 hw hm) (by decide) rfl rfl, nilz⟩)⟩)⟩)
set_option maxRecDepth 100000 in
theorem zk_294 : zmeth zKS zuq zNS zm_294 4000 = true := zqF (zdt0 _) (by decide +kernel)
theorem zM_294 {l : Launch} {D : va_G} {cI cZ cB cJ cR : ClassId} {ks ad : List Nat} {Psi : va_W → Prop} (hw : zworld ks ad zuq zNS Psi) (hm : zMan l D cI cZ cB cJ cR ks ad Psi) : zMet l D cI cZ cB cJ cR zKS ks ad Psi yX0_gapsIfHome (.code yX0_gapsIfHome cX0_gapsIfHome 6 (some .int)) 3 zc_294 :=
  zmet_of hw 3 (by decide) 4000 zk_294 (by decide) (by decide) (fun X => ⟨zg_RX0 X, zp_RX0 X, zl1_RX0 X, zl2_RX0 X, nilz, (List.forall_mem_cons.mpr ⟨zq_RX0_101 X (zM_0 hw hm) (by decide) rfl, (List.forall_mem_cons.mpr ⟨zq_RX0_111 X (zM_280 hw hm) (by decide) rfl rfl, (List.forall_mem_cons.mpr ⟨zq_RX0_137 X (zM_317 hw hm) (by decide) rfl rfl, nilz⟩)⟩)⟩)⟩)
set_option maxRecDepth 100000 in
theorem zk_296 : zmeth zKS zuq zNS zm_296 4000 = true := zqF (zdt0 _) (by decide +kernel)
theorem zM_296 {l : Launch} {D : va_G} {cI cZ cB cJ cR : ClassId} {ks ad : List Nat} {Psi : va_W → Prop} (hw : zworld ks ad zuq zNS Psi) (hm : zMan l D cI cZ cB cJ cR ks ad Psi) : zMet l D cI cZ cB cJ cR zKS ks ad Psi yX0_gapsOfAll (.code yX0_gapsOfAll cX0_gapsOfAll 4 (some .int)) 3 zc_296 :=
  zmet_of hw 3 (by decide) 4000 zk_296 (by decide) (by decide) (fun X => ⟨zg_RX0 X, zp_RX0 X, zl1_RX0 X, zl2_RX0 X, nilz, (List.forall_mem_cons.mpr ⟨zq_RX0_101 X (zM_0 hw hm) (by decide) rfl, (List.forall_mem_cons.mpr ⟨zq_RX0_114 X (zM_292 hw hm) (by decide) rfl rfl, nilz⟩)⟩)⟩)
set_option maxRecDepth 100000 in
theorem zk_297 : zmeth zKS zuq zNS zm_297 4000 = true := zqF (zdt0 _) (by decide +kernel)
theorem zM_297 {l : Launch} {D : va_G} {cI cZ cB cJ cR : ClassId} {ks ad : List Nat} {Psi : va_W → Prop} (hw : zworld ks ad zuq zNS Psi) (hm : zMan l D cI cZ cB cJ cR ks ad Psi) : zMet l D cI cZ cB cJ cR zKS ks ad Psi yX0_hasDoer (.code yX0_hasDoer cX0_hasDoer 3 (some .boolean)) 3 zc_297 :=
  zmet_of hw 3 (by decide) 4000 zk_297 (by decide) (by decide) (fun X => ⟨zg_RX0 X, zp_RX0 X, zl1_RX0 X, zl2_RX0 X, nilz, (List.forall_mem_cons.mpr ⟨zq_RX0_114 X (zM_292 hw hm) (by decide) rfl rfl, (List.forall_mem_cons.mpr ⟨zq_RX0_150 X (zM_311 hw hm) (by decide) rfl rfl, nilz⟩)⟩)⟩)
set_option maxRecDepth 100000 in
theorem zk_307 : zmeth zKS zuq zNS zm_307 4000 = true := zqF (zdt0 _) (by decide +kernel)
theorem zM_307 {l : Launch} {D : va_G} {cI cZ cB cJ cR : ClassId} {ks ad : List Nat} {Psi : va_W → Prop} (hw : zworld ks ad zuq zNS Psi) (hm : zMan l D cI cZ cB cJ cR ks ad Psi) : zMet l D cI cZ cB cJ cR zKS ks ad Psi yX0_leastGuards (.code yX0_leastGuards cX0_leastGuards 5 (some .int)) 3 zc_307 :=
  zmet_of hw 3 (by decide) 4000 zk_307 (by decide) (by decide) (fun X => ⟨zg_RX0 X, zp_RX0 X, zl1_RX0 X, zl2_RX0 X, nilz, (List.forall_mem_cons.mpr ⟨zq_RX0_98 X (zM_670 hw hm) (by decide) rfl, (List.forall_mem_cons.mpr ⟨zq_RX0_101 X (zM_0 hw hm) (by decide) rfl, (List.forall_mem_cons.mpr ⟨zq_RX0_114 X (zM_292 hw hm) (by decide) rfl rfl, (List.forall_mem_cons.mpr ⟨zq_RX0_153 X (zM_318 hw hm) (by decide) rfl rfl, nilz⟩)⟩)⟩)⟩)⟩)
set_option maxRecDepth 100000 in
theorem zk_310 : zmeth zKS zuq zNS zm_310 4000 = true := zqF (zdt0 _) (by decide +kernel)
theorem zM_310 {l : Launch} {D : va_G} {cI cZ cB cJ cR : ClassId} {ks ad : List Nat} {Psi : va_W → Prop} (hw : zworld ks ad zuq zNS Psi) (hm : zMan l D cI cZ cB cJ cR ks ad Psi) : zMet l D cI cZ cB cJ cR zKS ks ad Psi yX0_moveAnew (.code yX0_moveAnew cX0_moveAnew 5 (some .int)) 3 zc_310 :=
  zmet_of hw 3 (by decide) 4000 zk_310 (by decide) (by decide) (fun X => ⟨zg_RX0 X, zp_RX0 X, zl1_RX0 X, zl2_RX0 X, nilz, (List.forall_mem_cons.mpr ⟨zq_RX0_61 X (zman_306 hm) (by decide) rfl rfl, (List.forall_mem_cons.mpr ⟨zq_RX0_65 X (zM_312 hw hm) (by decide) rfl rfl, (List.forall_mem_cons.mpr ⟨zq_RX0_69 X (zM_320 hw hm) (by decide) rfl rfl, nilz⟩)⟩)⟩)⟩)
set_option maxRecDepth 100000 in
theorem zk_323 : zmeth zKS zuq zNS zm_323 4000 = true := zqF (zdt0 _) (by decide +kernel)
theorem zM_323 {l : Launch} {D : va_G} {cI cZ cB cJ cR : ClassId} {ks ad : List Nat} {Psi : va_W → Prop} (hw : zworld ks ad zuq zNS Psi) (hm : zMan l D cI cZ cB cJ cR ks ad Psi) : zMet l D cI cZ cB cJ cR zKS ks ad Psi yX0_swearAnew (.code yX0_swearAnew cX0_swearAnew 4 (some .int)) 3 zc_323 :=
  zmet_of hw 3 (by decide) 4000 zk_323 (by decide) (by decide) (fun X => ⟨zg_RX0 X, zp_RX0 X, zl1_RX0 X, zl2_RX0 X, nilz, (List.forall_mem_cons.mpr ⟨zq_RX0_61 X (zman_305 hm) (by decide) rfl rfl, nilz⟩)⟩)
set_option maxRecDepth 100000 in
theorem zk_347 : zmeth zKS zuq zNS zm_347 4000 = true := zqF (zdt0 _) (by decide +kernel)
theorem zM_347 {l : Launch} {D : va_G} {cI cZ cB cJ cR : ClassId} {ks ad : List Nat} {Psi : va_W → Prop} (hw : zworld ks ad zuq zNS Psi) (hm : zMan l D cI cZ cB cJ cR ks ad Psi) : zMet l D cI cZ cB cJ cR zKS ks ad Psi yX2_goesOn (.code yX2_goesOn cX2_goesOn 3 (some .boolean)) 3 zc_347 :=
  zmet_of hw 3 (by decide) 4000 zk_347 (by decide) (by decide) (fun X => ⟨zg_RX2 X, zp_RX2 X, zl1_RX2 X, zl2_RX2 X, nilz, (List.forall_mem_cons.mpr ⟨zq_RX2_118 X (zM_334 hw hm) (by decide) rfl rfl, (List.forall_mem_cons.mpr ⟨zq_RX2_118 X (zM_335 hw hm) (by decide) rfl rfl, (List.forall_mem_cons.mpr ⟨zq_RX2_118 X (zM_336 hw hm) (by decide) rfl rfl, (List.forall_mem_cons.mpr ⟨zq_RX2_118 X (zM_337 hw hm) (by decide) rfl rfl, (List.forall_mem_cons.mpr ⟨zq_RX2_118 X (zM_338 hw hm) (by decide) rfl rfl, (List.forall_mem_cons.mpr ⟨zq_RX2_118 X (zM_339 hw hm) (by decide) rfl rfl, (List.forall_mem_cons.mpr ⟨zq_RX2_118 X (zM_340 hw hm) (by decide) rfl rfl, nilz⟩)⟩)⟩)⟩)⟩)⟩)⟩)⟩)
set_option maxRecDepth 100000 in
theorem zk_643 : zmeth zKS zuq zNS zm_643 4000 = true := zqF (zdt0 _) (by decide +kernel)
theorem zM_643 {l : Launch} {D : va_G} {cI cZ cB cJ cR : ClassId} {ks ad : List Nat} {Psi : va_W → Prop} (hw : zworld ks ad zuq zNS Psi) (hm : zMan l D cI cZ cB cJ cR ks ad Psi) : zMet l D cI cZ cB cJ cR zKS ks ad Psi yX5_chance (.code yX5_chance cX5_chance 11 (some .long)) 3 zc_643 :=
  zmet_of hw 3 (by decide) 4000 zk_643 (by decide) (by decide) (fun X => ⟨zg_RX5 X, zp_RX5 X, zl1_RX5 X, zl2_RX5 X, nilz, (List.forall_mem_cons.mpr ⟨zq_RX5_83 X (zM_303 hw hm) (by decide) rfl rfl, (List.forall_mem_cons.mpr ⟨zq_RX5_109 X (zM_292 hw hm) (by decide) rfl rfl, (List.forall_mem_cons.mpr ⟨zq_RX5_125 X (zM_298 hw hm) (by decide) rfl rfl, (List.forall_mem_cons.mpr ⟨zq_RX5_273 X (zM_290 hw hm) (by decide) rfl rfl, (List.forall_mem_cons.mpr ⟨zq_RX5_276 X (zM_665 hw hm) (by decide) rfl rfl, (List.forall_mem_cons.mpr ⟨zq_RX5_282 X (zM_647 hw hm) (by decide) rfl, nilz⟩)⟩)⟩)⟩)⟩)⟩)⟩)
