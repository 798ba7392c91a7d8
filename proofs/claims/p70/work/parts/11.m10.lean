set_option maxRecDepth 100000 in
theorem zk_936 : zmeth zKS zuq zNS zm_936 4000 = true := zqF (zdt0 _) (by decide +kernel)
theorem zM_936 {l : Launch} {D : va_G} {cI cZ cB cJ cR : ClassId} {ks ad : List Nat} {Psi : va_W → Prop} (hw : zworld ks ad zuq zNS Psi) (hm : zMan l D cI cZ cB cJ cR ks ad Psi) : zMet l D cI cZ cB cJ cR zKS ks ad Psi yX6_isSeed (.code yX6_isSeed cX6_isSeed 2 (some .boolean)) 1 zc_936 :=
  zmet_of hw 1 (by decide) 4000 zk_936 (by decide) (by decide) (fun X => ⟨zg_RX6 X, zp_RX6 X, zl1_RX6 X, zl2_RX6 X, nilz, (List.forall_mem_cons.mpr ⟨zq_RX6_76 X (zM_909 hw hm) (by decide) rfl, (List.forall_mem_cons.mpr ⟨zq_RX6_276 X (zM_927 hw hm) (by decide) rfl rfl, nilz⟩)⟩)⟩)
set_option maxRecDepth 100000 in
theorem zk_939 : zmeth zKS zuq zNS zm_939 4000 = true := zqF (zdt_X6_isSlot) (by decide +kernel)
theorem zM_939 {l : Launch} {D : va_G} {cI cZ cB cJ cR : ClassId} {ks ad : List Nat} {Psi : va_W → Prop} (hw : zworld ks ad zuq zNS Psi) (hm : zMan l D cI cZ cB cJ cR ks ad Psi) : zMet l D cI cZ cB cJ cR zKS ks ad Psi yX6_isSlot (.code yX6_isSlot cX6_isSlot 1 (some .boolean)) 1 zc_939 :=
  zmet_of hw 1 (by decide) 4000 zk_939 (by decide) (by decide) (fun X => ⟨zg_RX6 X, zp_RX6 X, zl1_RX6 X, zl2_RX6 X, nilz, (List.forall_mem_cons.mpr ⟨zq_RX6_76 X (zM_910 hw hm) (by decide) rfl, nilz⟩)⟩)
set_option maxRecDepth 100000 in
theorem zk_1042 : zmeth zKS zuq zNS zm_1042 4000 = true := zqF (zdt0 _) (by decide +kernel)
theorem zM_1042 {l : Launch} {D : va_G} {cI cZ cB cJ cR : ClassId} {ks ad : List Nat} {Psi : va_W → Prop} (hw : zworld ks ad zuq zNS Psi) (hm : zMan l D cI cZ cB cJ cR ks ad Psi) : zMet l D cI cZ cB cJ cR zKS ks ad Psi yX6_next (.code yX6_next cX6_next 2 none) 1 zc_1042 :=
  zmet_of hw 1 (by decide) 4000 zk_1042 (by decide) (by decide) (fun X => ⟨zg_RX6 X, zp_RX6 X, zl1_RX6 X, zl2_RX6 X, nilz, (List.forall_mem_cons.mpr ⟨zq_RX6_98 X (zM_926 hw hm) (by decide) rfl rfl, nilz⟩)⟩)
set_option maxRecDepth 100000 in
theorem zk_1121 : zmeth zKS zuq zNS zm_1121 4000 = true := zqF (zdt0 _) (by decide +kernel)
theorem zM_1121 {l : Launch} {D : va_G} {cI cZ cB cJ cR : ClassId} {ks ad : List Nat} {Psi : va_W → Prop} (hw : zworld ks ad zuq zNS Psi) (hm : zMan l D cI cZ cB cJ cR ks ad Psi) : zMet l D cI cZ cB cJ cR zKS ks ad Psi yX6_seesTo (.code yX6_seesTo cX6_seesTo 4 (some .boolean)) 1 zc_1121 :=
  zmet_of hw 1 (by decide) 4000 zk_1121 (by decide) (by decide) (fun X => ⟨zg_RX6 X, zp_RX6 X, zl1_RX6 X, zl2_RX6 X, nilz, (List.forall_mem_cons.mpr ⟨zq_RX6_237 X (zM_882 hw hm) (by decide) rfl, (List.forall_mem_cons.mpr ⟨zq_RX6_240 X (zM_925 hw hm) (by decide) rfl, nilz⟩)⟩)⟩)
set_option maxRecDepth 100000 in
theorem zk_1129 : zmeth zKS zuq zNS zm_1129 4000 = true := zqF (zdt0 _) (by decide +kernel)
theorem zM_1129 {l : Launch} {D : va_G} {cI cZ cB cJ cR : ClassId} {ks ad : List Nat} {Psi : va_W → Prop} (hw : zworld ks ad zuq zNS Psi) (hm : zMan l D cI cZ cB cJ cR ks ad Psi) : zMet l D cI cZ cB cJ cR zKS ks ad Psi yX6_swornTo (.code yX6_swornTo cX6_swornTo 4 (some .int)) 1 zc_1129 :=
  zmet_of hw 1 (by decide) 4000 zk_1129 (by decide) (by decide) (fun X => ⟨zg_RX6 X, zp_RX6 X, zl1_RX6 X, zl2_RX6 X, nilz, (List.forall_mem_cons.mpr ⟨zq_RX6_227 X (zM_1065 hw hm) (by decide) rfl rfl, nilz⟩)⟩)
set_option maxRecDepth 100000 in
theorem zk_1131 : zmeth zKS zuq zNS zm_1131 4000 = true := zqF (zdt0 _) (by decide +kernel)
theorem zM_1131 {l : Launch} {D : va_G} {cI cZ cB cJ cR : ClassId} {ks ad : List Nat} {Psi : va_W → Prop} (hw : zworld ks ad zuq zNS Psi) (hm : zMan l D cI cZ cB cJ cR ks ad Psi) : zMet l D cI cZ cB cJ cR zKS ks ad Psi yX6_tell (.code yX6_tell cX6_tell 4 (some .int)) 1 zc_1131 :=
  zmet_of hw 1 (by decide) 4000 zk_1131 (by decide) (by decide) (fun X => ⟨zg_RX6 X, zp_RX6 X, zl1_RX6 X, zl2_RX6 X, nilz, (List.forall_mem_cons.mpr ⟨zq_RX6_76 X (zM_910 hw hm) (by decide) rfl, (List.forall_mem_cons.mpr ⟨zq_RX6_76 X (zM_913 hw hm) (by decide) rfl, (List.forall_mem_cons.mpr ⟨zq_RX6_76 X (zM_914 hw hm) (by decide) rfl, (List.forall_mem_cons.mpr ⟨zq_RX6_76 X (zM_919 hw hm) (by decide) rfl, (List.forall_mem_cons.mpr ⟨zq_RX6_276 X (zM_927 hw hm) (by decide) rfl rfl, nilz⟩)⟩)⟩)⟩)⟩)⟩)
set_option maxRecDepth 100000 in
theorem zk_1163 : zmeth zKS zuq zNS zm_1163 4000 = true := zqF (zdt0 _) (by decide +kernel)
theorem zM_1163 {l : Launch} {D : va_G} {cI cZ cB cJ cR : ClassId} {ks ad : List Nat} {Psi : va_W → Prop} (hw : zworld ks ad zuq zNS Psi) (hm : zMan l D cI cZ cB cJ cR ks ad Psi) : zMet l D cI cZ cB cJ cR zKS ks ad Psi yX6_undo (.code yX6_undo cX6_undo 1 (some .int)) 1 zc_1163 :=
  zmet_of hw 1 (by decide) 4000 zk_1163 (by decide) (by decide) (fun X => ⟨zg_RX6 X, zp_RX6 X, zl1_RX6 X, zl2_RX6 X, nilz, (List.forall_mem_cons.mpr ⟨zq_RX6_276 X (zM_927 hw hm) (by decide) rfl rfl, nilz⟩)⟩)
set_option maxRecDepth 100000 in
theorem zk_286 : zmeth zKS zuq zNS zm_286 4000 = true := zqF (zdt0 _) (by decide +kernel)
theorem zM_286 {l : Launch} {D : va_G} {cI cZ cB cJ cR : ClassId} {ks ad : List Nat} {Psi : va_W → Prop} (hw : zworld ks ad zuq zNS Psi) (hm : zMan l D cI cZ cB cJ cR ks ad Psi) : zMet l D cI cZ cB cJ cR zKS ks ad Psi yX0_envies (.code yX0_envies cX0_envies 5 (some .boolean)) 2 zc_286 :=
  zmet_of hw 2 (by decide) 4000 zk_286 (by decide) (by decide) (fun X => ⟨zg_RX0 X, zp_RX0 X, zl1_RX0 X, zl2_RX0 X, nilz, (List.forall_mem_cons.mpr ⟨zq_RX0_144 X (zM_299 hw hm) (by decide) rfl rfl, nilz⟩)⟩)
set_option maxRecDepth 100000 in
theorem zk_290 : zmeth zKS zuq zNS zm_290 4000 = true := zqF (zdt0 _) (by decide +kernel)
theorem zM_290 {l : Launch} {D : va_G} {cI cZ cB cJ cR : ClassId} {ks ad : List Nat} {Psi : va_W → Prop} (hw : zworld ks ad zuq zNS Psi) (hm : zMan l D cI cZ cB cJ cR ks ad Psi) : zMet l D cI cZ cB cJ cR zKS ks ad Psi yX0_fogGapBits (.code yX0_fogGapBits cX0_fogGapBits 5 (some .int)) 2 zc_290 :=
  zmet_of hw 2 (by decide) 4000 zk_290 (by decide) (by decide) (fun X => ⟨zg_RX0 X, zp_RX0 X, zl1_RX0 X, zl2_RX0 X, nilz, (List.forall_mem_cons.mpr ⟨zq_RX0_65 X (zM_312 hw hm) (by decide) rfl rfl, (List.forall_mem_cons.mpr ⟨zq_RX0_76 X (zM_298 hw hm) (by decide) rfl rfl, (List.forall_mem_cons.mpr ⟨zq_RX0_111 X (zM_280 hw hm) (by decide) rfl rfl, nilz⟩)⟩)⟩)⟩)
set_option maxRecDepth 100000 in
theorem zk_292 : zmeth zKS zuq zNS zm_292 4000 = true := zqF (zdt0 _) (by decide +kernel)
theorem zM_292 {l : Launch} {D : va_G} {cI cZ cB cJ cR : ClassId} {ks ad : List Nat} {Psi : va_W → Prop} (hw : zworld ks ad zuq zNS Psi) (hm : zMan l D cI cZ cB cJ cR ks ad Psi) : zMet l D cI cZ cB cJ cR zKS ks ad Psi yX0_gapBits (.code yX0_gapBits cX0_gapBits 4 (some .int)) 2 zc_292 :=
  zmet_of hw 2 (by decide) 4000 zk_292 (by decide) (by decide) (fun X => ⟨zg_RX0 X, zp_RX0 X, zl1_RX0 X, zl2_RX0 X, nilz, (List.forall_mem_cons.mpr ⟨zq_RX0_95 X (zM_316 hw hm) (by decide) rfl rfl, (List.forall_mem_cons.mpr ⟨zq_RX0_111 X (zM_280 hw hm) (by decide) rfl rfl, nilz⟩)⟩)⟩)
set_option maxRecDepth 100000 in
theorem zk_300 : zmeth zKS zuq zNS zm_300 4000 = true := zqF (zdt0 _) (by decide +kernel)
theorem zM_300 {l : Launch} {D : va_G} {cI cZ cB cJ cR : ClassId} {ks ad : List Nat} {Psi : va_W → Prop} (hw : zworld ks ad zuq zNS Psi) (hm : zMan l D cI cZ cB cJ cR ks ad Psi) : zMet l D cI cZ cB cJ cR zKS ks ad Psi yX0_inSight (.code yX0_inSight cX0_inSight 5 (some .int)) 2 zc_300 :=
  zmet_of hw 2 (by decide) 4000 zk_300 (by decide) (by decide) (fun X => ⟨zg_RX0 X, zp_RX0 X, zl1_RX0 X, zl2_RX0 X, nilz, (List.forall_mem_cons.mpr ⟨zq_RX0_107 X (zM_319 hw hm) (by decide) rfl rfl, nilz⟩)⟩)
set_option maxRecDepth 100000 in
theorem zk_308 : zmeth zKS zuq zNS zm_308 4000 = true := zqF (zdt0 _) (by decide +kernel)
theorem zM_308 {l : Launch} {D : va_G} {cI cZ cB cJ cR : ClassId} {ks ad : List Nat} {Psi : va_W → Prop} (hw : zworld ks ad zuq zNS Psi) (hm : zMan l D cI cZ cB cJ cR ks ad Psi) : zMet l D cI cZ cB cJ cR zKS ks ad Psi yX0_look (.code yX0_look cX0_look 5 none) 2 zc_308 :=
  zmet_of hw 2 (by decide) 4000 zk_308 (by decide) (by decide) (fun X => ⟨zg_RX0 X, zp_RX0 X, zl1_RX0 X, zl2_RX0 X, nilz, (List.forall_mem_cons.mpr ⟨zq_RX0_65 X (zM_312 hw hm) (by decide) rfl rfl, (List.forall_mem_cons.mpr ⟨zq_RX0_76 X (zM_298 hw hm) (by decide) rfl rfl, (List.forall_mem_cons.mpr ⟨zq_RX0_91 X (zM_314 hw hm) (by decide) rfl rfl, nilz⟩)⟩)⟩)⟩)
set_option maxRecDepth 100000 in
theorem zk_315 : zmeth zKS zuq zNS zm_315 4000 = true := zqF (zdt0 _) (by decide +kernel)
theorem zM_315 {l : Launch} {D : va_G} {cI cZ cB cJ cR : ClassId} {ks ad : List Nat} {Psi : va_W → Prop} (hw : zworld ks ad zuq zNS Psi) (hm : zMan l D cI cZ cB cJ cR ks ad Psi) : zMet l D cI cZ cB cJ cR zKS ks ad Psi yX0_ringOf (.code yX0_ringOf cX0_ringOf 4 (some .int)) 2 zc_315 :=
  zmet_of hw 2 (by decide) 4000 zk_315 (by decide) (by decide) (fun X => ⟨zg_RX0 X, zp_RX0 X, zl1_RX0 X, zl2_RX0 X, nilz, (List.forall_mem_cons.mpr ⟨zq_RX0_72 X (zM_303 hw hm) (by decide) rfl rfl, (List.forall_mem_cons.mpr ⟨zq_RX0_141 X (zM_282 hw hm) (by decide) rfl rfl, nilz⟩)⟩)⟩)
set_option maxRecDepth 100000 in
theorem zk_317 : zmeth zKS zuq zNS zm_317 4000 = true := zqF (zdt0 _) (by decide +kernel)
theorem zM_317 {l : Launch} {D : va_G} {cI cZ cB cJ cR : ClassId} {ks ad : List Nat} {Psi : va_W → Prop} (hw : zworld ks ad zuq zNS Psi) (hm : zMan l D cI cZ cB cJ cR ks ad Psi) : zMet l D cI cZ cB cJ cR zKS ks ad Psi yX0_seenBitsIfHome (.code yX0_seenBitsIfHome cX0_seenBitsIfHome 7 (some .int)) 2 zc_317 :=
  zmet_of hw 2 (by decide) 4000 zk_317 (by decide) (by decide) (fun X => ⟨zg_RX0 X, zp_RX0 X, zl1_RX0 X, zl2_RX0 X, nilz, (List.forall_mem_cons.mpr ⟨zq_RX0_65 X (zM_312 hw hm) (by decide) rfl rfl, (List.forall_mem_cons.mpr ⟨zq_RX0_76 X (zM_298 hw hm) (by decide) rfl rfl, (List.forall_mem_cons.mpr ⟨zq_RX0_91 X (zM_314 hw hm) (by decide) rfl rfl, (List.forall_mem_cons.mpr ⟨zq_RX0_95 X (zM_316 hw hm) (by decide) rfl rfl, nilz⟩)⟩)⟩)⟩)⟩)
set_option maxRecDepth 100000 in
theorem zk_326 : zmeth zKS zuq zNS zm_326 4000 = true := zqF (zdt0 _) (by decide +kernel)
theorem zM_326 {l : Launch} {D : va_G} {cI cZ cB cJ cR : ClassId} {ks ad : List Nat} {Psi : va_W → Prop} (hw : zworld ks ad zuq zNS Psi) (hm : zMan l D cI cZ cB cJ cR ks ad Psi) : zMet l D cI cZ cB cJ cR zKS ks ad Psi yX0_watchers (.code yX0_watchers cX0_watchers 5 (some .int)) 2 zc_326 :=
  zmet_of hw 2 (by decide) 4000 zk_326 (by decide) (by decide) (fun X => ⟨zg_RX0 X, zp_RX0 X, zl1_RX0 X, zl2_RX0 X, nilz, (List.forall_mem_cons.mpr ⟨zq_RX0_65 X (zM_312 hw hm) (by decide) rfl rfl, (List.forall_mem_cons.mpr ⟨zq_RX0_91 X (zM_314 hw hm) (by decide) rfl rfl, nilz⟩)⟩)⟩)
set_option maxRecDepth 100000 in
theorem zk_327 : zmeth zKS zuq zNS zm_327 4000 = true := zqF (zdt0 _) (by decide +kernel)
theorem zM_327 {l : Launch} {D : va_G} {cI cZ cB cJ cR : ClassId} {ks ad : List Nat} {Psi : va_W → Prop} (hw : zworld ks ad zuq zNS Psi) (hm : zMan l D cI cZ cB cJ cR ks ad Psi) : zMet l D cI cZ cB cJ cR zKS ks ad Psi yX1_fewestSteps (.code yX1_fewestSteps cX1_fewestSteps 4 (some .int)) 2 zc_327 :=
  zmet_of hw 2 (by decide) 4000 zk_327 (by decide) (by decide) (fun X => ⟨zg_RX1 X, zp_RX1 X, zl1_RX1 X, zl2_RX1 X, nilz, (List.forall_mem_cons.mpr ⟨zq_RX1_76 X (zM_331 hw hm) (by decide) rfl rfl, nilz⟩)⟩)
set_option maxRecDepth 100000 in
theorem zk_328 : zmeth zKS zuq zNS zm_328 4000 = true := zqF (zdt0 _) (by decide +kernel)
theorem zM_328 {l : Launch} {D : va_G} {cI cZ cB cJ cR : ClassId} {ks ad : List Nat} {Psi : va_W → Prop} (hw : zworld ks ad zuq zNS Psi) (hm : zMan l D cI cZ cB cJ cR ks ad Psi) : zMet l D cI cZ cB cJ cR zKS ks ad Psi yX1_firstDayAt (.code yX1_firstDayAt cX1_firstDayAt 5 (some .int)) 2 zc_328 :=
  zmet_of hw 2 (by decide) 4000 zk_328 (by decide) (by decide) (fun X => ⟨zg_RX1 X, zp_RX1 X, zl1_RX1 X, zl2_RX1 X, nilz, (List.forall_mem_cons.mpr ⟨zq_RX1_76 X (zM_331 hw hm) (by decide) rfl rfl, (List.forall_mem_cons.mpr ⟨zq_RX1_79 X (zM_329 hw hm) (by decide) rfl rfl, nilz⟩)⟩)⟩)
set_option maxRecDepth 100000 in
theorem zk_332 : zmeth zKS zuq zNS zm_332 4000 = true := zqF (zdt0 _) (by decide +kernel)
theorem zM_332 {l : Launch} {D : va_G} {cI cZ cB cJ cR : ClassId} {ks ad : List Nat} {Psi : va_W → Prop} (hw : zworld ks ad zuq zNS Psi) (hm : zMan l D cI cZ cB cJ cR ks ad Psi) : zMet l D cI cZ cB cJ cR zKS ks ad Psi yX1_plan (.code yX1_plan cX1_plan 7 none) 2 zc_332 :=
  zmet_of hw 2 (by decide) 4000 zk_332 (by decide) (by decide) (fun X => ⟨zg_RX1 X, zp_RX1 X, zl1_RX1 X, zl2_RX1 X, nilz, (List.forall_mem_cons.mpr ⟨zq_RX1_25 X (zM_298 hw hm) (by decide) rfl rfl, (List.forall_mem_cons.mpr ⟨zq_RX1_34 X (zM_313 hw hm) (by decide) rfl rfl, (List.forall_mem_cons.mpr ⟨zq_RX1_48 X (zM_674 hw hm) (by decide) rfl, (List.forall_mem_cons.mpr ⟨zq_RX1_52 X (zM_312 hw hm) (by decide) rfl rfl, (List.forall_mem_cons.mpr ⟨zq_RX1_56 X (zM_314 hw hm) (by decide) rfl rfl, (List.forall_mem_cons.mpr ⟨zq_RX1_59 X (zM_333 hw hm) (by decide) rfl rfl, nilz⟩)⟩)⟩)⟩)⟩)⟩)⟩)
set_option maxRecDepth 100000 in
theorem zk_334 : zmeth zKS zuq zNS zm_334 4000 = true := zqF (zdt_X2_advances) (by decide +kernel)
theorem zM_334 {l : Launch} {D : va_G} {cI cZ cB cJ cR : ClassId} {ks ad : List Nat} {Psi : va_W → Prop} (hw : zworld ks ad zuq zNS Psi) (hm : zMan l D cI cZ cB cJ cR ks ad Psi) : zMet l D cI cZ cB cJ cR zKS ks ad Psi yX2_advances (.code yX2_advances cX2_advances 4 (some .boolean)) 2 zc_334 :=
  zmet_of hw 2 (by decide) 4000 zk_334 (by decide) (by decide) (fun X => ⟨zg_RX2 X, zp_RX2 X, zl1_RX2 X, zl2_RX2 X, nilz, (List.forall_mem_cons.mpr ⟨zq_RX2_122 X (zM_346 hw hm) (by decide) rfl rfl, nilz⟩)⟩)
set_option maxRecDepth 100000 in
theorem zk_335 : zmeth zKS zuq zNS zm_335 4000 = true := zqF (zdt_X2_advances) (by decide +kernel)
theorem zM_335 {l : Launch} {D : va_G} {cI cZ cB cJ cR : ClassId} {ks ad : List Nat} {Psi : va_W → Prop} (hw : zworld ks ad zuq zNS Psi) (hm : zMan l D cI cZ cB cJ cR ks ad Psi) : zMet l D cI cZ cB cJ cR zKS ks ad Psi yX2_advances (.code yX2_advances cX2_advances 4 (some .boolean)) 2 zc_335 :=
  zmet_of hw 2 (by decide) 4000 zk_335 (by decide) (by decide) (fun X => ⟨zg_RX2 X, zp_RX2 X, zl1_RX2 X, zl2_RX2 X, nilz, (List.forall_mem_cons.mpr ⟨zq_RX2_122 X (zM_346 hw hm) (by decide) rfl rfl, nilz⟩)⟩)
set_option maxRecDepth 100000 in
theorem zk_336 : zmeth zKS zuq zNS zm_336 4000 = true := zqF (zdt_X2_advances) (by decide +kernel)
theorem zM_336 {l : Launch} {D : va_G} {cI cZ cB cJ cR : ClassId} {ks ad : List Nat} {Psi : va_W → Prop} (hw : zworld ks ad zuq zNS Psi) (hm : zMan l D cI cZ cB cJ cR ks ad Psi) : zMet l D cI cZ cB cJ cR zKS ks ad Psi yX2_advances (.code yX2_advances cX2_advances 4 (some .boolean)) 2 zc_336 :=
  zmet_of hw 2 (by decide) 4000 zk_336 (by decide) (by decide) (fun X => ⟨zg_RX2 X, zp_RX2 X, zl1_RX2 X, zl2_RX2 X, nilz, (List.forall_mem_cons.mpr ⟨zq_RX2_122 X (zM_346 hw hm) (by decide) rfl rfl, nilz⟩)⟩)
set_option maxRecDepth 100000 in
theorem zk_337 : zmeth zKS zuq zNS zm_337 4000 = true := zqF (zdt_X2_advances) (by decide +kernel)
theorem zM_337 {l : Launch} {D : va_G} {cI cZ cB cJ cR : ClassId} {ks ad : List Nat} {Psi : va_W → Prop} (hw : zworld ks ad zuq zNS Psi) (hm : zMan l D cI cZ cB cJ cR ks ad Psi) : zMet l D cI cZ cB cJ cR zKS ks ad Psi yX2_advances (.code yX2_advances cX2_advances 4 (some .boolean)) 2 zc_337 :=
  zmet_of hw 2 (by decide) 4000 zk_337 (by decide) (by decide) (fun X => ⟨zg_RX2 X, zp_RX2 X, zl1_RX2 X, zl2_RX2 X, nilz, (List.forall_mem_cons.mpr ⟨zq_RX2_122 X (zM_346 hw hm) (by decide) rfl rfl, nilz⟩)⟩)
set_option maxRecDepth 100000 in
theorem zk_338 : zmeth zKS zuq zNS zm_338 4000 = true := zqF (zdt_X2_advances) (by decide +kernel)
theorem zM_338 {l : Launch} {D : va_G} {cI cZ cB cJ cR : ClassId} {ks ad : List Nat} {Psi : va_W → Prop} (hw : zworld ks ad zuq zNS Psi) (hm : zMan l D cI cZ cB cJ cR ks ad Psi) : zMet l D cI cZ cB cJ cR zKS ks ad Psi yX2_advances (.code yX2_advances cX2_advances 4 (some .boolean)) 2 zc_338 :=
  zmet_of hw 2 (by decide) 4000 zk_338 (by decide) (by decide) (fun X => ⟨zg_RX2 X, zp_RX2 X, zl1_RX2 X, zl2_RX2 X, nilz, (List.forall_mem_cons.mpr ⟨zq_RX2_122 X (zM_346 hw hm) (by decide) rfl rfl, nilz⟩)⟩)
set_option maxRecDepth 100000 in
theorem zk_339 : zmeth zKS zuq zNS zm_339 4000 = true := zqF (zdt_X2_advances) (by decide +kernel)
theorem zM_339 {l : Launch} {D : va_G} {cI cZ cB cJ cR : ClassId} {ks ad : List Nat} {Psi : va_W → Prop} (hw : zworld ks ad zuq zNS Psi) (hm : zMan l D cI cZ cB cJ cR ks ad Psi) : zMet l D cI cZ cB cJ cR zKS ks ad Psi yX2_advances (.code yX2_advances cX2_advances 4 (some .boolean)) 2 zc_339 :=
  zmet_of hw 2 (by decide) 4000 zk_339 (by decide) (by decide) (fun X => ⟨zg_RX2 X, zp_RX2 X, zl1_RX2 X, zl2_RX2 X, nilz, (List.forall_mem_cons.mpr ⟨zq_RX2_122 X (zM_346 hw hm) (by decide) rfl rfl, nilz⟩)⟩)
set_option maxRecDepth 100000 in
theorem zk_340 : zmeth zKS zuq zNS zm_340 4000 = true := zqF (zdt_X2_advances) (by decide +kernel)
theorem zM_340 {l : Launch} {D : va_G} {cI cZ cB cJ cR : ClassId} {ks ad : List Nat} {Psi : va_W → Prop} (hw : zworld ks ad zuq zNS Psi) (hm : zMan l D cI cZ cB cJ cR ks ad Psi) : zMet l D cI cZ cB cJ cR zKS ks ad Psi yX2_advances (.code yX2_advances cX2_advances 4 (some .boolean)) 2 zc_340 :=
  zmet_of hw 2 (by decide) 4000 zk_340 (by decide) (by decide) (fun X => ⟨zg_RX2 X, zp_RX2 X, zl1_RX2 X, zl2_RX2 X, nilz, (List.forall_mem_cons.mpr ⟨zq_RX2_122 X (zM_346 hw hm) (by decide) rfl rfl, nilz⟩)⟩)
set_option maxRecDepth 100000 in
theorem zk_342 : zmeth zKS zuq zNS zm_342 4000 = true := zqF (zdt0 _) (by decide +kernel)
theorem zM_342 {l : Launch} {D : va_G} {cI cZ cB cJ cR : ClassId} {ks ad : List Nat} {Psi : va_W → Prop} (hw : zworld ks ad zuq zNS Psi) (hm : zMan l D cI cZ cB cJ cR ks ad Psi) : zMet l D cI cZ cB cJ cR zKS ks ad Psi yX2_countMissed (.code yX2_countMissed cX2_countMissed 4 none) 2 zc_342 :=
  zmet_of hw 2 (by decide) 4000 zk_342 (by decide) (by decide) (fun X => ⟨zg_RX2 X, zp_RX2 X, zl1_RX2 X, zl2_RX2 X, nilz, (List.forall_mem_cons.mpr ⟨zq_RX2_74 X (zM_298 hw hm) (by decide) rfl rfl, (List.forall_mem_cons.mpr ⟨zq_RX2_80 X (zM_299 hw hm) (by decide) rfl rfl, nilz⟩)⟩)⟩)
set_option maxRecDepth 100000 in
theorem zk_617 : zmeth zKS zuq zNS zm_617 4000 = true := zqF (zdt_X4_takeNumber) (by decide +kernel)
theorem zM_617 {l : Launch} {D : va_G} {cI cZ cB cJ cR : ClassId} {ks ad : List Nat} {Psi : va_W → Prop} (hw : zworld ks ad zuq zNS Psi) (hm : zMan l D cI cZ cB cJ cR ks ad Psi) : zMet l D cI cZ cB cJ cR zKS ks ad Psi yX4_takeNumber (.code yX4_takeNumber cX4_takeNumber 4 (some .boolean)) 2 zc_617 :=
  zmet_of hw 2 (by decide) 4000 zk_617 (by decide) (by decide) (fun X => ⟨zg_RX4 X, zp_RX4 X, zl1_RX4 X, zl2_RX4 X, nilz, (List.forall_mem_cons.mpr ⟨zq_RX4_33 X (zM_632 hw hm) (by decide) rfl rfl, (List.forall_mem_cons.mpr ⟨zq_RX4_109 X (zM_611 hw hm) (by decide) rfl rfl, (List.forall_mem_cons.mpr ⟨zq_RX4_144 X (zM_612 hw hm) (by decide) rfl rfl, nilz⟩)⟩)⟩)⟩)
set_option maxRecDepth 100000 in
theorem zk_618 : zmeth zKS zuq zNS zm_618 4000 = true := zqF (zdt_X4_takeNumber) (by decide +kernel)
theorem zM_618 {l : Launch} {D : va_G} {cI cZ cB cJ cR : ClassId} {ks ad : List Nat} {Psi : va_W → Prop} (hw : zworld ks ad zuq zNS Psi) (hm : zMan l D cI cZ cB cJ cR ks ad Psi) : zMet l D cI cZ cB cJ cR zKS ks ad Psi yX4_takeNumber (.code yX4_takeNumber cX4_takeNumber 4 (some .boolean)) 2 zc_618 :=
  zmet_of hw 2 (by decide) 4000 zk_618 (by decide) (by decide) (fun X => ⟨zg_RX4 X, zp_RX4 X, zl1_RX4 X, zl2_RX4 X, nilz, (List.forall_mem_cons.mpr ⟨zq_RX4_33 X (zM_632 hw hm) (by decide) rfl rfl, (List.forall_mem_cons.mpr ⟨zq_RX4_109 X (zM_611 hw hm) (by decide) rfl rfl, (List.forall_mem_cons.mpr ⟨zq_RX4_144 X (zM_612 hw hm) (by decide) rfl rfl, nilz⟩)⟩)⟩)⟩)
set_option maxRecDepth 100000 in
theorem zk_619 : zmeth zKS zuq zNS zm_619 4000 = true := zqF (zdt_X4_takeNumber) (by decide +kernel)
theorem zM_619 {l : Launch} {D : va_G} {cI cZ cB cJ cR : ClassId} {ks ad : List Nat} {Psi : va_W → Prop} (hw : zworld ks ad zuq zNS Psi) (hm : zMan l D cI cZ cB cJ cR ks ad Psi) : zMet l D cI cZ cB cJ cR zKS ks ad Psi yX4_takeNumber (.code yX4_takeNumber cX4_takeNumber 4 (some .boolean)) 2 zc_619 :=
  zmet_of hw 2 (by decide) 4000 zk_619 (by decide) (by decide) (fun X => ⟨zg_RX4 X, zp_RX4 X, zl1_RX4 X, zl2_RX4 X, nilz, (List.forall_mem_cons.mpr ⟨zq_RX4_33 X (zM_632 hw hm) (by decide) rfl rfl, (List.forall_mem_cons.mpr ⟨zq_RX4_109 X (zM_611 hw hm) (by decide) rfl rfl, (List.forall_mem_cons.mpr ⟨zq_RX4_144 X (zM_612 hw hm) (by decide) rfl rfl, nilz⟩)⟩)⟩)⟩)
set_option maxRecDepth 100000 in
theorem zk_620 : zmeth zKS zuq zNS zm_620 4000 = true := zqF (zdt_X4_takeNumber) (by decide +kernel)
theorem zM_620 {l : Launch} {D : va_G} {cI cZ cB cJ cR : ClassId} {ks ad : List Nat} {Psi : va_W → Prop} (hw : zworld ks ad zuq zNS Psi) (hm : zMan l D cI cZ cB cJ cR ks ad Psi) : zMet l D cI cZ cB cJ cR zKS ks ad Psi yX4_takeNumber (.code yX4_takeNumber cX4_takeNumber 4 (some .boolean)) 2 zc_620 :=
  zmet_of hw 2 (by decide) 4000 zk_620 (by decide) (by decide) (fun X => ⟨zg_RX4 X, zp_RX4 X, zl1_RX4 X, zl2_RX4 X, nilz, (List.forall_mem_cons.mpr ⟨zq_RX4_33 X (zM_632 hw hm) (by decide) rfl rfl, (List.forall_mem_cons.mpr ⟨zq_RX4_109 X (zM_611 hw hm) (by decide) rfl rfl, (List.forall_mem_cons.mpr ⟨zq_RX4_144 X (zM_612 hw hm) (by decide) rfl rfl, nilz⟩)⟩)⟩)⟩)
set_option maxRecDepth 100000 in
theorem zk_621 : zmeth zKS zuq zNS zm_621 4000 = true := zqF (zdt_X4_takeNumber) (by decide +kernel)
theorem zM_621 {l : Launch} {D : va_G} {cI cZ cB cJ cR : ClassId} {ks ad : List Nat} {Psi : va_W → Prop} (hw : zworld ks ad zuq zNS Psi) (hm : zMan l D cI cZ cB cJ cR ks ad Psi) : zMet l D cI cZ cB cJ cR zKS ks ad Psi yX4_takeNumber (.code yX4_takeNumber cX4_takeNumber 4 (some .boolean)) 2 zc_621 :=
  zmet_of hw 2 (by decide) 4000 zk_621 (by decide) (by decide) (fun X => ⟨zg_RX4 X, zp_RX4 X, zl1_RX4 X, zl2_RX4 X, nilz, (List.forall_mem_cons.mpr ⟨zq_RX4_33 X (zM_632 hw hm) (by decide) rfl rfl, (List.forall_mem_cons.mpr ⟨zq_RX4_109 X (zM_611 hw hm) (by decide) rfl rfl, (List.forall_mem_cons.mpr ⟨zq_RX4_144 X (zM_612 hw hm) (by decide) rfl rfl, nilz⟩)⟩)⟩)⟩)
set_option maxRecDepth 100000 in
theorem zk_622 : zmeth zKS zuq zNS zm_622 4000 = true := zqF (zdt_X4_takeNumber) (by decide +kernel)
theorem zM_622 {l : Launch} {D : va_G} {cI cZ cB cJ cR : ClassId} {ks ad : List Nat} {Psi : va_W → Prop} (hw : zworld ks ad zuq zNS Psi) (hm : zMan l D cI cZ cB cJ cR ks ad Psi) : zMet l D cI cZ cB cJ cR zKS ks ad Psi yX4_takeNumber (.code yX4_takeNumber cX4_takeNumber 4 (some .boolean)) 2 zc_622 :=
  zmet_of hw 2 (by decide) 4000 zk_622 (by decide) (by decide) (fun X => ⟨zg_RX4 X, zp_RX4 X, zl1_RX4 X, zl2_RX4 X, nilz, (List.forall_mem_cons.mpr ⟨zq_RX4_33 X (zM_632 hw hm) (by decide) rfl rfl, (List.forall_mem_cons.mpr ⟨zq_RX4_109 X (zM_611 hw hm) (by decide) rfl rfl, (List.forall_mem_cons.mpr ⟨zq_RX4_144 X (zM_612 hw hm) (by decide) rfl rfl, nilz⟩)⟩)⟩)⟩)
set_option maxRecDepth 100000 in
theorem zk_623 : zmeth zKS zuq zNS zm_623 4000 = true := zqF (zdt_X4_takeNumber) (by decide +kernel)
theorem zM_623 {l : Launch} {D : va_G} {cI cZ cB cJ cR : ClassId} {ks ad : List Nat} {Psi : va_W → Prop} (hw : zworld ks ad zuq zNS Psi) (hm : zMan l D cI cZ cB cJ cR ks ad Psi) : zMet l D cI cZ cB cJ cR zKS ks ad Psi yX4_takeNumber (.code yX4_takeNumber cX4_takeNumber 4 (some .boolean)) 2 zc_623 :=
  zmet_of hw 2 (by decide) 4000 zk_623 (by decide) (by decide) (fun X => ⟨zg_RX4 X, zp_RX4 X, zl1_RX4 X, zl2_RX4 X, nilz, (List.forall_mem_cons.mpr ⟨zq_RX4_33 X (zM_632 hw hm) (by decide) rfl rfl, (List.forall_mem_cons.mpr ⟨zq_RX4_109 X (zM_611 hw hm) (by decide) rfl rfl, (List.forall_mem_cons.mpr ⟨zq_RX4_144 X (zM_612 hw hm) (by decide) rfl rfl, nilz⟩)⟩)⟩)⟩)
set_option maxRecDepth 100000 in
theorem zk_624 : zmeth zKS zuq zNS zm_624 4000 = true := zqF (zdt_X4_takeNumber) (by decide +kernel)
theorem zM_624 {l : Launch} {D : va_G} {cI cZ cB cJ cR : ClassId} {ks ad : List Nat} {Psi : va_W → Prop} (hw : zworld ks ad zuq zNS Psi) (hm : zMan l D cI cZ cB cJ cR ks ad Psi) : zMet l D cI cZ cB cJ cR zKS ks ad Psi yX4_takeNumber (.code yX4_takeNumber cX4_takeNumber 4 (some .boolean)) 2 zc_624 :=
  zmet_of hw 2 (by decide) 4000 zk_624 (by decide) (by decide) (fun X => ⟨zg_RX4 X, zp_RX4 X, zl1_RX4 X, zl2_RX4 X, nilz, (List.forall_mem_cons.mpr ⟨zq_RX4_33 X (zM_632 hw hm) (by decide) rfl rfl, (List.forall_mem_cons.mpr ⟨zq_RX4_109 X (zM_611 hw hm) (by decide) rfl rfl, (List.forall_mem_cons.mpr ⟨zq_RX4_144 X (zM_612 hw hm) (by decide) rfl rfl, nilz⟩)⟩)⟩)⟩)
set_option maxRecDepth 100000 in
theorem zk_625 : zmeth zKS zuq zNS zm_625 4000 = true := zqF (zdt_X4_takeNumber) (by decide +kernel)
theorem zM_625 {l : Launch} {D : va_G} {cI cZ cB cJ cR : ClassId} {ks ad : List Nat} {Psi : va_W → Prop} (hw : zworld ks ad zuq zNS Psi) (hm : zMan l D cI cZ cB cJ cR ks ad Psi) : zMet l D cI cZ cB cJ cR zKS ks ad Psi yX4_takeNumber (.code yX4_takeNumber cX4_takeNumber 4 (some .boolean)) 2 zc_625 :=
  zmet_of hw 2 (by decide) 4000 zk_625 (by decide) (by decide) (fun X => ⟨zg_RX4 X, zp_RX4 X, zl1_RX4 X, zl2_RX4 X, nilz, (List.forall_mem_cons.mpr ⟨zq_RX4_33 X (zM_632 hw hm) (by decide) rfl rfl, (List.forall_mem_cons.mpr ⟨zq_RX4_109 X (zM_611 hw hm) (by decide) rfl rfl, (List.forall_mem_cons.mpr ⟨zq_RX4_144 X (zM_612 hw hm) (by decide) rfl rfl, nilz⟩)⟩)⟩)⟩)
set_option maxRecDepth 100000 in
theorem zk_626 : zmeth zKS zuq zNS zm_626 4000 = true := zqF (zdt_X4_takeNumber) (by decide +kernel)
theorem zM_626 {l : Launch} {D : va_G} {cI cZ cB cJ cR : ClassId} {ks ad : List Nat} {Psi : va_W → Prop} (hw : zworld ks ad zuq zNS Psi) (hm : zMan l D cI cZ cB cJ cR ks ad Psi) : zMet l D cI cZ cB cJ cR zKS ks ad Psi yX4_takeNumber (.code yX4_takeNumber cX4_takeNumber 4 (some .boolean)) 2 zc_626 :=
  zmet_of hw 2 (by decide) 4000 zk_626 (by decide) (by decide) (fun X => ⟨zg_RX4 X, zp_RX4 X, zl1_RX4 X, zl2_RX4 X, nilz, (List.forall_mem_cons.mpr ⟨zq_RX4_33 X (zM_632 hw hm) (by decide) rfl rfl, (List.forall_mem_cons.mpr ⟨zq_RX4_109 X (zM_611 hw hm) (by decide) rfl rfl, (List.forall_mem_cons.mpr ⟨zq_RX4_144 X (zM_612 hw hm) (by decide) rfl rfl, nilz⟩)⟩)⟩)⟩)
set_option maxRecDepth 100000 in
theorem zk_627 : zmeth zKS zuq zNS zm_627 4000 = true := zqF (zdt_X4_takeNumber) (by decide +kernel)
theorem zM_627 {l : Launch} {D : va_G} {cI cZ cB cJ cR : ClassId} {ks ad : List Nat} {Psi : va_W → Prop} (hw : zworld ks ad zuq zNS Psi) (hm : zMan l D cI cZ cB cJ cR ks ad Psi) : zMet l D cI cZ cB cJ cR zKS ks ad Psi yX4_takeNumber (.code yX4_takeNumber cX4_takeNumber 4 (some .boolean)) 2 zc_627 :=
  zmet_of hw 2 (by decide) 4000 zk_627 (by decide) (by decide) (fun X => ⟨zg_RX4 X, zp_RX4 X, zl1_RX4 X, zl2_RX4 X, nilz, (List.forall_mem_cons.mpr ⟨zq_RX4_33 X (zM_632 hw hm) (by decide) rfl rfl, (List.forall_mem_cons.mpr ⟨zq_RX4_109 X (zM_611 hw hm) (by decide) rfl rfl, (List.forall_mem_cons.mpr ⟨zq_RX4_144 X (zM_612 hw hm) (by decide) rfl rfl, nilz⟩)⟩)⟩)⟩)
set_option maxRecDepth 100000 in
theorem zk_629 : zmeth zKS zuq zNS zm_629 4000 = true := zqF (zdt0 _) (by decide +kernel)
theorem zM_629 {l : Launch} {D : va_G} {cI cZ cB cJ cR : ClassId} {ks ad : List Nat} {Psi : va_W → Prop} (hw : zworld ks ad zuq zNS Psi) (hm : zMan l D cI cZ cB cJ cR ks ad Psi) : zMet l D cI cZ cB cJ cR zKS ks ad Psi yX4_takeStop (.code yX4_takeStop cX4_takeStop 1 (some .boolean)) 2 zc_629 :=
  zmet_of hw 2 (by decide) 4000 zk_629 (by decide) (by decide) (fun X => ⟨zg_RX4 X, zp_RX4 X, zl1_RX4 X, zl2_RX4 X, nilz, (List.forall_mem_cons.mpr ⟨zq_RX4_33 X (zM_632 hw hm) (by decide) rfl rfl, (List.forall_mem_cons.mpr ⟨zq_RX4_109 X (zM_611 hw hm) (by decide) rfl rfl, nilz⟩)⟩)⟩)
set_option maxRecDepth 100000 in
theorem zk_637 : zmeth zKS zuq zNS zm_637 4000 = true := zqF (zdt0 _) (by decide +kernel)
theorem zM_637 {l : Launch} {D : va_G} {cI cZ cB cJ cR : ClassId} {ks ad : List Nat} {Psi : va_W → Prop} (hw : zworld ks ad zuq zNS Psi) (hm : zMan l D cI cZ cB cJ cR ks ad Psi) : zMet l D cI cZ cB cJ cR zKS ks ad Psi yX5_at (.code yX5_at cX5_at 3 (some .int)) 2 zc_637 :=
  zmet_of hw 2 (by decide) 4000 zk_637 (by decide) (by decide) (fun X => ⟨zg_RX5 X, zp_RX5 X, zl1_RX5 X, zl2_RX5 X, nilz, (List.forall_mem_cons.mpr ⟨zq_RX5_83 X (zM_303 hw hm) (by decide) rfl rfl, (List.forall_mem_cons.mpr ⟨zq_RX5_87 X (zM_301 hw hm) (by decide) rfl rfl, (List.forall_mem_cons.mpr ⟨zq_RX5_90 X (zM_312 hw hm) (by decide) rfl rfl, nilz⟩)⟩)⟩)⟩)
set_option maxRecDepth 100000 in
theorem zk_646 : zmeth zKS zuq zNS zm_646 4000 = true := zqF (zdt0 _) (by decide +kernel)
theorem zM_646 {l : Launch} {D : va_G} {cI cZ cB cJ cR : ClassId} {ks ad : List Nat} {Psi : va_W → Prop} (hw : zworld ks ad zuq zNS Psi) (hm : zMan l D cI cZ cB cJ cR ks ad Psi) : zMet l D cI cZ cB cJ cR zKS ks ad Psi yX5_chain (.code yX5_chain cX5_chain 2 (some .int)) 2 zc_646 :=
  zmet_of hw 2 (by decide) 4000 zk_646 (by decide) (by decide) (fun X => ⟨zg_RX5 X, zp_RX5 X, zl1_RX5 X, zl2_RX5 X, nilz, (List.forall_mem_cons.mpr ⟨zq_RX5_83 X (zM_303 hw hm) (by decide) rfl rfl, (List.forall_mem_cons.mpr ⟨zq_RX5_146 X (zM_282 hw hm) (by decide) rfl rfl, (List.forall_mem_cons.mpr ⟨zq_RX5_149 X (zM_0 hw hm) (by decide) rfl, nilz⟩)⟩)⟩)⟩)
