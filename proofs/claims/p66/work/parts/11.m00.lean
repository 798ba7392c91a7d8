set_option maxRecDepth 100000 in
theorem zk_0 : zmeth zKS zuq zNS zm_0 4000 = true := by decide +kernel
theorem zM_0 {l : Launch} {D : va_G} {cI cZ cB cJ cR : ClassId} {ks ad : List Nat} {Psi : va_W → Prop} (hw : zworld ks ad zuq zNS Psi) (hm : zMan l D cI cZ cB cJ cR ks ad Psi) : zMet l D cI cZ cB cJ cR zKS ks ad Psi yJ6_bitCount_0f7a4 (.code yJ6_bitCount_0f7a4 cJ6_bitCount_0f7a4 1 (some .int)) 0 zc_0 :=
  zmet_of hw 0 (by decide) 4000 zk_0 (by decide) (by decide) (fun X => ⟨zg_RJ6 X, zp_RJ6 X, zl1_RJ6 X, zl2_RJ6 X, nilz, nilz⟩)
set_option maxRecDepth 100000 in
theorem zk_273 : zmeth zKS zuq zNS zm_273 4000 = true := by decide +kernel
theorem zM_273 {l : Launch} {D : va_G} {cI cZ cB cJ cR : ClassId} {ks ad : List Nat} {Psi : va_W → Prop} (hw : zworld ks ad zuq zNS Psi) (hm : zMan l D cI cZ cB cJ cR ks ad Psi) : zMet l D cI cZ cB cJ cR zKS ks ad Psi yX0_clear (.code yX0_clear cX0_clear 2 none) 0 zc_273 :=
  zmet_of hw 0 (by decide) 4000 zk_273 (by decide) (by decide) (fun X => ⟨zg_RX0 X, zp_RX0 X, zl1_RX0 X, zl2_RX0 X, nilz, nilz⟩)
set_option maxRecDepth 100000 in
theorem zk_277 : zmeth zKS zuq zNS zm_277 4000 = true := by decide +kernel
theorem zM_277 {l : Launch} {D : va_G} {cI cZ cB cJ cR : ClassId} {ks ad : List Nat} {Psi : va_W → Prop} (hw : zworld ks ad zuq zNS Psi) (hm : zMan l D cI cZ cB cJ cR ks ad Psi) : zMet l D cI cZ cB cJ cR zKS ks ad Psi yX0_exists (.code yX0_exists cX0_exists 1 (some .boolean)) 0 zc_277 :=
  zmet_of hw 0 (by decide) 4000 zk_277 (by decide) (by decide) (fun X => ⟨zg_RX0 X, zp_RX0 X, zl1_RX0 X, zl2_RX0 X, nilz, nilz⟩)
set_option maxRecDepth 100000 in
theorem zk_281 : zmeth zKS zuq zNS zm_281 4000 = true := by decide +kernel
theorem zM_281 {l : Launch} {D : va_G} {cI cZ cB cJ cR : ClassId} {ks ad : List Nat} {Psi : va_W → Prop} (hw : zworld ks ad zuq zNS Psi) (hm : zMan l D cI cZ cB cJ cR ks ad Psi) : zMet l D cI cZ cB cJ cR zKS ks ad Psi yX0_forgetStrangers (.code yX0_forgetStrangers cX0_forgetStrangers 2 none) 0 zc_281 :=
  zmet_of hw 0 (by decide) 4000 zk_281 (by decide) (by decide) (fun X => ⟨zg_RX0 X, zp_RX0 X, zl1_RX0 X, zl2_RX0 X, nilz, nilz⟩)
set_option maxRecDepth 100000 in
theorem zk_288 : zmeth zKS zuq zNS zm_288 4000 = true := by decide +kernel
theorem zM_288 {l : Launch} {D : va_G} {cI cZ cB cJ cR : ClassId} {ks ad : List Nat} {Psi : va_W → Prop} (hw : zworld ks ad zuq zNS Psi) (hm : zMan l D cI cZ cB cJ cR ks ad Psi) : zMet l D cI cZ cB cJ cR zKS ks ad Psi yX0_hours (.code yX0_hours cX0_hours 1 (some .int)) 0 zc_288 :=
  zmet_of hw 0 (by decide) 4000 zk_288 (by decide) (by decide) (fun X => ⟨zg_RX0 X, zp_RX0 X, zl1_RX0 X, zl2_RX0 X, nilz, nilz⟩)
set_option maxRecDepth 100000 in
theorem zk_293 : zmeth zKS zuq zNS zm_293 4000 = true := by decide +kernel
theorem zM_293 {l : Launch} {D : va_G} {cI cZ cB cJ cR : ClassId} {ks ad : List Nat} {Psi : va_W → Prop} (hw : zworld ks ad zuq zNS Psi) (hm : zMan l D cI cZ cB cJ cR ks ad Psi) : zMet l D cI cZ cB cJ cR zKS ks ad Psi yX0_isPerson (.code yX0_isPerson cX0_isPerson 3 (some .boolean)) 0 zc_293 :=
  zmet_of hw 0 (by decide) 4000 zk_293 (by decide) (by decide) (fun X => ⟨zg_RX0 X, zp_RX0 X, zl1_RX0 X, zl2_RX0 X, nilz, nilz⟩)
set_option maxRecDepth 100000 in
theorem zk_302 : zmeth zKS zuq zNS zm_302 4000 = true := by decide +kernel
theorem zM_302 {l : Launch} {D : va_G} {cI cZ cB cJ cR : ClassId} {ks ad : List Nat} {Psi : va_W → Prop} (hw : zworld ks ad zuq zNS Psi) (hm : zMan l D cI cZ cB cJ cR ks ad Psi) : zMet l D cI cZ cB cJ cR zKS ks ad Psi yX0_placeOf (.code yX0_placeOf cX0_placeOf 3 (some .int)) 0 zc_302 :=
  zmet_of hw 0 (by decide) 4000 zk_302 (by decide) (by decide) (fun X => ⟨zg_RX0 X, zp_RX0 X, zl1_RX0 X, zl2_RX0 X, nilz, nilz⟩)
set_option maxRecDepth 100000 in
theorem zk_303 : zmeth zKS zuq zNS zm_303 4000 = true := by decide +kernel
theorem zM_303 {l : Launch} {D : va_G} {cI cZ cB cJ cR : ClassId} {ks ad : List Nat} {Psi : va_W → Prop} (hw : zworld ks ad zuq zNS Psi) (hm : zMan l D cI cZ cB cJ cR ks ad Psi) : zMet l D cI cZ cB cJ cR zKS ks ad Psi yX0_places (.code yX0_places cX0_places 1 (some .int)) 0 zc_303 :=
  zmet_of hw 0 (by decide) 4000 zk_303 (by decide) (by decide) (fun X => ⟨zg_RX0 X, zp_RX0 X, zl1_RX0 X, zl2_RX0 X, nilz, nilz⟩)
set_option maxRecDepth 100000 in
theorem zk_310 : zmeth zKS zuq zNS zm_310 4000 = true := by decide +kernel
theorem zM_310 {l : Launch} {D : va_G} {cI cZ cB cJ cR : ClassId} {ks ad : List Nat} {Psi : va_W → Prop} (hw : zworld ks ad zuq zNS Psi) (hm : zMan l D cI cZ cB cJ cR ks ad Psi) : zMet l D cI cZ cB cJ cR zKS ks ad Psi yX0_send (.code yX0_send cX0_send 4 none) 0 zc_310 :=
  zmet_of hw 0 (by decide) 4000 zk_310 (by decide) (by decide) (fun X => ⟨zg_RX0 X, zp_RX0 X, zl1_RX0 X, zl2_RX0 X, nilz, nilz⟩)
set_option maxRecDepth 100000 in
theorem zk_311 : zmeth zKS zuq zNS zm_311 4000 = true := by decide +kernel
theorem zM_311 {l : Launch} {D : va_G} {cI cZ cB cJ cR : ClassId} {ks ad : List Nat} {Psi : va_W → Prop} (hw : zworld ks ad zuq zNS Psi) (hm : zMan l D cI cZ cB cJ cR ks ad Psi) : zMet l D cI cZ cB cJ cR zKS ks ad Psi yX0_swapOaths (.code yX0_swapOaths cX0_swapOaths 4 none) 0 zc_311 :=
  zmet_of hw 0 (by decide) 4000 zk_311 (by decide) (by decide) (fun X => ⟨zg_RX0 X, zp_RX0 X, zl1_RX0 X, zl2_RX0 X, nilz, nilz⟩)
set_option maxRecDepth 100000 in
theorem zk_313 : zmeth zKS zuq zNS zm_313 4000 = true := by decide +kernel
theorem zM_313 {l : Launch} {D : va_G} {cI cZ cB cJ cR : ClassId} {ks ad : List Nat} {Psi : va_W → Prop} (hw : zworld ks ad zuq zNS Psi) (hm : zMan l D cI cZ cB cJ cR ks ad Psi) : zMet l D cI cZ cB cJ cR zKS ks ad Psi yX0_swearersOf (.code yX0_swearersOf cX0_swearersOf 4 (some .int)) 0 zc_313 :=
  zmet_of hw 0 (by decide) 4000 zk_313 (by decide) (by decide) (fun X => ⟨zg_RX0 X, zp_RX0 X, zl1_RX0 X, zl2_RX0 X, nilz, nilz⟩)
set_option maxRecDepth 100000 in
theorem zk_319 : zmeth zKS zuq zNS zm_319 4000 = true := by decide +kernel
theorem zM_319 {l : Launch} {D : va_G} {cI cZ cB cJ cR : ClassId} {ks ad : List Nat} {Psi : va_W → Prop} (hw : zworld ks ad zuq zNS Psi) (hm : zMan l D cI cZ cB cJ cR ks ad Psi) : zMet l D cI cZ cB cJ cR zKS ks ad Psi yX1_keepBetter (.code yX1_keepBetter cX1_keepBetter 4 none) 0 zc_319 :=
  zmet_of hw 0 (by decide) 4000 zk_319 (by decide) (by decide) (fun X => ⟨zg_RX1 X, zp_RX1 X, zl1_RX1 X, zl2_RX1 X, nilz, nilz⟩)
set_option maxRecDepth 100000 in
theorem zk_333 : zmeth zKS zuq zNS zm_333 4000 = true := by decide +kernel
theorem zM_333 {l : Launch} {D : va_G} {cI cZ cB cJ cR : ClassId} {ks ad : List Nat} {Psi : va_W → Prop} (hw : zworld ks ad zuq zNS Psi) (hm : zMan l D cI cZ cB cJ cR ks ad Psi) : zMet l D cI cZ cB cJ cR zKS ks ad Psi yX2_expectNothing (.code yX2_expectNothing cX2_expectNothing 2 none) 0 zc_333 :=
  zmet_of hw 0 (by decide) 4000 zk_333 (by decide) (by decide) (fun X => ⟨zg_RX2 X, zp_RX2 X, zl1_RX2 X, zl2_RX2 X, nilz, nilz⟩)
set_option maxRecDepth 100000 in
theorem zk_337 : zmeth zKS zuq zNS zm_337 4000 = true := by decide +kernel
theorem zM_337 {l : Launch} {D : va_G} {cI cZ cB cJ cR : ClassId} {ks ad : List Nat} {Psi : va_W → Prop} (hw : zworld ks ad zuq zNS Psi) (hm : zMan l D cI cZ cB cJ cR ks ad Psi) : zMet l D cI cZ cB cJ cR zKS ks ad Psi yX2_isAsExpected (.code yX2_isAsExpected cX2_isAsExpected 3 (some .boolean)) 0 zc_337 :=
  zmet_of hw 0 (by decide) 4000 zk_337 (by decide) (by decide) (fun X => ⟨zg_RX2 X, zp_RX2 X, zl1_RX2 X, zl2_RX2 X, nilz, nilz⟩)
set_option maxRecDepth 100000 in
theorem zk_340 : zmeth zKS zuq zNS zm_340 4000 = true := by decide +kernel
theorem zM_340 {l : Launch} {D : va_G} {cI cZ cB cJ cR : ClassId} {ks ad : List Nat} {Psi : va_W → Prop} (hw : zworld ks ad zuq zNS Psi) (hm : zMan l D cI cZ cB cJ cR ks ad Psi) : zMet l D cI cZ cB cJ cR zKS ks ad Psi yX3_areAlike (.code yX3_areAlike cX3_areAlike 3 (some .boolean)) 0 zc_340 :=
  zmet_of hw 0 (by decide) 4000 zk_340 (by decide) (by decide) (fun X => ⟨zg_RX3 X, zp_RX3 X, zl1_RX3 X, zl2_RX3 X, nilz, nilz⟩)
set_option maxRecDepth 100000 in
theorem zk_341 : zmeth zKS zuq zNS zm_341 4000 = true := by decide +kernel
theorem zM_341 {l : Launch} {D : va_G} {cI cZ cB cJ cR : ClassId} {ks ad : List Nat} {Psi : va_W → Prop} (hw : zworld ks ad zuq zNS Psi) (hm : zMan l D cI cZ cB cJ cR ks ad Psi) : zMet l D cI cZ cB cJ cR zKS ks ad Psi yX3_cut (.code yX3_cut cX3_cut 3 (some .long)) 0 zc_341 :=
  zmet_of hw 0 (by decide) 4000 zk_341 (by decide) (by decide) (fun X => ⟨zg_RX3 X, zp_RX3 X, zl1_RX3 X, zl2_RX3 X, nilz, nilz⟩)
set_option maxRecDepth 100000 in
theorem zk_342 : zmeth zKS zuq zNS zm_342 4000 = true := by decide +kernel
theorem zM_342 {l : Launch} {D : va_G} {cI cZ cB cJ cR : ClassId} {ks ad : List Nat} {Psi : va_W → Prop} (hw : zworld ks ad zuq zNS Psi) (hm : zMan l D cI cZ cB cJ cR ks ad Psi) : zMet l D cI cZ cB cJ cR zKS ks ad Psi yX3_hasRow (.code yX3_hasRow cX3_hasRow 2 (some .boolean)) 0 zc_342 :=
  zmet_of hw 0 (by decide) 4000 zk_342 (by decide) (by decide) (fun X => ⟨zg_RX3 X, zp_RX3 X, zl1_RX3 X, zl2_RX3 X, nilz, nilz⟩)
set_option maxRecDepth 100000 in
theorem zk_343 : zmeth zKS zuq zNS zm_343 4000 = true := by decide +kernel
theorem zM_343 {l : Launch} {D : va_G} {cI cZ cB cJ cR : ClassId} {ks ad : List Nat} {Psi : va_W → Prop} (hw : zworld ks ad zuq zNS Psi) (hm : zMan l D cI cZ cB cJ cR ks ad Psi) : zMet l D cI cZ cB cJ cR zKS ks ad Psi yX3_holds (.code yX3_holds cX3_holds 4 (some .boolean)) 0 zc_343 :=
  zmet_of hw 0 (by decide) 4000 zk_343 (by decide) (by decide) (fun X => ⟨zg_RX3 X, zp_RX3 X, zl1_RX3 X, zl2_RX3 X, nilz, nilz⟩)
set_option maxRecDepth 100000 in
theorem zk_344 : zmeth zKS zuq zNS zm_344 4000 = true := by decide +kernel
theorem zM_344 {l : Launch} {D : va_G} {cI cZ cB cJ cR : ClassId} {ks ad : List Nat} {Psi : va_W → Prop} (hw : zworld ks ad zuq zNS Psi) (hm : zMan l D cI cZ cB cJ cR ks ad Psi) : zMet l D cI cZ cB cJ cR zKS ks ad Psi yX3_isSlot (.code yX3_isSlot cX3_isSlot 2 (some .boolean)) 0 zc_344 :=
  zmet_of hw 0 (by decide) 4000 zk_344 (by decide) (by decide) (fun X => ⟨zg_RX3 X, zp_RX3 X, zl1_RX3 X, zl2_RX3 X, nilz, nilz⟩)
set_option maxRecDepth 100000 in
theorem zk_345 : zmeth zKS zuq zNS zm_345 4000 = true := by decide +kernel
theorem zM_345 {l : Launch} {D : va_G} {cI cZ cB cJ cR : ClassId} {ks ad : List Nat} {Psi : va_W → Prop} (hw : zworld ks ad zuq zNS Psi) (hm : zMan l D cI cZ cB cJ cR ks ad Psi) : zMet l D cI cZ cB cJ cR zKS ks ad Psi yX3_lay (.code yX3_lay cX3_lay 5 none) 0 zc_345 :=
  zmet_of hw 0 (by decide) 4000 zk_345 (by decide) (by decide) (fun X => ⟨zg_RX3 X, zp_RX3 X, zl1_RX3 X, zl2_RX3 X, nilz, nilz⟩)
set_option maxRecDepth 100000 in
theorem zk_346 : zmeth zKS zuq zNS zm_346 4000 = true := by decide +kernel
theorem zM_346 {l : Launch} {D : va_G} {cI cZ cB cJ cR : ClassId} {ks ad : List Nat} {Psi : va_W → Prop} (hw : zworld ks ad zuq zNS Psi) (hm : zMan l D cI cZ cB cJ cR ks ad Psi) : zMet l D cI cZ cB cJ cR zKS ks ad Psi yX3_manyRows (.code yX3_manyRows cX3_manyRows 3 (some .int)) 0 zc_346 :=
  zmet_of hw 0 (by decide) 4000 zk_346 (by decide) (by decide) (fun X => ⟨zg_RX3 X, zp_RX3 X, zl1_RX3 X, zl2_RX3 X, nilz, nilz⟩)
set_option maxRecDepth 100000 in
theorem zk_349 : zmeth zKS zuq zNS zm_349 4000 = true := by decide +kernel
theorem zM_349 {l : Launch} {D : va_G} {cI cZ cB cJ cR : ClassId} {ks ad : List Nat} {Psi : va_W → Prop} (hw : zworld ks ad zuq zNS Psi) (hm : zMan l D cI cZ cB cJ cR ks ad Psi) : zMet l D cI cZ cB cJ cR zKS ks ad Psi yX3_size (.code yX3_size cX3_size 2 (some .int)) 0 zc_349 :=
  zmet_of hw 0 (by decide) 4000 zk_349 (by decide) (by decide) (fun X => ⟨zg_RX3 X, zp_RX3 X, zl1_RX3 X, zl2_RX3 X, nilz, nilz⟩)
set_option maxRecDepth 100000 in
theorem zk_350 : zmeth zKS zuq zNS zm_350 4000 = true := by decide +kernel
theorem zM_350 {l : Launch} {D : va_G} {cI cZ cB cJ cR : ClassId} {ks ad : List Nat} {Psi : va_W → Prop} (hw : zworld ks ad zuq zNS Psi) (hm : zMan l D cI cZ cB cJ cR ks ad Psi) : zMet l D cI cZ cB cJ cR zKS ks ad Psi yX4_append (.code yX4_append cX4_append 3 none) 0 zc_350 :=
  zmet_of hw 0 (by decide) 4000 zk_350 (by decide) (by decide) (fun X => ⟨zg_RX4 X, zp_RX4 X, zl1_RX4 X, zl2_RX4 X, nilz, nilz⟩)
set_option maxRecDepth 100000 in
theorem zk_351 : zmeth zKS zuq zNS zm_351 4000 = true := by decide +kernel
theorem zM_351 {l : Launch} {D : va_G} {cI cZ cB cJ cR : ClassId} {ks ad : List Nat} {Psi : va_W → Prop} (hw : zworld ks ad zuq zNS Psi) (hm : zMan l D cI cZ cB cJ cR ks ad Psi) : zMet l D cI cZ cB cJ cR zKS ks ad Psi yX4_hasRoom (.code yX4_hasRoom cX4_hasRoom 1 (some .boolean)) 0 zc_351 :=
  zmet_of hw 0 (by decide) 4000 zk_351 (by decide) (by decide) (fun X => ⟨zg_RX4 X, zp_RX4 X, zl1_RX4 X, zl2_RX4 X, nilz, nilz⟩)
set_option maxRecDepth 100000 in
theorem zk_353 : zmeth zKS zuq zNS zm_353 4000 = true := by decide +kernel
theorem zM_353 {l : Launch} {D : va_G} {cI cZ cB cJ cR : ClassId} {ks ad : List Nat} {Psi : va_W → Prop} (hw : zworld ks ad zuq zNS Psi) (hm : zMan l D cI cZ cB cJ cR ks ad Psi) : zMet l D cI cZ cB cJ cR zKS ks ad Psi yX4_kindOf (.code yX4_kindOf cX4_kindOf 1 (some .int)) 0 zc_353 :=
  zmet_of hw 0 (by decide) 4000 zk_353 (by decide) (by decide) (fun X => ⟨zg_RX4 X, zp_RX4 X, zl1_RX4 X, zl2_RX4 X, nilz, nilz⟩)
set_option maxRecDepth 100000 in
theorem zk_354 : zmeth zKS zuq zNS zm_354 4000 = true := by decide +kernel
theorem zM_354 {l : Launch} {D : va_G} {cI cZ cB cJ cR : ClassId} {ks ad : List Nat} {Psi : va_W → Prop} (hw : zworld ks ad zuq zNS Psi) (hm : zMan l D cI cZ cB cJ cR ks ad Psi) : zMet l D cI cZ cB cJ cR zKS ks ad Psi yX4_notes (.code yX4_notes cX4_notes 2 (some .boolean)) 0 zc_354 :=
  zmet_of hw 0 (by decide) 4000 zk_354 (by decide) (by decide) (fun X => ⟨zg_RX4 X, zp_RX4 X, zl1_RX4 X, zl2_RX4 X, nilz, nilz⟩)
set_option maxRecDepth 100000 in
theorem zk_390 : zmeth zKS zuq zNS zm_390 4000 = true := by decide +kernel
theorem zM_390 {l : Launch} {D : va_G} {cI cZ cB cJ cR : ClassId} {ks ad : List Nat} {Psi : va_W → Prop} (hw : zworld ks ad zuq zNS Psi) (hm : zMan l D cI cZ cB cJ cR ks ad Psi) : zMet l D cI cZ cB cJ cR zKS ks ad Psi yX5_end (.code yX5_end cX5_end 2 (some .int)) 0 zc_390 :=
  zmet_of hw 0 (by decide) 4000 zk_390 (by decide) (by decide) (fun X => ⟨zg_RX5 X, zp_RX5 X, zl1_RX5 X, zl2_RX5 X, nilz, nilz⟩)
set_option maxRecDepth 100000 in
theorem zk_395 : zmeth zKS zuq zNS zm_395 4000 = true := by decide +kernel
theorem zM_395 {l : Launch} {D : va_G} {cI cZ cB cJ cR : ClassId} {ks ad : List Nat} {Psi : va_W → Prop} (hw : zworld ks ad zuq zNS Psi) (hm : zMan l D cI cZ cB cJ cR ks ad Psi) : zMet l D cI cZ cB cJ cR zKS ks ad Psi yX5_fault (.code yX5_fault cX5_fault 2 (some .int)) 0 zc_395 :=
  zmet_of hw 0 (by decide) 4000 zk_395 (by decide) (by decide) (fun X => ⟨zg_RX5 X, zp_RX5 X, zl1_RX5 X, zl2_RX5 X, nilz, nilz⟩)
set_option maxRecDepth 100000 in
theorem zk_404 : zmeth zKS zuq zNS zm_404 4000 = true := by decide +kernel
theorem zM_404 {l : Launch} {D : va_G} {cI cZ cB cJ cR : ClassId} {ks ad : List Nat} {Psi : va_W → Prop} (hw : zworld ks ad zuq zNS Psi) (hm : zMan l D cI cZ cB cJ cR ks ad Psi) : zMet l D cI cZ cB cJ cR zKS ks ad Psi yX5_hasBit (.code yX5_hasBit cX5_hasBit 2 (some .boolean)) 0 zc_404 :=
  zmet_of hw 0 (by decide) 4000 zk_404 (by decide) (by decide) (fun X => ⟨zg_RX5 X, zp_RX5 X, zl1_RX5 X, zl2_RX5 X, nilz, nilz⟩)
set_option maxRecDepth 100000 in
theorem zk_465 : zmeth zKS zuq zNS zm_465 4000 = true := by decide +kernel
theorem zM_465 {l : Launch} {D : va_G} {cI cZ cB cJ cR : ClassId} {ks ad : List Nat} {Psi : va_W → Prop} (hw : zworld ks ad zuq zNS Psi) (hm : zMan l D cI cZ cB cJ cR ks ad Psi) : zMet l D cI cZ cB cJ cR zKS ks ad Psi yX6_bestFirst (.code yX6_bestFirst cX6_bestFirst 3 (some .int)) 0 zc_465 :=
  zmet_of hw 0 (by decide) 4000 zk_465 (by decide) (by decide) (fun X => ⟨zg_RX6 X, zp_RX6 X, zl1_RX6 X, zl2_RX6 X, nilz, nilz⟩)
set_option maxRecDepth 100000 in
theorem zk_471 : zmeth zKS zuq zNS zm_471 4000 = true := by decide +kernel
theorem zM_471 {l : Launch} {D : va_G} {cI cZ cB cJ cR : ClassId} {ks ad : List Nat} {Psi : va_W → Prop} (hw : zworld ks ad zuq zNS Psi) (hm : zMan l D cI cZ cB cJ cR ks ad Psi) : zMet l D cI cZ cB cJ cR zKS ks ad Psi yX6_changes (.code yX6_changes cX6_changes 4 none) 0 zc_471 :=
  zmet_of hw 0 (by decide) 4000 zk_471 (by decide) (by decide) (fun X => ⟨zg_RX6 X, zp_RX6 X, zl1_RX6 X, zl2_RX6 X, nilz, nilz⟩)
set_option maxRecDepth 100000 in
theorem zk_491 : zmeth zKS zuq zNS zm_491 4000 = true := by decide +kernel
theorem zM_491 {l : Launch} {D : va_G} {cI cZ cB cJ cR : ClassId} {ks ad : List Nat} {Psi : va_W → Prop} (hw : zworld ks ad zuq zNS Psi) (hm : zMan l D cI cZ cB cJ cR ks ad Psi) : zMet l D cI cZ cB cJ cR zKS ks ad Psi yX6_cut (.code yX6_cut cX6_cut 3 (some .long)) 0 zc_491 :=
  zmet_of hw 0 (by decide) 4000 zk_491 (by decide) (by decide) (fun X => ⟨zg_RX6 X, zp_RX6 X, zl1_RX6 X, zl2_RX6 X, nilz, nilz⟩)
set_option maxRecDepth 100000 in
theorem zk_502 : zmeth zKS zuq zNS zm_502 4000 = true := by decide +kernel
theorem zM_502 {l : Launch} {D : va_G} {cI cZ cB cJ cR : ClassId} {ks ad : List Nat} {Psi : va_W → Prop} (hw : zworld ks ad zuq zNS Psi) (hm : zMan l D cI cZ cB cJ cR ks ad Psi) : zMet l D cI cZ cB cJ cR zKS ks ad Psi yX6_fails (.code yX6_fails cX6_fails 2 none) 0 zc_502 :=
  zmet_of hw 0 (by decide) 4000 zk_502 (by decide) (by decide) (fun X => ⟨zg_RX6 X, zp_RX6 X, zl1_RX6 X, zl2_RX6 X, nilz, nilz⟩)
set_option maxRecDepth 100000 in
theorem zk_504 : zmeth zKS zuq zNS zm_504 4000 = true := by decide +kernel
theorem zM_504 {l : Launch} {D : va_G} {cI cZ cB cJ cR : ClassId} {ks ad : List Nat} {Psi : va_W → Prop} (hw : zworld ks ad zuq zNS Psi) (hm : zMan l D cI cZ cB cJ cR ks ad Psi) : zMet l D cI cZ cB cJ cR zKS ks ad Psi yX6_far (.code yX6_far cX6_far 2 (some .int)) 0 zc_504 :=
  zmet_of hw 0 (by decide) 4000 zk_504 (by decide) (by decide) (fun X => ⟨zg_RX6 X, zp_RX6 X, zl1_RX6 X, zl2_RX6 X, nilz, nilz⟩)
set_option maxRecDepth 100000 in
theorem zk_505 : zmeth zKS zuq zNS zm_505 4000 = true := by decide +kernel
theorem zM_505 {l : Launch} {D : va_G} {cI cZ cB cJ cR : ClassId} {ks ad : List Nat} {Psi : va_W → Prop} (hw : zworld ks ad zuq zNS Psi) (hm : zMan l D cI cZ cB cJ cR ks ad Psi) : zMet l D cI cZ cB cJ cR zKS ks ad Psi yX6_fault (.code yX6_fault cX6_fault 2 (some .int)) 0 zc_505 :=
  zmet_of hw 0 (by decide) 4000 zk_505 (by decide) (by decide) (fun X => ⟨zg_RX6 X, zp_RX6 X, zl1_RX6 X, zl2_RX6 X, nilz, nilz⟩)
set_option maxRecDepth 100000 in
theorem zk_509 : zmeth zKS zuq zNS zm_509 4000 = true := by decide +kernel
theorem zM_509 {l : Launch} {D : va_G} {cI cZ cB cJ cR : ClassId} {ks ad : List Nat} {Psi : va_W → Prop} (hw : zworld ks ad zuq zNS Psi) (hm : zMan l D cI cZ cB cJ cR ks ad Psi) : zMet l D cI cZ cB cJ cR zKS ks ad Psi yX6_four (.code yX6_four cX6_four 3 none) 0 zc_509 :=
  zmet_of hw 0 (by decide) 4000 zk_509 (by decide) (by decide) (fun X => ⟨zg_RX6 X, zp_RX6 X, zl1_RX6 X, zl2_RX6 X, nilz, nilz⟩)
set_option maxRecDepth 100000 in
theorem zk_519 : zmeth zKS zuq zNS zm_519 4000 = true := by decide +kernel
theorem zM_519 {l : Launch} {D : va_G} {cI cZ cB cJ cR : ClassId} {ks ad : List Nat} {Psi : va_W → Prop} (hw : zworld ks ad zuq zNS Psi) (hm : zMan l D cI cZ cB cJ cR ks ad Psi) : zMet l D cI cZ cB cJ cR zKS ks ad Psi yX6_hasRead (.code yX6_hasRead cX6_hasRead 2 (some .int)) 0 zc_519 :=
  zmet_of hw 0 (by decide) 4000 zk_519 (by decide) (by decide) (fun X => ⟨zg_RX6 X, zp_RX6 X, zl1_RX6 X, zl2_RX6 X, nilz, nilz⟩)
set_option maxRecDepth 100000 in
theorem zk_520 : zmeth zKS zuq zNS zm_520 4000 = true := by decide +kernel
theorem zM_520 {l : Launch} {D : va_G} {cI cZ cB cJ cR : ClassId} {ks ad : List Nat} {Psi : va_W → Prop} (hw : zworld ks ad zuq zNS Psi) (hm : zMan l D cI cZ cB cJ cR ks ad Psi) : zMet l D cI cZ cB cJ cR zKS ks ad Psi yX6_hasRead (.code yX6_hasRead cX6_hasRead 2 (some .int)) 0 zc_520 :=
  zmet_of hw 0 (by decide) 4000 zk_520 (by decide) (by decide) (fun X => ⟨zg_RX6 X, zp_RX6 X, zl1_RX6 X, zl2_RX6 X, nilz, nilz⟩)
set_option maxRecDepth 100000 in
theorem zk_521 : zmeth zKS zuq zNS zm_521 4000 = true := by decide +kernel
theorem zM_521 {l : Launch} {D : va_G} {cI cZ cB cJ cR : ClassId} {ks ad : List Nat} {Psi : va_W → Prop} (hw : zworld ks ad zuq zNS Psi) (hm : zMan l D cI cZ cB cJ cR ks ad Psi) : zMet l D cI cZ cB cJ cR zKS ks ad Psi yX6_hasRead (.code yX6_hasRead cX6_hasRead 2 (some .int)) 0 zc_521 :=
  zmet_of hw 0 (by decide) 4000 zk_521 (by decide) (by decide) (fun X => ⟨zg_RX6 X, zp_RX6 X, zl1_RX6 X, zl2_RX6 X, nilz, nilz⟩)
set_option maxRecDepth 100000 in
theorem zk_522 : zmeth zKS zuq zNS zm_522 4000 = true := by decide +kernel
theorem zM_522 {l : Launch} {D : va_G} {cI cZ cB cJ cR : ClassId} {ks ad : List Nat} {Psi : va_W → Prop} (hw : zworld ks ad zuq zNS Psi) (hm : zMan l D cI cZ cB cJ cR ks ad Psi) : zMet l D cI cZ cB cJ cR zKS ks ad Psi yX6_hasRead (.code yX6_hasRead cX6_hasRead 2 (some .int)) 0 zc_522 :=
  zmet_of hw 0 (by decide) 4000 zk_522 (by decide) (by decide) (fun X => ⟨zg_RX6 X, zp_RX6 X, zl1_RX6 X, zl2_RX6 X, nilz, nilz⟩)
