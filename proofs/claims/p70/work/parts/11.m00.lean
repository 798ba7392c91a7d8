set_option maxRecDepth 100000 in
theorem zk_0 : zmeth zKS zuq zNS zm_0 4000 = true := zqF (zdt0 _) (by decide +kernel)
theorem zM_0 {l : Launch} {D : va_G} {cI cZ cB cJ cR : ClassId} {ks ad : List Nat} {Psi : va_W → Prop} (hw : zworld ks ad zuq zNS Psi) (hm : zMan l D cI cZ cB cJ cR ks ad Psi) : zMet l D cI cZ cB cJ cR zKS ks ad Psi yJ6_bitCount_0f7a4 (.code yJ6_bitCount_0f7a4 cJ6_bitCount_0f7a4 1 (some .int)) 0 zc_0 :=
  zmet_of hw 0 (by decide) 4000 zk_0 (by decide) (by decide) (fun X => ⟨zg_RJ6 X, zp_RJ6 X, zl1_RJ6 X, zl2_RJ6 X, nilz, nilz⟩)
set_option maxRecDepth 100000 in
theorem zk_283 : zmeth zKS zuq zNS zm_283 4000 = true := zqF (zdt0 _) (by decide +kernel)
theorem zM_283 {l : Launch} {D : va_G} {cI cZ cB cJ cR : ClassId} {ks ad : List Nat} {Psi : va_W → Prop} (hw : zworld ks ad zuq zNS Psi) (hm : zMan l D cI cZ cB cJ cR ks ad Psi) : zMet l D cI cZ cB cJ cR zKS ks ad Psi yX0_clear (.code yX0_clear cX0_clear 2 none) 0 zc_283 :=
  zmet_of hw 0 (by decide) 4000 zk_283 (by decide) (by decide) (fun X => ⟨zg_RX0 X, zp_RX0 X, zl1_RX0 X, zl2_RX0 X, nilz, nilz⟩)
set_option maxRecDepth 100000 in
theorem zk_287 : zmeth zKS zuq zNS zm_287 4000 = true := zqF (zdt0 _) (by decide +kernel)
theorem zM_287 {l : Launch} {D : va_G} {cI cZ cB cJ cR : ClassId} {ks ad : List Nat} {Psi : va_W → Prop} (hw : zworld ks ad zuq zNS Psi) (hm : zMan l D cI cZ cB cJ cR ks ad Psi) : zMet l D cI cZ cB cJ cR zKS ks ad Psi yX0_exists (.code yX0_exists cX0_exists 1 (some .boolean)) 0 zc_287 :=
  zmet_of hw 0 (by decide) 4000 zk_287 (by decide) (by decide) (fun X => ⟨zg_RX0 X, zp_RX0 X, zl1_RX0 X, zl2_RX0 X, nilz, nilz⟩)
set_option maxRecDepth 100000 in
theorem zk_291 : zmeth zKS zuq zNS zm_291 4000 = true := zqF (zdt0 _) (by decide +kernel)
theorem zM_291 {l : Launch} {D : va_G} {cI cZ cB cJ cR : ClassId} {ks ad : List Nat} {Psi : va_W → Prop} (hw : zworld ks ad zuq zNS Psi) (hm : zMan l D cI cZ cB cJ cR ks ad Psi) : zMet l D cI cZ cB cJ cR zKS ks ad Psi yX0_forgetStrangers (.code yX0_forgetStrangers cX0_forgetStrangers 2 none) 0 zc_291 :=
  zmet_of hw 0 (by decide) 4000 zk_291 (by decide) (by decide) (fun X => ⟨zg_RX0 X, zp_RX0 X, zl1_RX0 X, zl2_RX0 X, nilz, nilz⟩)
set_option maxRecDepth 100000 in
theorem zk_298 : zmeth zKS zuq zNS zm_298 4000 = true := zqF (zdt0 _) (by decide +kernel)
theorem zM_298 {l : Launch} {D : va_G} {cI cZ cB cJ cR : ClassId} {ks ad : List Nat} {Psi : va_W → Prop} (hw : zworld ks ad zuq zNS Psi) (hm : zMan l D cI cZ cB cJ cR ks ad Psi) : zMet l D cI cZ cB cJ cR zKS ks ad Psi yX0_hours (.code yX0_hours cX0_hours 1 (some .int)) 0 zc_298 :=
  zmet_of hw 0 (by decide) 4000 zk_298 (by decide) (by decide) (fun X => ⟨zg_RX0 X, zp_RX0 X, zl1_RX0 X, zl2_RX0 X, nilz, nilz⟩)
set_option maxRecDepth 100000 in
theorem zk_303 : zmeth zKS zuq zNS zm_303 4000 = true := zqF (zdt0 _) (by decide +kernel)
theorem zM_303 {l : Launch} {D : va_G} {cI cZ cB cJ cR : ClassId} {ks ad : List Nat} {Psi : va_W → Prop} (hw : zworld ks ad zuq zNS Psi) (hm : zMan l D cI cZ cB cJ cR ks ad Psi) : zMet l D cI cZ cB cJ cR zKS ks ad Psi yX0_isPerson (.code yX0_isPerson cX0_isPerson 3 (some .boolean)) 0 zc_303 :=
  zmet_of hw 0 (by decide) 4000 zk_303 (by decide) (by decide) (fun X => ⟨zg_RX0 X, zp_RX0 X, zl1_RX0 X, zl2_RX0 X, nilz, nilz⟩)
set_option maxRecDepth 100000 in
theorem zk_312 : zmeth zKS zuq zNS zm_312 4000 = true := zqF (zdt0 _) (by decide +kernel)
theorem zM_312 {l : Launch} {D : va_G} {cI cZ cB cJ cR : ClassId} {ks ad : List Nat} {Psi : va_W → Prop} (hw : zworld ks ad zuq zNS Psi) (hm : zMan l D cI cZ cB cJ cR ks ad Psi) : zMet l D cI cZ cB cJ cR zKS ks ad Psi yX0_placeOf (.code yX0_placeOf cX0_placeOf 3 (some .int)) 0 zc_312 :=
  zmet_of hw 0 (by decide) 4000 zk_312 (by decide) (by decide) (fun X => ⟨zg_RX0 X, zp_RX0 X, zl1_RX0 X, zl2_RX0 X, nilz, nilz⟩)
set_option maxRecDepth 100000 in
theorem zk_313 : zmeth zKS zuq zNS zm_313 4000 = true := zqF (zdt0 _) (by decide +kernel)
theorem zM_313 {l : Launch} {D : va_G} {cI cZ cB cJ cR : ClassId} {ks ad : List Nat} {Psi : va_W → Prop} (hw : zworld ks ad zuq zNS Psi) (hm : zMan l D cI cZ cB cJ cR ks ad Psi) : zMet l D cI cZ cB cJ cR zKS ks ad Psi yX0_places (.code yX0_places cX0_places 1 (some .int)) 0 zc_313 :=
  zmet_of hw 0 (by decide) 4000 zk_313 (by decide) (by decide) (fun X => ⟨zg_RX0 X, zp_RX0 X, zl1_RX0 X, zl2_RX0 X, nilz, nilz⟩)
set_option maxRecDepth 100000 in
theorem zk_316 : zmeth zKS zuq zNS zm_316 4000 = true := zqF (zdt0 _) (by decide +kernel)
theorem zM_316 {l : Launch} {D : va_G} {cI cZ cB cJ cR : ClassId} {ks ad : List Nat} {Psi : va_W → Prop} (hw : zworld ks ad zuq zNS Psi) (hm : zMan l D cI cZ cB cJ cR ks ad Psi) : zMet l D cI cZ cB cJ cR zKS ks ad Psi yX0_seenBits (.code yX0_seenBits cX0_seenBits 3 (some .int)) 0 zc_316 :=
  zmet_of hw 0 (by decide) 4000 zk_316 (by decide) (by decide) (fun X => ⟨zg_RX0 X, zp_RX0 X, zl1_RX0 X, zl2_RX0 X, nilz, nilz⟩)
set_option maxRecDepth 100000 in
theorem zk_320 : zmeth zKS zuq zNS zm_320 4000 = true := zqF (zdt0 _) (by decide +kernel)
theorem zM_320 {l : Launch} {D : va_G} {cI cZ cB cJ cR : ClassId} {ks ad : List Nat} {Psi : va_W → Prop} (hw : zworld ks ad zuq zNS Psi) (hm : zMan l D cI cZ cB cJ cR ks ad Psi) : zMet l D cI cZ cB cJ cR zKS ks ad Psi yX0_send (.code yX0_send cX0_send 4 none) 0 zc_320 :=
  zmet_of hw 0 (by decide) 4000 zk_320 (by decide) (by decide) (fun X => ⟨zg_RX0 X, zp_RX0 X, zl1_RX0 X, zl2_RX0 X, nilz, nilz⟩)
set_option maxRecDepth 100000 in
theorem zk_322 : zmeth zKS zuq zNS zm_322 4000 = true := zqF (zdt0 _) (by decide +kernel)
theorem zM_322 {l : Launch} {D : va_G} {cI cZ cB cJ cR : ClassId} {ks ad : List Nat} {Psi : va_W → Prop} (hw : zworld ks ad zuq zNS Psi) (hm : zMan l D cI cZ cB cJ cR ks ad Psi) : zMet l D cI cZ cB cJ cR zKS ks ad Psi yX0_swapOaths (.code yX0_swapOaths cX0_swapOaths 4 none) 0 zc_322 :=
  zmet_of hw 0 (by decide) 4000 zk_322 (by decide) (by decide) (fun X => ⟨zg_RX0 X, zp_RX0 X, zl1_RX0 X, zl2_RX0 X, nilz, nilz⟩)
set_option maxRecDepth 100000 in
theorem zk_324 : zmeth zKS zuq zNS zm_324 4000 = true := zqF (zdt0 _) (by decide +kernel)
theorem zM_324 {l : Launch} {D : va_G} {cI cZ cB cJ cR : ClassId} {ks ad : List Nat} {Psi : va_W → Prop} (hw : zworld ks ad zuq zNS Psi) (hm : zMan l D cI cZ cB cJ cR ks ad Psi) : zMet l D cI cZ cB cJ cR zKS ks ad Psi yX0_swearersOf (.code yX0_swearersOf cX0_swearersOf 4 (some .int)) 0 zc_324 :=
  zmet_of hw 0 (by decide) 4000 zk_324 (by decide) (by decide) (fun X => ⟨zg_RX0 X, zp_RX0 X, zl1_RX0 X, zl2_RX0 X, nilz, nilz⟩)
set_option maxRecDepth 100000 in
theorem zk_330 : zmeth zKS zuq zNS zm_330 4000 = true := zqF (zdt0 _) (by decide +kernel)
theorem zM_330 {l : Launch} {D : va_G} {cI cZ cB cJ cR : ClassId} {ks ad : List Nat} {Psi : va_W → Prop} (hw : zworld ks ad zuq zNS Psi) (hm : zMan l D cI cZ cB cJ cR ks ad Psi) : zMet l D cI cZ cB cJ cR zKS ks ad Psi yX1_keepBetter (.code yX1_keepBetter cX1_keepBetter 4 none) 0 zc_330 :=
  zmet_of hw 0 (by decide) 4000 zk_330 (by decide) (by decide) (fun X => ⟨zg_RX1 X, zp_RX1 X, zl1_RX1 X, zl2_RX1 X, nilz, nilz⟩)
set_option maxRecDepth 100000 in
theorem zk_343 : zmeth zKS zuq zNS zm_343 4000 = true := zqF (zdt0 _) (by decide +kernel)
theorem zM_343 {l : Launch} {D : va_G} {cI cZ cB cJ cR : ClassId} {ks ad : List Nat} {Psi : va_W → Prop} (hw : zworld ks ad zuq zNS Psi) (hm : zMan l D cI cZ cB cJ cR ks ad Psi) : zMet l D cI cZ cB cJ cR zKS ks ad Psi yX2_expect (.code yX2_expect cX2_expect 4 none) 0 zc_343 :=
  zmet_of hw 0 (by decide) 4000 zk_343 (by decide) (by decide) (fun X => ⟨zg_RX2 X, zp_RX2 X, zl1_RX2 X, zl2_RX2 X, nilz, nilz⟩)
set_option maxRecDepth 100000 in
theorem zk_344 : zmeth zKS zuq zNS zm_344 4000 = true := zqF (zdt0 _) (by decide +kernel)
theorem zM_344 {l : Launch} {D : va_G} {cI cZ cB cJ cR : ClassId} {ks ad : List Nat} {Psi : va_W → Prop} (hw : zworld ks ad zuq zNS Psi) (hm : zMan l D cI cZ cB cJ cR ks ad Psi) : zMet l D cI cZ cB cJ cR zKS ks ad Psi yX2_expectNothing (.code yX2_expectNothing cX2_expectNothing 2 none) 0 zc_344 :=
  zmet_of hw 0 (by decide) 4000 zk_344 (by decide) (by decide) (fun X => ⟨zg_RX2 X, zp_RX2 X, zl1_RX2 X, zl2_RX2 X, nilz, nilz⟩)
set_option maxRecDepth 100000 in
theorem zk_348 : zmeth zKS zuq zNS zm_348 4000 = true := zqF (zdt0 _) (by decide +kernel)
theorem zM_348 {l : Launch} {D : va_G} {cI cZ cB cJ cR : ClassId} {ks ad : List Nat} {Psi : va_W → Prop} (hw : zworld ks ad zuq zNS Psi) (hm : zMan l D cI cZ cB cJ cR ks ad Psi) : zMet l D cI cZ cB cJ cR zKS ks ad Psi yX2_isAsExpected (.code yX2_isAsExpected cX2_isAsExpected 3 (some .boolean)) 0 zc_348 :=
  zmet_of hw 0 (by decide) 4000 zk_348 (by decide) (by decide) (fun X => ⟨zg_RX2 X, zp_RX2 X, zl1_RX2 X, zl2_RX2 X, nilz, nilz⟩)
set_option maxRecDepth 100000 in
theorem zk_351 : zmeth zKS zuq zNS zm_351 4000 = true := zqF (zdt0 _) (by decide +kernel)
theorem zM_351 {l : Launch} {D : va_G} {cI cZ cB cJ cR : ClassId} {ks ad : List Nat} {Psi : va_W → Prop} (hw : zworld ks ad zuq zNS Psi) (hm : zMan l D cI cZ cB cJ cR ks ad Psi) : zMet l D cI cZ cB cJ cR zKS ks ad Psi yX3_cut (.code yX3_cut cX3_cut 3 (some .long)) 0 zc_351 :=
  zmet_of hw 0 (by decide) 4000 zk_351 (by decide) (by decide) (fun X => ⟨zg_RX3 X, zp_RX3 X, zl1_RX3 X, zl2_RX3 X, nilz, nilz⟩)
set_option maxRecDepth 100000 in
theorem zk_352 : zmeth zKS zuq zNS zm_352 4000 = true := zqF (zdt0 _) (by decide +kernel)
theorem zM_352 {l : Launch} {D : va_G} {cI cZ cB cJ cR : ClassId} {ks ad : List Nat} {Psi : va_W → Prop} (hw : zworld ks ad zuq zNS Psi) (hm : zMan l D cI cZ cB cJ cR ks ad Psi) : zMet l D cI cZ cB cJ cR zKS ks ad Psi yX3_hasRow (.code yX3_hasRow cX3_hasRow 2 (some .boolean)) 0 zc_352 :=
  zmet_of hw 0 (by decide) 4000 zk_352 (by decide) (by decide) (fun X => ⟨zg_RX3 X, zp_RX3 X, zl1_RX3 X, zl2_RX3 X, nilz, nilz⟩)
set_option maxRecDepth 100000 in
theorem zk_353 : zmeth zKS zuq zNS zm_353 4000 = true := zqF (zdt0 _) (by decide +kernel)
theorem zM_353 {l : Launch} {D : va_G} {cI cZ cB cJ cR : ClassId} {ks ad : List Nat} {Psi : va_W → Prop} (hw : zworld ks ad zuq zNS Psi) (hm : zMan l D cI cZ cB cJ cR ks ad Psi) : zMet l D cI cZ cB cJ cR zKS ks ad Psi yX3_hasRow (.code yX3_hasRow cX3_hasRow 2 (some .boolean)) 0 zc_353 :=
  zmet_of hw 0 (by decide) 4000 zk_353 (by decide) (by decide) (fun X => ⟨zg_RX3 X, zp_RX3 X, zl1_RX3 X, zl2_RX3 X, nilz, nilz⟩)
set_option maxRecDepth 100000 in
theorem zk_354 : zmeth zKS zuq zNS zm_354 4000 = true := zqF (zdt0 _) (by decide +kernel)
theorem zM_354 {l : Launch} {D : va_G} {cI cZ cB cJ cR : ClassId} {ks ad : List Nat} {Psi : va_W → Prop} (hw : zworld ks ad zuq zNS Psi) (hm : zMan l D cI cZ cB cJ cR ks ad Psi) : zMet l D cI cZ cB cJ cR zKS ks ad Psi yX3_hasRow (.code yX3_hasRow cX3_hasRow 2 (some .boolean)) 0 zc_354 :=
  zmet_of hw 0 (by decide) 4000 zk_354 (by decide) (by decide) (fun X => ⟨zg_RX3 X, zp_RX3 X, zl1_RX3 X, zl2_RX3 X, nilz, nilz⟩)
set_option maxRecDepth 100000 in
theorem zk_355 : zmeth zKS zuq zNS zm_355 4000 = true := zqF (zdt0 _) (by decide +kernel)
theorem zM_355 {l : Launch} {D : va_G} {cI cZ cB cJ cR : ClassId} {ks ad : List Nat} {Psi : va_W → Prop} (hw : zworld ks ad zuq zNS Psi) (hm : zMan l D cI cZ cB cJ cR ks ad Psi) : zMet l D cI cZ cB cJ cR zKS ks ad Psi yX3_hasRow (.code yX3_hasRow cX3_hasRow 2 (some .boolean)) 0 zc_355 :=
  zmet_of hw 0 (by decide) 4000 zk_355 (by decide) (by decide) (fun X => ⟨zg_RX3 X, zp_RX3 X, zl1_RX3 X, zl2_RX3 X, nilz, nilz⟩)
set_option maxRecDepth 100000 in
theorem zk_356 : zmeth zKS zuq zNS zm_356 4000 = true := zqF (zdt0 _) (by decide +kernel)
theorem zM_356 {l : Launch} {D : va_G} {cI cZ cB cJ cR : ClassId} {ks ad : List Nat} {Psi : va_W → Prop} (hw : zworld ks ad zuq zNS Psi) (hm : zMan l D cI cZ cB cJ cR ks ad Psi) : zMet l D cI cZ cB cJ cR zKS ks ad Psi yX3_hasRow (.code yX3_hasRow cX3_hasRow 2 (some .boolean)) 0 zc_356 :=
  zmet_of hw 0 (by decide) 4000 zk_356 (by decide) (by decide) (fun X => ⟨zg_RX3 X, zp_RX3 X, zl1_RX3 X, zl2_RX3 X, nilz, nilz⟩)
set_option maxRecDepth 100000 in
theorem zk_357 : zmeth zKS zuq zNS zm_357 4000 = true := zqF (zdt_X3_isSlot) (by decide +kernel)
theorem zM_357 {l : Launch} {D : va_G} {cI cZ cB cJ cR : ClassId} {ks ad : List Nat} {Psi : va_W → Prop} (hw : zworld ks ad zuq zNS Psi) (hm : zMan l D cI cZ cB cJ cR ks ad Psi) : zMet l D cI cZ cB cJ cR zKS ks ad Psi yX3_isSlot (.code yX3_isSlot cX3_isSlot 2 (some .boolean)) 0 zc_357 :=
  zmet_of hw 0 (by decide) 4000 zk_357 (by decide) (by decide) (fun X => ⟨zg_RX3 X, zp_RX3 X, zl1_RX3 X, zl2_RX3 X, nilz, nilz⟩)
set_option maxRecDepth 100000 in
theorem zk_358 : zmeth zKS zuq zNS zm_358 4000 = true := zqF (zdt0 _) (by decide +kernel)
theorem zM_358 {l : Launch} {D : va_G} {cI cZ cB cJ cR : ClassId} {ks ad : List Nat} {Psi : va_W → Prop} (hw : zworld ks ad zuq zNS Psi) (hm : zMan l D cI cZ cB cJ cR ks ad Psi) : zMet l D cI cZ cB cJ cR zKS ks ad Psi yX3_lay (.code yX3_lay cX3_lay 5 none) 0 zc_358 :=
  zmet_of hw 0 (by decide) 4000 zk_358 (by decide) (by decide) (fun X => ⟨zg_RX3 X, zp_RX3 X, zl1_RX3 X, zl2_RX3 X, nilz, nilz⟩)
set_option maxRecDepth 100000 in
theorem zk_359 : zmeth zKS zuq zNS zm_359 4000 = true := zqF (zdt0 _) (by decide +kernel)
theorem zM_359 {l : Launch} {D : va_G} {cI cZ cB cJ cR : ClassId} {ks ad : List Nat} {Psi : va_W → Prop} (hw : zworld ks ad zuq zNS Psi) (hm : zMan l D cI cZ cB cJ cR ks ad Psi) : zMet l D cI cZ cB cJ cR zKS ks ad Psi yX3_manyRows (.code yX3_manyRows cX3_manyRows 3 (some .int)) 0 zc_359 :=
  zmet_of hw 0 (by decide) 4000 zk_359 (by decide) (by decide) (fun X => ⟨zg_RX3 X, zp_RX3 X, zl1_RX3 X, zl2_RX3 X, nilz, nilz⟩)
set_option maxRecDepth 100000 in
theorem zk_360 : zmeth zKS zuq zNS zm_360 4000 = true := zqF (zdt_X3_number) (by decide +kernel)
theorem zM_360 {l : Launch} {D : va_G} {cI cZ cB cJ cR : ClassId} {ks ad : List Nat} {Psi : va_W → Prop} (hw : zworld ks ad zuq zNS Psi) (hm : zMan l D cI cZ cB cJ cR ks ad Psi) : zMet l D cI cZ cB cJ cR zKS ks ad Psi yX3_number (.code yX3_number cX3_number 3 (some .long)) 0 zc_360 :=
  zmet_of hw 0 (by decide) 4000 zk_360 (by decide) (by decide) (fun X => ⟨zg_RX3 X, zp_RX3 X, zl1_RX3 X, zl2_RX3 X, nilz, nilz⟩)
set_option maxRecDepth 100000 in
theorem zk_361 : zmeth zKS zuq zNS zm_361 4000 = true := zqF (zdt_X3_number) (by decide +kernel)
theorem zM_361 {l : Launch} {D : va_G} {cI cZ cB cJ cR : ClassId} {ks ad : List Nat} {Psi : va_W → Prop} (hw : zworld ks ad zuq zNS Psi) (hm : zMan l D cI cZ cB cJ cR ks ad Psi) : zMet l D cI cZ cB cJ cR zKS ks ad Psi yX3_number (.code yX3_number cX3_number 3 (some .long)) 0 zc_361 :=
  zmet_of hw 0 (by decide) 4000 zk_361 (by decide) (by decide) (fun X => ⟨zg_RX3 X, zp_RX3 X, zl1_RX3 X, zl2_RX3 X, nilz, nilz⟩)
set_option maxRecDepth 100000 in
theorem zk_362 : zmeth zKS zuq zNS zm_362 4000 = true := zqF (zdt_X3_number) (by decide +kernel)
theorem zM_362 {l : Launch} {D : va_G} {cI cZ cB cJ cR : ClassId} {ks ad : List Nat} {Psi : va_W → Prop} (hw : zworld ks ad zuq zNS Psi) (hm : zMan l D cI cZ cB cJ cR ks ad Psi) : zMet l D cI cZ cB cJ cR zKS ks ad Psi yX3_number (.code yX3_number cX3_number 3 (some .long)) 0 zc_362 :=
  zmet_of hw 0 (by decide) 4000 zk_362 (by decide) (by decide) (fun X => ⟨zg_RX3 X, zp_RX3 X, zl1_RX3 X, zl2_RX3 X, nilz, nilz⟩)
set_option maxRecDepth 100000 in
theorem zk_363 : zmeth zKS zuq zNS zm_363 4000 = true := zqF (zdt_X3_number) (by decide +kernel)
theorem zM_363 {l : Launch} {D : va_G} {cI cZ cB cJ cR : ClassId} {ks ad : List Nat} {Psi : va_W → Prop} (hw : zworld ks ad zuq zNS Psi) (hm : zMan l D cI cZ cB cJ cR ks ad Psi) : zMet l D cI cZ cB cJ cR zKS ks ad Psi yX3_number (.code yX3_number cX3_number 3 (some .long)) 0 zc_363 :=
  zmet_of hw 0 (by decide) 4000 zk_363 (by decide) (by decide) (fun X => ⟨zg_RX3 X, zp_RX3 X, zl1_RX3 X, zl2_RX3 X, nilz, nilz⟩)
set_option maxRecDepth 100000 in
theorem zk_364 : zmeth zKS zuq zNS zm_364 4000 = true := zqF (zdt_X3_number) (by decide +kernel)
theorem zM_364 {l : Launch} {D : va_G} {cI cZ cB cJ cR : ClassId} {ks ad : List Nat} {Psi : va_W → Prop} (hw : zworld ks ad zuq zNS Psi) (hm : zMan l D cI cZ cB cJ cR ks ad Psi) : zMet l D cI cZ cB cJ cR zKS ks ad Psi yX3_number (.code yX3_number cX3_number 3 (some .long)) 0 zc_364 :=
  zmet_of hw 0 (by decide) 4000 zk_364 (by decide) (by decide) (fun X => ⟨zg_RX3 X, zp_RX3 X, zl1_RX3 X, zl2_RX3 X, nilz, nilz⟩)
set_option maxRecDepth 100000 in
theorem zk_365 : zmeth zKS zuq zNS zm_365 4000 = true := zqF (zdt_X3_number) (by decide +kernel)
theorem zM_365 {l : Launch} {D : va_G} {cI cZ cB cJ cR : ClassId} {ks ad : List Nat} {Psi : va_W → Prop} (hw : zworld ks ad zuq zNS Psi) (hm : zMan l D cI cZ cB cJ cR ks ad Psi) : zMet l D cI cZ cB cJ cR zKS ks ad Psi yX3_number (.code yX3_number cX3_number 3 (some .long)) 0 zc_365 :=
  zmet_of hw 0 (by decide) 4000 zk_365 (by decide) (by decide) (fun X => ⟨zg_RX3 X, zp_RX3 X, zl1_RX3 X, zl2_RX3 X, nilz, nilz⟩)
set_option maxRecDepth 100000 in
theorem zk_366 : zmeth zKS zuq zNS zm_366 4000 = true := zqF (zdt_X3_number) (by decide +kernel)
theorem zM_366 {l : Launch} {D : va_G} {cI cZ cB cJ cR : ClassId} {ks ad : List Nat} {Psi : va_W → Prop} (hw : zworld ks ad zuq zNS Psi) (hm : zMan l D cI cZ cB cJ cR ks ad Psi) : zMet l D cI cZ cB cJ cR zKS ks ad Psi yX3_number (.code yX3_number cX3_number 3 (some .long)) 0 zc_366 :=
  zmet_of hw 0 (by decide) 4000 zk_366 (by decide) (by decide) (fun X => ⟨zg_RX3 X, zp_RX3 X, zl1_RX3 X, zl2_RX3 X, nilz, nilz⟩)
set_option maxRecDepth 100000 in
theorem zk_367 : zmeth zKS zuq zNS zm_367 4000 = true := zqF (zdt_X3_number) (by decide +kernel)
theorem zM_367 {l : Launch} {D : va_G} {cI cZ cB cJ cR : ClassId} {ks ad : List Nat} {Psi : va_W → Prop} (hw : zworld ks ad zuq zNS Psi) (hm : zMan l D cI cZ cB cJ cR ks ad Psi) : zMet l D cI cZ cB cJ cR zKS ks ad Psi yX3_number (.code yX3_number cX3_number 3 (some .long)) 0 zc_367 :=
  zmet_of hw 0 (by decide) 4000 zk_367 (by decide) (by decide) (fun X => ⟨zg_RX3 X, zp_RX3 X, zl1_RX3 X, zl2_RX3 X, nilz, nilz⟩)
set_option maxRecDepth 100000 in
theorem zk_368 : zmeth zKS zuq zNS zm_368 4000 = true := zqF (zdt_X3_number) (by decide +kernel)
theorem zM_368 {l : Launch} {D : va_G} {cI cZ cB cJ cR : ClassId} {ks ad : List Nat} {Psi : va_W → Prop} (hw : zworld ks ad zuq zNS Psi) (hm : zMan l D cI cZ cB cJ cR ks ad Psi) : zMet l D cI cZ cB cJ cR zKS ks ad Psi yX3_number (.code yX3_number cX3_number 3 (some .long)) 0 zc_368 :=
  zmet_of hw 0 (by decide) 4000 zk_368 (by decide) (by decide) (fun X => ⟨zg_RX3 X, zp_RX3 X, zl1_RX3 X, zl2_RX3 X, nilz, nilz⟩)
set_option maxRecDepth 100000 in
theorem zk_369 : zmeth zKS zuq zNS zm_369 4000 = true := zqF (zdt_X3_number) (by decide +kernel)
theorem zM_369 {l : Launch} {D : va_G} {cI cZ cB cJ cR : ClassId} {ks ad : List Nat} {Psi : va_W → Prop} (hw : zworld ks ad zuq zNS Psi) (hm : zMan l D cI cZ cB cJ cR ks ad Psi) : zMet l D cI cZ cB cJ cR zKS ks ad Psi yX3_number (.code yX3_number cX3_number 3 (some .long)) 0 zc_369 :=
  zmet_of hw 0 (by decide) 4000 zk_369 (by decide) (by decide) (fun X => ⟨zg_RX3 X, zp_RX3 X, zl1_RX3 X, zl2_RX3 X, nilz, nilz⟩)
set_option maxRecDepth 100000 in
theorem zk_370 : zmeth zKS zuq zNS zm_370 4000 = true := zqF (zdt_X3_number) (by decide +kernel)
theorem zM_370 {l : Launch} {D : va_G} {cI cZ cB cJ cR : ClassId} {ks ad : List Nat} {Psi : va_W → Prop} (hw : zworld ks ad zuq zNS Psi) (hm : zMan l D cI cZ cB cJ cR ks ad Psi) : zMet l D cI cZ cB cJ cR zKS ks ad Psi yX3_number (.code yX3_number cX3_number 3 (some .long)) 0 zc_370 :=
  zmet_of hw 0 (by decide) 4000 zk_370 (by decide) (by decide) (fun X => ⟨zg_RX3 X, zp_RX3 X, zl1_RX3 X, zl2_RX3 X, nilz, nilz⟩)
set_option maxRecDepth 100000 in
theorem zk_371 : zmeth zKS zuq zNS zm_371 4000 = true := zqF (zdt_X3_number) (by decide +kernel)
theorem zM_371 {l : Launch} {D : va_G} {cI cZ cB cJ cR : ClassId} {ks ad : List Nat} {Psi : va_W → Prop} (hw : zworld ks ad zuq zNS Psi) (hm : zMan l D cI cZ cB cJ cR ks ad Psi) : zMet l D cI cZ cB cJ cR zKS ks ad Psi yX3_number (.code yX3_number cX3_number 3 (some .long)) 0 zc_371 :=
  zmet_of hw 0 (by decide) 4000 zk_371 (by decide) (by decide) (fun X => ⟨zg_RX3 X, zp_RX3 X, zl1_RX3 X, zl2_RX3 X, nilz, nilz⟩)
set_option maxRecDepth 100000 in
theorem zk_372 : zmeth zKS zuq zNS zm_372 4000 = true := zqF (zdt_X3_number) (by decide +kernel)
theorem zM_372 {l : Launch} {D : va_G} {cI cZ cB cJ cR : ClassId} {ks ad : List Nat} {Psi : va_W → Prop} (hw : zworld ks ad zuq zNS Psi) (hm : zMan l D cI cZ cB cJ cR ks ad Psi) : zMet l D cI cZ cB cJ cR zKS ks ad Psi yX3_number (.code yX3_number cX3_number 3 (some .long)) 0 zc_372 :=
  zmet_of hw 0 (by decide) 4000 zk_372 (by decide) (by decide) (fun X => ⟨zg_RX3 X, zp_RX3 X, zl1_RX3 X, zl2_RX3 X, nilz, nilz⟩)
set_option maxRecDepth 100000 in
theorem zk_373 : zmeth zKS zuq zNS zm_373 4000 = true := zqF (zdt_X3_number) (by decide +kernel)
theorem zM_373 {l : Launch} {D : va_G} {cI cZ cB cJ cR : ClassId} {ks ad : List Nat} {Psi : va_W → Prop} (hw : zworld ks ad zuq zNS Psi) (hm : zMan l D cI cZ cB cJ cR ks ad Psi) : zMet l D cI cZ cB cJ cR zKS ks ad Psi yX3_number (.code yX3_number cX3_number 3 (some .long)) 0 zc_373 :=
  zmet_of hw 0 (by decide) 4000 zk_373 (by decide) (by decide) (fun X => ⟨zg_RX3 X, zp_RX3 X, zl1_RX3 X, zl2_RX3 X, nilz, nilz⟩)
set_option maxRecDepth 100000 in
theorem zk_374 : zmeth zKS zuq zNS zm_374 4000 = true := zqF (zdt_X3_number) (by decide +kernel)
theorem zM_374 {l : Launch} {D : va_G} {cI cZ cB cJ cR : ClassId} {ks ad : List Nat} {Psi : va_W → Prop} (hw : zworld ks ad zuq zNS Psi) (hm : zMan l D cI cZ cB cJ cR ks ad Psi) : zMet l D cI cZ cB cJ cR zKS ks ad Psi yX3_number (.code yX3_number cX3_number 3 (some .long)) 0 zc_374 :=
  zmet_of hw 0 (by decide) 4000 zk_374 (by decide) (by decide) (fun X => ⟨zg_RX3 X, zp_RX3 X, zl1_RX3 X, zl2_RX3 X, nilz, nilz⟩)
