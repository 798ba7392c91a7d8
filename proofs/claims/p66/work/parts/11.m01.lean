set_option maxRecDepth 100000 in
theorem zk_319 : zmeth zKS zuq zNS zm_319 4000 = true := by decide +kernel
theorem zM_319 {l : Launch} {D : va_G} {cI cZ cB cJ cR : ClassId} {ks ad : List Nat} {Psi : va_W → Prop} (hw : zworld ks ad zuq zNS Psi) (hm : zMan l D cI cZ cB cJ cR ks ad Psi) : zMet l D cI cZ cB cJ cR zKS ks ad Psi yX3_number (.code yX3_number cX3_number 3 (some .long)) 0 zc_319 :=
  zmet_of hw 0 (by decide) 4000 zk_319 (by decide) (by decide) (fun X => ⟨zg_RX3 X, zp_RX3 X, zl1_RX3 X, zl2_RX3 X, nilz, nilz⟩)
set_option maxRecDepth 100000 in
theorem zk_320 : zmeth zKS zuq zNS zm_320 4000 = true := by decide +kernel
theorem zM_320 {l : Launch} {D : va_G} {cI cZ cB cJ cR : ClassId} {ks ad : List Nat} {Psi : va_W → Prop} (hw : zworld ks ad zuq zNS Psi) (hm : zMan l D cI cZ cB cJ cR ks ad Psi) : zMet l D cI cZ cB cJ cR zKS ks ad Psi yX3_number (.code yX3_number cX3_number 3 (some .long)) 0 zc_320 :=
  zmet_of hw 0 (by decide) 4000 zk_320 (by decide) (by decide) (fun X => ⟨zg_RX3 X, zp_RX3 X, zl1_RX3 X, zl2_RX3 X, nilz, nilz⟩)
set_option maxRecDepth 100000 in
theorem zk_321 : zmeth zKS zuq zNS zm_321 4000 = true := by decide +kernel
theorem zM_321 {l : Launch} {D : va_G} {cI cZ cB cJ cR : ClassId} {ks ad : List Nat} {Psi : va_W → Prop} (hw : zworld ks ad zuq zNS Psi) (hm : zMan l D cI cZ cB cJ cR ks ad Psi) : zMet l D cI cZ cB cJ cR zKS ks ad Psi yX3_number (.code yX3_number cX3_number 3 (some .long)) 0 zc_321 :=
  zmet_of hw 0 (by decide) 4000 zk_321 (by decide) (by decide) (fun X => ⟨zg_RX3 X, zp_RX3 X, zl1_RX3 X, zl2_RX3 X, nilz, nilz⟩)
set_option maxRecDepth 100000 in
theorem zk_322 : zmeth zKS zuq zNS zm_322 4000 = true := by decide +kernel
theorem zM_322 {l : Launch} {D : va_G} {cI cZ cB cJ cR : ClassId} {ks ad : List Nat} {Psi : va_W → Prop} (hw : zworld ks ad zuq zNS Psi) (hm : zMan l D cI cZ cB cJ cR ks ad Psi) : zMet l D cI cZ cB cJ cR zKS ks ad Psi yX3_number (.code yX3_number cX3_number 3 (some .long)) 0 zc_322 :=
  zmet_of hw 0 (by decide) 4000 zk_322 (by decide) (by decide) (fun X => ⟨zg_RX3 X, zp_RX3 X, zl1_RX3 X, zl2_RX3 X, nilz, nilz⟩)
set_option maxRecDepth 100000 in
theorem zk_323 : zmeth zKS zuq zNS zm_323 4000 = true := by decide +kernel
theorem zM_323 {l : Launch} {D : va_G} {cI cZ cB cJ cR : ClassId} {ks ad : List Nat} {Psi : va_W → Prop} (hw : zworld ks ad zuq zNS Psi) (hm : zMan l D cI cZ cB cJ cR ks ad Psi) : zMet l D cI cZ cB cJ cR zKS ks ad Psi yX3_number (.code yX3_number cX3_number 3 (some .long)) 0 zc_323 :=
  zmet_of hw 0 (by decide) 4000 zk_323 (by decide) (by decide) (fun X => ⟨zg_RX3 X, zp_RX3 X, zl1_RX3 X, zl2_RX3 X, nilz, nilz⟩)
set_option maxRecDepth 100000 in
theorem zk_324 : zmeth zKS zuq zNS zm_324 4000 = true := by decide +kernel
theorem zM_324 {l : Launch} {D : va_G} {cI cZ cB cJ cR : ClassId} {ks ad : List Nat} {Psi : va_W → Prop} (hw : zworld ks ad zuq zNS Psi) (hm : zMan l D cI cZ cB cJ cR ks ad Psi) : zMet l D cI cZ cB cJ cR zKS ks ad Psi yX3_number (.code yX3_number cX3_number 3 (some .long)) 0 zc_324 :=
  zmet_of hw 0 (by decide) 4000 zk_324 (by decide) (by decide) (fun X => ⟨zg_RX3 X, zp_RX3 X, zl1_RX3 X, zl2_RX3 X, nilz, nilz⟩)
set_option maxRecDepth 100000 in
theorem zk_325 : zmeth zKS zuq zNS zm_325 4000 = true := by decide +kernel
theorem zM_325 {l : Launch} {D : va_G} {cI cZ cB cJ cR : ClassId} {ks ad : List Nat} {Psi : va_W → Prop} (hw : zworld ks ad zuq zNS Psi) (hm : zMan l D cI cZ cB cJ cR ks ad Psi) : zMet l D cI cZ cB cJ cR zKS ks ad Psi yX3_number (.code yX3_number cX3_number 3 (some .long)) 0 zc_325 :=
  zmet_of hw 0 (by decide) 4000 zk_325 (by decide) (by decide) (fun X => ⟨zg_RX3 X, zp_RX3 X, zl1_RX3 X, zl2_RX3 X, nilz, nilz⟩)
set_option maxRecDepth 100000 in
theorem zk_326 : zmeth zKS zuq zNS zm_326 4000 = true := by decide +kernel
theorem zM_326 {l : Launch} {D : va_G} {cI cZ cB cJ cR : ClassId} {ks ad : List Nat} {Psi : va_W → Prop} (hw : zworld ks ad zuq zNS Psi) (hm : zMan l D cI cZ cB cJ cR ks ad Psi) : zMet l D cI cZ cB cJ cR zKS ks ad Psi yX3_number (.code yX3_number cX3_number 3 (some .long)) 0 zc_326 :=
  zmet_of hw 0 (by decide) 4000 zk_326 (by decide) (by decide) (fun X => ⟨zg_RX3 X, zp_RX3 X, zl1_RX3 X, zl2_RX3 X, nilz, nilz⟩)
set_option maxRecDepth 100000 in
theorem zk_327 : zmeth zKS zuq zNS zm_327 4000 = true := by decide +kernel
theorem zM_327 {l : Launch} {D : va_G} {cI cZ cB cJ cR : ClassId} {ks ad : List Nat} {Psi : va_W → Prop} (hw : zworld ks ad zuq zNS Psi) (hm : zMan l D cI cZ cB cJ cR ks ad Psi) : zMet l D cI cZ cB cJ cR zKS ks ad Psi yX3_number (.code yX3_number cX3_number 3 (some .long)) 0 zc_327 :=
  zmet_of hw 0 (by decide) 4000 zk_327 (by decide) (by decide) (fun X => ⟨zg_RX3 X, zp_RX3 X, zl1_RX3 X, zl2_RX3 X, nilz, nilz⟩)
set_option maxRecDepth 100000 in
theorem zk_328 : zmeth zKS zuq zNS zm_328 4000 = true := by decide +kernel
theorem zM_328 {l : Launch} {D : va_G} {cI cZ cB cJ cR : ClassId} {ks ad : List Nat} {Psi : va_W → Prop} (hw : zworld ks ad zuq zNS Psi) (hm : zMan l D cI cZ cB cJ cR ks ad Psi) : zMet l D cI cZ cB cJ cR zKS ks ad Psi yX3_number (.code yX3_number cX3_number 3 (some .long)) 0 zc_328 :=
  zmet_of hw 0 (by decide) 4000 zk_328 (by decide) (by decide) (fun X => ⟨zg_RX3 X, zp_RX3 X, zl1_RX3 X, zl2_RX3 X, nilz, nilz⟩)
set_option maxRecDepth 100000 in
theorem zk_329 : zmeth zKS zuq zNS zm_329 4000 = true := by decide +kernel
theorem zM_329 {l : Launch} {D : va_G} {cI cZ cB cJ cR : ClassId} {ks ad : List Nat} {Psi : va_W → Prop} (hw : zworld ks ad zuq zNS Psi) (hm : zMan l D cI cZ cB cJ cR ks ad Psi) : zMet l D cI cZ cB cJ cR zKS ks ad Psi yX3_number (.code yX3_number cX3_number 3 (some .long)) 0 zc_329 :=
  zmet_of hw 0 (by decide) 4000 zk_329 (by decide) (by decide) (fun X => ⟨zg_RX3 X, zp_RX3 X, zl1_RX3 X, zl2_RX3 X, nilz, nilz⟩)
set_option maxRecDepth 100000 in
theorem zk_330 : zmeth zKS zuq zNS zm_330 4000 = true := by decide +kernel
theorem zM_330 {l : Launch} {D : va_G} {cI cZ cB cJ cR : ClassId} {ks ad : List Nat} {Psi : va_W → Prop} (hw : zworld ks ad zuq zNS Psi) (hm : zMan l D cI cZ cB cJ cR ks ad Psi) : zMet l D cI cZ cB cJ cR zKS ks ad Psi yX3_number (.code yX3_number cX3_number 3 (some .long)) 0 zc_330 :=
  zmet_of hw 0 (by decide) 4000 zk_330 (by decide) (by decide) (fun X => ⟨zg_RX3 X, zp_RX3 X, zl1_RX3 X, zl2_RX3 X, nilz, nilz⟩)
set_option maxRecDepth 100000 in
theorem zk_331 : zmeth zKS zuq zNS zm_331 4000 = true := by decide +kernel
theorem zM_331 {l : Launch} {D : va_G} {cI cZ cB cJ cR : ClassId} {ks ad : List Nat} {Psi : va_W → Prop} (hw : zworld ks ad zuq zNS Psi) (hm : zMan l D cI cZ cB cJ cR ks ad Psi) : zMet l D cI cZ cB cJ cR zKS ks ad Psi yX3_number (.code yX3_number cX3_number 3 (some .long)) 0 zc_331 :=
  zmet_of hw 0 (by decide) 4000 zk_331 (by decide) (by decide) (fun X => ⟨zg_RX3 X, zp_RX3 X, zl1_RX3 X, zl2_RX3 X, nilz, nilz⟩)
set_option maxRecDepth 100000 in
theorem zk_332 : zmeth zKS zuq zNS zm_332 4000 = true := by decide +kernel
theorem zM_332 {l : Launch} {D : va_G} {cI cZ cB cJ cR : ClassId} {ks ad : List Nat} {Psi : va_W → Prop} (hw : zworld ks ad zuq zNS Psi) (hm : zMan l D cI cZ cB cJ cR ks ad Psi) : zMet l D cI cZ cB cJ cR zKS ks ad Psi yX3_number (.code yX3_number cX3_number 3 (some .long)) 0 zc_332 :=
  zmet_of hw 0 (by decide) 4000 zk_332 (by decide) (by decide) (fun X => ⟨zg_RX3 X, zp_RX3 X, zl1_RX3 X, zl2_RX3 X, nilz, nilz⟩)
set_option maxRecDepth 100000 in
theorem zk_333 : zmeth zKS zuq zNS zm_333 4000 = true := by decide +kernel
theorem zM_333 {l : Launch} {D : va_G} {cI cZ cB cJ cR : ClassId} {ks ad : List Nat} {Psi : va_W → Prop} (hw : zworld ks ad zuq zNS Psi) (hm : zMan l D cI cZ cB cJ cR ks ad Psi) : zMet l D cI cZ cB cJ cR zKS ks ad Psi yX3_number (.code yX3_number cX3_number 3 (some .long)) 0 zc_333 :=
  zmet_of hw 0 (by decide) 4000 zk_333 (by decide) (by decide) (fun X => ⟨zg_RX3 X, zp_RX3 X, zl1_RX3 X, zl2_RX3 X, nilz, nilz⟩)
set_option maxRecDepth 100000 in
theorem zk_334 : zmeth zKS zuq zNS zm_334 4000 = true := by decide +kernel
theorem zM_334 {l : Launch} {D : va_G} {cI cZ cB cJ cR : ClassId} {ks ad : List Nat} {Psi : va_W → Prop} (hw : zworld ks ad zuq zNS Psi) (hm : zMan l D cI cZ cB cJ cR ks ad Psi) : zMet l D cI cZ cB cJ cR zKS ks ad Psi yX3_number (.code yX3_number cX3_number 3 (some .long)) 0 zc_334 :=
  zmet_of hw 0 (by decide) 4000 zk_334 (by decide) (by decide) (fun X => ⟨zg_RX3 X, zp_RX3 X, zl1_RX3 X, zl2_RX3 X, nilz, nilz⟩)
set_option maxRecDepth 100000 in
theorem zk_335 : zmeth zKS zuq zNS zm_335 4000 = true := by decide +kernel
theorem zM_335 {l : Launch} {D : va_G} {cI cZ cB cJ cR : ClassId} {ks ad : List Nat} {Psi : va_W → Prop} (hw : zworld ks ad zuq zNS Psi) (hm : zMan l D cI cZ cB cJ cR ks ad Psi) : zMet l D cI cZ cB cJ cR zKS ks ad Psi yX3_number (.code yX3_number cX3_number 3 (some .long)) 0 zc_335 :=
  zmet_of hw 0 (by decide) 4000 zk_335 (by decide) (by decide) (fun X => ⟨zg_RX3 X, zp_RX3 X, zl1_RX3 X, zl2_RX3 X, nilz, nilz⟩)
set_option maxRecDepth 100000 in
theorem zk_336 : zmeth zKS zuq zNS zm_336 4000 = true := by decide +kernel
theorem zM_336 {l : Launch} {D : va_G} {cI cZ cB cJ cR : ClassId} {ks ad : List Nat} {Psi : va_W → Prop} (hw : zworld ks ad zuq zNS Psi) (hm : zMan l D cI cZ cB cJ cR ks ad Psi) : zMet l D cI cZ cB cJ cR zKS ks ad Psi yX3_number (.code yX3_number cX3_number 3 (some .long)) 0 zc_336 :=
  zmet_of hw 0 (by decide) 4000 zk_336 (by decide) (by decide) (fun X => ⟨zg_RX3 X, zp_RX3 X, zl1_RX3 X, zl2_RX3 X, nilz, nilz⟩)
set_option maxRecDepth 100000 in
theorem zk_337 : zmeth zKS zuq zNS zm_337 4000 = true := by decide +kernel
theorem zM_337 {l : Launch} {D : va_G} {cI cZ cB cJ cR : ClassId} {ks ad : List Nat} {Psi : va_W → Prop} (hw : zworld ks ad zuq zNS Psi) (hm : zMan l D cI cZ cB cJ cR ks ad Psi) : zMet l D cI cZ cB cJ cR zKS ks ad Psi yX3_number (.code yX3_number cX3_number 3 (some .long)) 0 zc_337 :=
  zmet_of hw 0 (by decide) 4000 zk_337 (by decide) (by decide) (fun X => ⟨zg_RX3 X, zp_RX3 X, zl1_RX3 X, zl2_RX3 X, nilz, nilz⟩)
set_option maxRecDepth 100000 in
theorem zk_338 : zmeth zKS zuq zNS zm_338 4000 = true := by decide +kernel
theorem zM_338 {l : Launch} {D : va_G} {cI cZ cB cJ cR : ClassId} {ks ad : List Nat} {Psi : va_W → Prop} (hw : zworld ks ad zuq zNS Psi) (hm : zMan l D cI cZ cB cJ cR ks ad Psi) : zMet l D cI cZ cB cJ cR zKS ks ad Psi yX3_number (.code yX3_number cX3_number 3 (some .long)) 0 zc_338 :=
  zmet_of hw 0 (by decide) 4000 zk_338 (by decide) (by decide) (fun X => ⟨zg_RX3 X, zp_RX3 X, zl1_RX3 X, zl2_RX3 X, nilz, nilz⟩)
set_option maxRecDepth 100000 in
theorem zk_339 : zmeth zKS zuq zNS zm_339 4000 = true := by decide +kernel
theorem zM_339 {l : Launch} {D : va_G} {cI cZ cB cJ cR : ClassId} {ks ad : List Nat} {Psi : va_W → Prop} (hw : zworld ks ad zuq zNS Psi) (hm : zMan l D cI cZ cB cJ cR ks ad Psi) : zMet l D cI cZ cB cJ cR zKS ks ad Psi yX3_number (.code yX3_number cX3_number 3 (some .long)) 0 zc_339 :=
  zmet_of hw 0 (by decide) 4000 zk_339 (by decide) (by decide) (fun X => ⟨zg_RX3 X, zp_RX3 X, zl1_RX3 X, zl2_RX3 X, nilz, nilz⟩)
set_option maxRecDepth 100000 in
theorem zk_340 : zmeth zKS zuq zNS zm_340 4000 = true := by decide +kernel
theorem zM_340 {l : Launch} {D : va_G} {cI cZ cB cJ cR : ClassId} {ks ad : List Nat} {Psi : va_W → Prop} (hw : zworld ks ad zuq zNS Psi) (hm : zMan l D cI cZ cB cJ cR ks ad Psi) : zMet l D cI cZ cB cJ cR zKS ks ad Psi yX3_number (.code yX3_number cX3_number 3 (some .long)) 0 zc_340 :=
  zmet_of hw 0 (by decide) 4000 zk_340 (by decide) (by decide) (fun X => ⟨zg_RX3 X, zp_RX3 X, zl1_RX3 X, zl2_RX3 X, nilz, nilz⟩)
set_option maxRecDepth 100000 in
theorem zk_341 : zmeth zKS zuq zNS zm_341 4000 = true := by decide +kernel
theorem zM_341 {l : Launch} {D : va_G} {cI cZ cB cJ cR : ClassId} {ks ad : List Nat} {Psi : va_W → Prop} (hw : zworld ks ad zuq zNS Psi) (hm : zMan l D cI cZ cB cJ cR ks ad Psi) : zMet l D cI cZ cB cJ cR zKS ks ad Psi yX3_number (.code yX3_number cX3_number 3 (some .long)) 0 zc_341 :=
  zmet_of hw 0 (by decide) 4000 zk_341 (by decide) (by decide) (fun X => ⟨zg_RX3 X, zp_RX3 X, zl1_RX3 X, zl2_RX3 X, nilz, nilz⟩)
set_option maxRecDepth 100000 in
theorem zk_342 : zmeth zKS zuq zNS zm_342 4000 = true := by decide +kernel
theorem zM_342 {l : Launch} {D : va_G} {cI cZ cB cJ cR : ClassId} {ks ad : List Nat} {Psi : va_W → Prop} (hw : zworld ks ad zuq zNS Psi) (hm : zMan l D cI cZ cB cJ cR ks ad Psi) : zMet l D cI cZ cB cJ cR zKS ks ad Psi yX3_number (.code yX3_number cX3_number 3 (some .long)) 0 zc_342 :=
  zmet_of hw 0 (by decide) 4000 zk_342 (by decide) (by decide) (fun X => ⟨zg_RX3 X, zp_RX3 X, zl1_RX3 X, zl2_RX3 X, nilz, nilz⟩)
set_option maxRecDepth 100000 in
theorem zk_343 : zmeth zKS zuq zNS zm_343 4000 = true := by decide +kernel
theorem zM_343 {l : Launch} {D : va_G} {cI cZ cB cJ cR : ClassId} {ks ad : List Nat} {Psi : va_W → Prop} (hw : zworld ks ad zuq zNS Psi) (hm : zMan l D cI cZ cB cJ cR ks ad Psi) : zMet l D cI cZ cB cJ cR zKS ks ad Psi yX3_number (.code yX3_number cX3_number 3 (some .long)) 0 zc_343 :=
  zmet_of hw 0 (by decide) 4000 zk_343 (by decide) (by decide) (fun X => ⟨zg_RX3 X, zp_RX3 X, zl1_RX3 X, zl2_RX3 X, nilz, nilz⟩)
set_option maxRecDepth 100000 in
theorem zk_344 : zmeth zKS zuq zNS zm_344 4000 = true := by decide +kernel
theorem zM_344 {l : Launch} {D : va_G} {cI cZ cB cJ cR : ClassId} {ks ad : List Nat} {Psi : va_W → Prop} (hw : zworld ks ad zuq zNS Psi) (hm : zMan l D cI cZ cB cJ cR ks ad Psi) : zMet l D cI cZ cB cJ cR zKS ks ad Psi yX3_number (.code yX3_number cX3_number 3 (some .long)) 0 zc_344 :=
  zmet_of hw 0 (by decide) 4000 zk_344 (by decide) (by decide) (fun X => ⟨zg_RX3 X, zp_RX3 X, zl1_RX3 X, zl2_RX3 X, nilz, nilz⟩)
set_option maxRecDepth 100000 in
theorem zk_345 : zmeth zKS zuq zNS zm_345 4000 = true := by decide +kernel
theorem zM_345 {l : Launch} {D : va_G} {cI cZ cB cJ cR : ClassId} {ks ad : List Nat} {Psi : va_W → Prop} (hw : zworld ks ad zuq zNS Psi) (hm : zMan l D cI cZ cB cJ cR ks ad Psi) : zMet l D cI cZ cB cJ cR zKS ks ad Psi yX3_number (.code yX3_number cX3_number 3 (some .long)) 0 zc_345 :=
  zmet_of hw 0 (by decide) 4000 zk_345 (by decide) (by decide) (fun X => ⟨zg_RX3 X, zp_RX3 X, zl1_RX3 X, zl2_RX3 X, nilz, nilz⟩)
set_option maxRecDepth 100000 in
theorem zk_346 : zmeth zKS zuq zNS zm_346 4000 = true := by decide +kernel
theorem zM_346 {l : Launch} {D : va_G} {cI cZ cB cJ cR : ClassId} {ks ad : List Nat} {Psi : va_W → Prop} (hw : zworld ks ad zuq zNS Psi) (hm : zMan l D cI cZ cB cJ cR ks ad Psi) : zMet l D cI cZ cB cJ cR zKS ks ad Psi yX3_number (.code yX3_number cX3_number 3 (some .long)) 0 zc_346 :=
  zmet_of hw 0 (by decide) 4000 zk_346 (by decide) (by decide) (fun X => ⟨zg_RX3 X, zp_RX3 X, zl1_RX3 X, zl2_RX3 X, nilz, nilz⟩)
set_option maxRecDepth 100000 in
theorem zk_347 : zmeth zKS zuq zNS zm_347 4000 = true := by decide +kernel
theorem zM_347 {l : Launch} {D : va_G} {cI cZ cB cJ cR : ClassId} {ks ad : List Nat} {Psi : va_W → Prop} (hw : zworld ks ad zuq zNS Psi) (hm : zMan l D cI cZ cB cJ cR ks ad Psi) : zMet l D cI cZ cB cJ cR zKS ks ad Psi yX3_number (.code yX3_number cX3_number 3 (some .long)) 0 zc_347 :=
  zmet_of hw 0 (by decide) 4000 zk_347 (by decide) (by decide) (fun X => ⟨zg_RX3 X, zp_RX3 X, zl1_RX3 X, zl2_RX3 X, nilz, nilz⟩)
set_option maxRecDepth 100000 in
theorem zk_348 : zmeth zKS zuq zNS zm_348 4000 = true := by decide +kernel
theorem zM_348 {l : Launch} {D : va_G} {cI cZ cB cJ cR : ClassId} {ks ad : List Nat} {Psi : va_W → Prop} (hw : zworld ks ad zuq zNS Psi) (hm : zMan l D cI cZ cB cJ cR ks ad Psi) : zMet l D cI cZ cB cJ cR zKS ks ad Psi yX3_number (.code yX3_number cX3_number 3 (some .long)) 0 zc_348 :=
  zmet_of hw 0 (by decide) 4000 zk_348 (by decide) (by decide) (fun X => ⟨zg_RX3 X, zp_RX3 X, zl1_RX3 X, zl2_RX3 X, nilz, nilz⟩)
set_option maxRecDepth 100000 in
theorem zk_349 : zmeth zKS zuq zNS zm_349 4000 = true := by decide +kernel
theorem zM_349 {l : Launch} {D : va_G} {cI cZ cB cJ cR : ClassId} {ks ad : List Nat} {Psi : va_W → Prop} (hw : zworld ks ad zuq zNS Psi) (hm : zMan l D cI cZ cB cJ cR ks ad Psi) : zMet l D cI cZ cB cJ cR zKS ks ad Psi yX3_number (.code yX3_number cX3_number 3 (some .long)) 0 zc_349 :=
  zmet_of hw 0 (by decide) 4000 zk_349 (by decide) (by decide) (fun X => ⟨zg_RX3 X, zp_RX3 X, zl1_RX3 X, zl2_RX3 X, nilz, nilz⟩)
set_option maxRecDepth 100000 in
theorem zk_350 : zmeth zKS zuq zNS zm_350 4000 = true := by decide +kernel
theorem zM_350 {l : Launch} {D : va_G} {cI cZ cB cJ cR : ClassId} {ks ad : List Nat} {Psi : va_W → Prop} (hw : zworld ks ad zuq zNS Psi) (hm : zMan l D cI cZ cB cJ cR ks ad Psi) : zMet l D cI cZ cB cJ cR zKS ks ad Psi yX3_number (.code yX3_number cX3_number 3 (some .long)) 0 zc_350 :=
  zmet_of hw 0 (by decide) 4000 zk_350 (by decide) (by decide) (fun X => ⟨zg_RX3 X, zp_RX3 X, zl1_RX3 X, zl2_RX3 X, nilz, nilz⟩)
set_option maxRecDepth 100000 in
theorem zk_351 : zmeth zKS zuq zNS zm_351 4000 = true := by decide +kernel
theorem zM_351 {l : Launch} {D : va_G} {cI cZ cB cJ cR : ClassId} {ks ad : List Nat} {Psi : va_W → Prop} (hw : zworld ks ad zuq zNS Psi) (hm : zMan l D cI cZ cB cJ cR ks ad Psi) : zMet l D cI cZ cB cJ cR zKS ks ad Psi yX3_number (.code yX3_number cX3_number 3 (some .long)) 0 zc_351 :=
  zmet_of hw 0 (by decide) 4000 zk_351 (by decide) (by decide) (fun X => ⟨zg_RX3 X, zp_RX3 X, zl1_RX3 X, zl2_RX3 X, nilz, nilz⟩)
set_option maxRecDepth 100000 in
theorem zk_352 : zmeth zKS zuq zNS zm_352 4000 = true := by decide +kernel
theorem zM_352 {l : Launch} {D : va_G} {cI cZ cB cJ cR : ClassId} {ks ad : List Nat} {Psi : va_W → Prop} (hw : zworld ks ad zuq zNS Psi) (hm : zMan l D cI cZ cB cJ cR ks ad Psi) : zMet l D cI cZ cB cJ cR zKS ks ad Psi yX3_number (.code yX3_number cX3_number 3 (some .long)) 0 zc_352 :=
  zmet_of hw 0 (by decide) 4000 zk_352 (by decide) (by decide) (fun X => ⟨zg_RX3 X, zp_RX3 X, zl1_RX3 X, zl2_RX3 X, nilz, nilz⟩)
set_option maxRecDepth 100000 in
theorem zk_353 : zmeth zKS zuq zNS zm_353 4000 = true := by decide +kernel
theorem zM_353 {l : Launch} {D : va_G} {cI cZ cB cJ cR : ClassId} {ks ad : List Nat} {Psi : va_W → Prop} (hw : zworld ks ad zuq zNS Psi) (hm : zMan l D cI cZ cB cJ cR ks ad Psi) : zMet l D cI cZ cB cJ cR zKS ks ad Psi yX3_number (.code yX3_number cX3_number 3 (some .long)) 0 zc_353 :=
  zmet_of hw 0 (by decide) 4000 zk_353 (by decide) (by decide) (fun X => ⟨zg_RX3 X, zp_RX3 X, zl1_RX3 X, zl2_RX3 X, nilz, nilz⟩)
set_option maxRecDepth 100000 in
theorem zk_354 : zmeth zKS zuq zNS zm_354 4000 = true := by decide +kernel
theorem zM_354 {l : Launch} {D : va_G} {cI cZ cB cJ cR : ClassId} {ks ad : List Nat} {Psi : va_W → Prop} (hw : zworld ks ad zuq zNS Psi) (hm : zMan l D cI cZ cB cJ cR ks ad Psi) : zMet l D cI cZ cB cJ cR zKS ks ad Psi yX3_number (.code yX3_number cX3_number 3 (some .long)) 0 zc_354 :=
  zmet_of hw 0 (by decide) 4000 zk_354 (by decide) (by decide) (fun X => ⟨zg_RX3 X, zp_RX3 X, zl1_RX3 X, zl2_RX3 X, nilz, nilz⟩)
set_option maxRecDepth 100000 in
theorem zk_355 : zmeth zKS zuq zNS zm_355 4000 = true := by decide +kernel
theorem zM_355 {l : Launch} {D : va_G} {cI cZ cB cJ cR : ClassId} {ks ad : List Nat} {Psi : va_W → Prop} (hw : zworld ks ad zuq zNS Psi) (hm : zMan l D cI cZ cB cJ cR ks ad Psi) : zMet l D cI cZ cB cJ cR zKS ks ad Psi yX3_number (.code yX3_number cX3_number 3 (some .long)) 0 zc_355 :=
  zmet_of hw 0 (by decide) 4000 zk_355 (by decide) (by decide) (fun X => ⟨zg_RX3 X, zp_RX3 X, zl1_RX3 X, zl2_RX3 X, nilz, nilz⟩)
set_option maxRecDepth 100000 in
theorem zk_356 : zmeth zKS zuq zNS zm_356 4000 = true := by decide +kernel
theorem zM_356 {l : Launch} {D : va_G} {cI cZ cB cJ cR : ClassId} {ks ad : List Nat} {Psi : va_W → Prop} (hw : zworld ks ad zuq zNS Psi) (hm : zMan l D cI cZ cB cJ cR ks ad Psi) : zMet l D cI cZ cB cJ cR zKS ks ad Psi yX3_number (.code yX3_number cX3_number 3 (some .long)) 0 zc_356 :=
  zmet_of hw 0 (by decide) 4000 zk_356 (by decide) (by decide) (fun X => ⟨zg_RX3 X, zp_RX3 X, zl1_RX3 X, zl2_RX3 X, nilz, nilz⟩)
set_option maxRecDepth 100000 in
theorem zk_357 : zmeth zKS zuq zNS zm_357 4000 = true := by decide +kernel
theorem zM_357 {l : Launch} {D : va_G} {cI cZ cB cJ cR : ClassId} {ks ad : List Nat} {Psi : va_W → Prop} (hw : zworld ks ad zuq zNS Psi) (hm : zMan l D cI cZ cB cJ cR ks ad Psi) : zMet l D cI cZ cB cJ cR zKS ks ad Psi yX3_number (.code yX3_number cX3_number 3 (some .long)) 0 zc_357 :=
  zmet_of hw 0 (by decide) 4000 zk_357 (by decide) (by decide) (fun X => ⟨zg_RX3 X, zp_RX3 X, zl1_RX3 X, zl2_RX3 X, nilz, nilz⟩)
set_option maxRecDepth 100000 in
theorem zk_358 : zmeth zKS zuq zNS zm_358 4000 = true := by decide +kernel
theorem zM_358 {l : Launch} {D : va_G} {cI cZ cB cJ cR : ClassId} {ks ad : List Nat} {Psi : va_W → Prop} (hw : zworld ks ad zuq zNS Psi) (hm : zMan l D cI cZ cB cJ cR ks ad Psi) : zMet l D cI cZ cB cJ cR zKS ks ad Psi yX3_number (.code yX3_number cX3_number 3 (some .long)) 0 zc_358 :=
  zmet_of hw 0 (by decide) 4000 zk_358 (by decide) (by decide) (fun X => ⟨zg_RX3 X, zp_RX3 X, zl1_RX3 X, zl2_RX3 X, nilz, nilz⟩)
