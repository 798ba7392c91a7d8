set_option maxRecDepth 100000 in
theorem zk_359 : zmeth zKS zuq zNS zm_359 4000 = true := by decide +kernel
theorem zM_359 {l : Launch} {D : va_G} {cI cZ cB cJ cR : ClassId} {ks ad : List Nat} {Psi : va_W → Prop} (hw : zworld ks ad zuq zNS Psi) (hm : zMan l D cI cZ cB cJ cR ks ad Psi) : zMet l D cI cZ cB cJ cR zKS ks ad Psi yX3_number (.code yX3_number cX3_number 3 (some .long)) 0 zc_359 :=
  zmet_of hw 0 (by decide) 4000 zk_359 (by decide) (by decide) (fun X => ⟨zg_RX3 X, zp_RX3 X, zl1_RX3 X, zl2_RX3 X, nilz, nilz⟩)
set_option maxRecDepth 100000 in
theorem zk_360 : zmeth zKS zuq zNS zm_360 4000 = true := by decide +kernel
theorem zM_360 {l : Launch} {D : va_G} {cI cZ cB cJ cR : ClassId} {ks ad : List Nat} {Psi : va_W → Prop} (hw : zworld ks ad zuq zNS Psi) (hm : zMan l D cI cZ cB cJ cR ks ad Psi) : zMet l D cI cZ cB cJ cR zKS ks ad Psi yX3_number (.code yX3_number cX3_number 3 (some .long)) 0 zc_360 :=
  zmet_of hw 0 (by decide) 4000 zk_360 (by decide) (by decide) (fun X => ⟨zg_RX3 X, zp_RX3 X, zl1_RX3 X, zl2_RX3 X, nilz, nilz⟩)
set_option maxRecDepth 100000 in
theorem zk_361 : zmeth zKS zuq zNS zm_361 4000 = true := by decide +kernel
theorem zM_361 {l : Launch} {D : va_G} {cI cZ cB cJ cR : ClassId} {ks ad : List Nat} {Psi : va_W → Prop} (hw : zworld ks ad zuq zNS Psi) (hm : zMan l D cI cZ cB cJ cR ks ad Psi) : zMet l D cI cZ cB cJ cR zKS ks ad Psi yX3_number (.code yX3_number cX3_number 3 (some .long)) 0 zc_361 :=
  zmet_of hw 0 (by decide) 4000 zk_361 (by decide) (by decide) (fun X => ⟨zg_RX3 X, zp_RX3 X, zl1_RX3 X, zl2_RX3 X, nilz, nilz⟩)
set_option maxRecDepth 100000 in
theorem zk_362 : zmeth zKS zuq zNS zm_362 4000 = true := by decide +kernel
theorem zM_362 {l : Launch} {D : va_G} {cI cZ cB cJ cR : ClassId} {ks ad : List Nat} {Psi : va_W → Prop} (hw : zworld ks ad zuq zNS Psi) (hm : zMan l D cI cZ cB cJ cR ks ad Psi) : zMet l D cI cZ cB cJ cR zKS ks ad Psi yX3_number (.code yX3_number cX3_number 3 (some .long)) 0 zc_362 :=
  zmet_of hw 0 (by decide) 4000 zk_362 (by decide) (by decide) (fun X => ⟨zg_RX3 X, zp_RX3 X, zl1_RX3 X, zl2_RX3 X, nilz, nilz⟩)
set_option maxRecDepth 100000 in
theorem zk_363 : zmeth zKS zuq zNS zm_363 4000 = true := by decide +kernel
theorem zM_363 {l : Launch} {D : va_G} {cI cZ cB cJ cR : ClassId} {ks ad : List Nat} {Psi : va_W → Prop} (hw : zworld ks ad zuq zNS Psi) (hm : zMan l D cI cZ cB cJ cR ks ad Psi) : zMet l D cI cZ cB cJ cR zKS ks ad Psi yX3_number (.code yX3_number cX3_number 3 (some .long)) 0 zc_363 :=
  zmet_of hw 0 (by decide) 4000 zk_363 (by decide) (by decide) (fun X => ⟨zg_RX3 X, zp_RX3 X, zl1_RX3 X, zl2_RX3 X, nilz, nilz⟩)
set_option maxRecDepth 100000 in
theorem zk_364 : zmeth zKS zuq zNS zm_364 4000 = true := by decide +kernel
theorem zM_364 {l : Launch} {D : va_G} {cI cZ cB cJ cR : ClassId} {ks ad : List Nat} {Psi : va_W → Prop} (hw : zworld ks ad zuq zNS Psi) (hm : zMan l D cI cZ cB cJ cR ks ad Psi) : zMet l D cI cZ cB cJ cR zKS ks ad Psi yX3_number (.code yX3_number cX3_number 3 (some .long)) 0 zc_364 :=
  zmet_of hw 0 (by decide) 4000 zk_364 (by decide) (by decide) (fun X => ⟨zg_RX3 X, zp_RX3 X, zl1_RX3 X, zl2_RX3 X, nilz, nilz⟩)
set_option maxRecDepth 100000 in
theorem zk_365 : zmeth zKS zuq zNS zm_365 4000 = true := by decide +kernel
theorem zM_365 {l : Launch} {D : va_G} {cI cZ cB cJ cR : ClassId} {ks ad : List Nat} {Psi : va_W → Prop} (hw : zworld ks ad zuq zNS Psi) (hm : zMan l D cI cZ cB cJ cR ks ad Psi) : zMet l D cI cZ cB cJ cR zKS ks ad Psi yX3_number (.code yX3_number cX3_number 3 (some .long)) 0 zc_365 :=
  zmet_of hw 0 (by decide) 4000 zk_365 (by decide) (by decide) (fun X => ⟨zg_RX3 X, zp_RX3 X, zl1_RX3 X, zl2_RX3 X, nilz, nilz⟩)
set_option maxRecDepth 100000 in
theorem zk_366 : zmeth zKS zuq zNS zm_366 4000 = true := by decide +kernel
theorem zM_366 {l : Launch} {D : va_G} {cI cZ cB cJ cR : ClassId} {ks ad : List Nat} {Psi : va_W → Prop} (hw : zworld ks ad zuq zNS Psi) (hm : zMan l D cI cZ cB cJ cR ks ad Psi) : zMet l D cI cZ cB cJ cR zKS ks ad Psi yX3_number (.code yX3_number cX3_number 3 (some .long)) 0 zc_366 :=
  zmet_of hw 0 (by decide) 4000 zk_366 (by decide) (by decide) (fun X => ⟨zg_RX3 X, zp_RX3 X, zl1_RX3 X, zl2_RX3 X, nilz, nilz⟩)
set_option maxRecDepth 100000 in
theorem zk_367 : zmeth zKS zuq zNS zm_367 4000 = true := by decide +kernel
theorem zM_367 {l : Launch} {D : va_G} {cI cZ cB cJ cR : ClassId} {ks ad : List Nat} {Psi : va_W → Prop} (hw : zworld ks ad zuq zNS Psi) (hm : zMan l D cI cZ cB cJ cR ks ad Psi) : zMet l D cI cZ cB cJ cR zKS ks ad Psi yX3_number (.code yX3_number cX3_number 3 (some .long)) 0 zc_367 :=
  zmet_of hw 0 (by decide) 4000 zk_367 (by decide) (by decide) (fun X => ⟨zg_RX3 X, zp_RX3 X, zl1_RX3 X, zl2_RX3 X, nilz, nilz⟩)
set_option maxRecDepth 100000 in
theorem zk_368 : zmeth zKS zuq zNS zm_368 4000 = true := by decide +kernel
theorem zM_368 {l : Launch} {D : va_G} {cI cZ cB cJ cR : ClassId} {ks ad : List Nat} {Psi : va_W → Prop} (hw : zworld ks ad zuq zNS Psi) (hm : zMan l D cI cZ cB cJ cR ks ad Psi) : zMet l D cI cZ cB cJ cR zKS ks ad Psi yX3_number (.code yX3_number cX3_number 3 (some .long)) 0 zc_368 :=
  zmet_of hw 0 (by decide) 4000 zk_368 (by decide) (by decide) (fun X => ⟨zg_RX3 X, zp_RX3 X, zl1_RX3 X, zl2_RX3 X, nilz, nilz⟩)
set_option maxRecDepth 100000 in
theorem zk_369 : zmeth zKS zuq zNS zm_369 4000 = true := by decide +kernel
theorem zM_369 {l : Launch} {D : va_G} {cI cZ cB cJ cR : ClassId} {ks ad : List Nat} {Psi : va_W → Prop} (hw : zworld ks ad zuq zNS Psi) (hm : zMan l D cI cZ cB cJ cR ks ad Psi) : zMet l D cI cZ cB cJ cR zKS ks ad Psi yX3_number (.code yX3_number cX3_number 3 (some .long)) 0 zc_369 :=
  zmet_of hw 0 (by decide) 4000 zk_369 (by decide) (by decide) (fun X => ⟨zg_RX3 X, zp_RX3 X, zl1_RX3 X, zl2_RX3 X, nilz, nilz⟩)
set_option maxRecDepth 100000 in
theorem zk_370 : zmeth zKS zuq zNS zm_370 4000 = true := by decide +kernel
theorem zM_370 {l : Launch} {D : va_G} {cI cZ cB cJ cR : ClassId} {ks ad : List Nat} {Psi : va_W → Prop} (hw : zworld ks ad zuq zNS Psi) (hm : zMan l D cI cZ cB cJ cR ks ad Psi) : zMet l D cI cZ cB cJ cR zKS ks ad Psi yX3_number (.code yX3_number cX3_number 3 (some .long)) 0 zc_370 :=
  zmet_of hw 0 (by decide) 4000 zk_370 (by decide) (by decide) (fun X => ⟨zg_RX3 X, zp_RX3 X, zl1_RX3 X, zl2_RX3 X, nilz, nilz⟩)
set_option maxRecDepth 100000 in
theorem zk_371 : zmeth zKS zuq zNS zm_371 4000 = true := by decide +kernel
theorem zM_371 {l : Launch} {D : va_G} {cI cZ cB cJ cR : ClassId} {ks ad : List Nat} {Psi : va_W → Prop} (hw : zworld ks ad zuq zNS Psi) (hm : zMan l D cI cZ cB cJ cR ks ad Psi) : zMet l D cI cZ cB cJ cR zKS ks ad Psi yX3_number (.code yX3_number cX3_number 3 (some .long)) 0 zc_371 :=
  zmet_of hw 0 (by decide) 4000 zk_371 (by decide) (by decide) (fun X => ⟨zg_RX3 X, zp_RX3 X, zl1_RX3 X, zl2_RX3 X, nilz, nilz⟩)
set_option maxRecDepth 100000 in
theorem zk_372 : zmeth zKS zuq zNS zm_372 4000 = true := by decide +kernel
theorem zM_372 {l : Launch} {D : va_G} {cI cZ cB cJ cR : ClassId} {ks ad : List Nat} {Psi : va_W → Prop} (hw : zworld ks ad zuq zNS Psi) (hm : zMan l D cI cZ cB cJ cR ks ad Psi) : zMet l D cI cZ cB cJ cR zKS ks ad Psi yX3_number (.code yX3_number cX3_number 3 (some .long)) 0 zc_372 :=
  zmet_of hw 0 (by decide) 4000 zk_372 (by decide) (by decide) (fun X => ⟨zg_RX3 X, zp_RX3 X, zl1_RX3 X, zl2_RX3 X, nilz, nilz⟩)
set_option maxRecDepth 100000 in
theorem zk_373 : zmeth zKS zuq zNS zm_373 4000 = true := by decide +kernel
theorem zM_373 {l : Launch} {D : va_G} {cI cZ cB cJ cR : ClassId} {ks ad : List Nat} {Psi : va_W → Prop} (hw : zworld ks ad zuq zNS Psi) (hm : zMan l D cI cZ cB cJ cR ks ad Psi) : zMet l D cI cZ cB cJ cR zKS ks ad Psi yX3_number (.code yX3_number cX3_number 3 (some .long)) 0 zc_373 :=
  zmet_of hw 0 (by decide) 4000 zk_373 (by decide) (by decide) (fun X => ⟨zg_RX3 X, zp_RX3 X, zl1_RX3 X, zl2_RX3 X, nilz, nilz⟩)
set_option maxRecDepth 100000 in
theorem zk_374 : zmeth zKS zuq zNS zm_374 4000 = true := by decide +kernel
theorem zM_374 {l : Launch} {D : va_G} {cI cZ cB cJ cR : ClassId} {ks ad : List Nat} {Psi : va_W → Prop} (hw : zworld ks ad zuq zNS Psi) (hm : zMan l D cI cZ cB cJ cR ks ad Psi) : zMet l D cI cZ cB cJ cR zKS ks ad Psi yX3_number (.code yX3_number cX3_number 3 (some .long)) 0 zc_374 :=
  zmet_of hw 0 (by decide) 4000 zk_374 (by decide) (by decide) (fun X => ⟨zg_RX3 X, zp_RX3 X, zl1_RX3 X, zl2_RX3 X, nilz, nilz⟩)
set_option maxRecDepth 100000 in
theorem zk_375 : zmeth zKS zuq zNS zm_375 4000 = true := by decide +kernel
theorem zM_375 {l : Launch} {D : va_G} {cI cZ cB cJ cR : ClassId} {ks ad : List Nat} {Psi : va_W → Prop} (hw : zworld ks ad zuq zNS Psi) (hm : zMan l D cI cZ cB cJ cR ks ad Psi) : zMet l D cI cZ cB cJ cR zKS ks ad Psi yX3_number (.code yX3_number cX3_number 3 (some .long)) 0 zc_375 :=
  zmet_of hw 0 (by decide) 4000 zk_375 (by decide) (by decide) (fun X => ⟨zg_RX3 X, zp_RX3 X, zl1_RX3 X, zl2_RX3 X, nilz, nilz⟩)
set_option maxRecDepth 100000 in
theorem zk_376 : zmeth zKS zuq zNS zm_376 4000 = true := by decide +kernel
theorem zM_376 {l : Launch} {D : va_G} {cI cZ cB cJ cR : ClassId} {ks ad : List Nat} {Psi : va_W → Prop} (hw : zworld ks ad zuq zNS Psi) (hm : zMan l D cI cZ cB cJ cR ks ad Psi) : zMet l D cI cZ cB cJ cR zKS ks ad Psi yX3_number (.code yX3_number cX3_number 3 (some .long)) 0 zc_376 :=
  zmet_of hw 0 (by decide) 4000 zk_376 (by decide) (by decide) (fun X => ⟨zg_RX3 X, zp_RX3 X, zl1_RX3 X, zl2_RX3 X, nilz, nilz⟩)
set_option maxRecDepth 100000 in
theorem zk_377 : zmeth zKS zuq zNS zm_377 4000 = true := by decide +kernel
theorem zM_377 {l : Launch} {D : va_G} {cI cZ cB cJ cR : ClassId} {ks ad : List Nat} {Psi : va_W → Prop} (hw : zworld ks ad zuq zNS Psi) (hm : zMan l D cI cZ cB cJ cR ks ad Psi) : zMet l D cI cZ cB cJ cR zKS ks ad Psi yX3_number (.code yX3_number cX3_number 3 (some .long)) 0 zc_377 :=
  zmet_of hw 0 (by decide) 4000 zk_377 (by decide) (by decide) (fun X => ⟨zg_RX3 X, zp_RX3 X, zl1_RX3 X, zl2_RX3 X, nilz, nilz⟩)
set_option maxRecDepth 100000 in
theorem zk_378 : zmeth zKS zuq zNS zm_378 4000 = true := by decide +kernel
theorem zM_378 {l : Launch} {D : va_G} {cI cZ cB cJ cR : ClassId} {ks ad : List Nat} {Psi : va_W → Prop} (hw : zworld ks ad zuq zNS Psi) (hm : zMan l D cI cZ cB cJ cR ks ad Psi) : zMet l D cI cZ cB cJ cR zKS ks ad Psi yX3_number (.code yX3_number cX3_number 3 (some .long)) 0 zc_378 :=
  zmet_of hw 0 (by decide) 4000 zk_378 (by decide) (by decide) (fun X => ⟨zg_RX3 X, zp_RX3 X, zl1_RX3 X, zl2_RX3 X, nilz, nilz⟩)
set_option maxRecDepth 100000 in
theorem zk_379 : zmeth zKS zuq zNS zm_379 4000 = true := by decide +kernel
theorem zM_379 {l : Launch} {D : va_G} {cI cZ cB cJ cR : ClassId} {ks ad : List Nat} {Psi : va_W → Prop} (hw : zworld ks ad zuq zNS Psi) (hm : zMan l D cI cZ cB cJ cR ks ad Psi) : zMet l D cI cZ cB cJ cR zKS ks ad Psi yX3_number (.code yX3_number cX3_number 3 (some .long)) 0 zc_379 :=
  zmet_of hw 0 (by decide) 4000 zk_379 (by decide) (by decide) (fun X => ⟨zg_RX3 X, zp_RX3 X, zl1_RX3 X, zl2_RX3 X, nilz, nilz⟩)
set_option maxRecDepth 100000 in
theorem zk_380 : zmeth zKS zuq zNS zm_380 4000 = true := by decide +kernel
theorem zM_380 {l : Launch} {D : va_G} {cI cZ cB cJ cR : ClassId} {ks ad : List Nat} {Psi : va_W → Prop} (hw : zworld ks ad zuq zNS Psi) (hm : zMan l D cI cZ cB cJ cR ks ad Psi) : zMet l D cI cZ cB cJ cR zKS ks ad Psi yX3_number (.code yX3_number cX3_number 3 (some .long)) 0 zc_380 :=
  zmet_of hw 0 (by decide) 4000 zk_380 (by decide) (by decide) (fun X => ⟨zg_RX3 X, zp_RX3 X, zl1_RX3 X, zl2_RX3 X, nilz, nilz⟩)
set_option maxRecDepth 100000 in
theorem zk_381 : zmeth zKS zuq zNS zm_381 4000 = true := by decide +kernel
theorem zM_381 {l : Launch} {D : va_G} {cI cZ cB cJ cR : ClassId} {ks ad : List Nat} {Psi : va_W → Prop} (hw : zworld ks ad zuq zNS Psi) (hm : zMan l D cI cZ cB cJ cR ks ad Psi) : zMet l D cI cZ cB cJ cR zKS ks ad Psi yX3_number (.code yX3_number cX3_number 3 (some .long)) 0 zc_381 :=
  zmet_of hw 0 (by decide) 4000 zk_381 (by decide) (by decide) (fun X => ⟨zg_RX3 X, zp_RX3 X, zl1_RX3 X, zl2_RX3 X, nilz, nilz⟩)
set_option maxRecDepth 100000 in
theorem zk_382 : zmeth zKS zuq zNS zm_382 4000 = true := by decide +kernel
theorem zM_382 {l : Launch} {D : va_G} {cI cZ cB cJ cR : ClassId} {ks ad : List Nat} {Psi : va_W → Prop} (hw : zworld ks ad zuq zNS Psi) (hm : zMan l D cI cZ cB cJ cR ks ad Psi) : zMet l D cI cZ cB cJ cR zKS ks ad Psi yX3_number (.code yX3_number cX3_number 3 (some .long)) 0 zc_382 :=
  zmet_of hw 0 (by decide) 4000 zk_382 (by decide) (by decide) (fun X => ⟨zg_RX3 X, zp_RX3 X, zl1_RX3 X, zl2_RX3 X, nilz, nilz⟩)
set_option maxRecDepth 100000 in
theorem zk_383 : zmeth zKS zuq zNS zm_383 4000 = true := by decide +kernel
theorem zM_383 {l : Launch} {D : va_G} {cI cZ cB cJ cR : ClassId} {ks ad : List Nat} {Psi : va_W → Prop} (hw : zworld ks ad zuq zNS Psi) (hm : zMan l D cI cZ cB cJ cR ks ad Psi) : zMet l D cI cZ cB cJ cR zKS ks ad Psi yX3_number (.code yX3_number cX3_number 3 (some .long)) 0 zc_383 :=
  zmet_of hw 0 (by decide) 4000 zk_383 (by decide) (by decide) (fun X => ⟨zg_RX3 X, zp_RX3 X, zl1_RX3 X, zl2_RX3 X, nilz, nilz⟩)
set_option maxRecDepth 100000 in
theorem zk_384 : zmeth zKS zuq zNS zm_384 4000 = true := by decide +kernel
theorem zM_384 {l : Launch} {D : va_G} {cI cZ cB cJ cR : ClassId} {ks ad : List Nat} {Psi : va_W → Prop} (hw : zworld ks ad zuq zNS Psi) (hm : zMan l D cI cZ cB cJ cR ks ad Psi) : zMet l D cI cZ cB cJ cR zKS ks ad Psi yX3_number (.code yX3_number cX3_number 3 (some .long)) 0 zc_384 :=
  zmet_of hw 0 (by decide) 4000 zk_384 (by decide) (by decide) (fun X => ⟨zg_RX3 X, zp_RX3 X, zl1_RX3 X, zl2_RX3 X, nilz, nilz⟩)
set_option maxRecDepth 100000 in
theorem zk_385 : zmeth zKS zuq zNS zm_385 4000 = true := by decide +kernel
theorem zM_385 {l : Launch} {D : va_G} {cI cZ cB cJ cR : ClassId} {ks ad : List Nat} {Psi : va_W → Prop} (hw : zworld ks ad zuq zNS Psi) (hm : zMan l D cI cZ cB cJ cR ks ad Psi) : zMet l D cI cZ cB cJ cR zKS ks ad Psi yX3_number (.code yX3_number cX3_number 3 (some .long)) 0 zc_385 :=
  zmet_of hw 0 (by decide) 4000 zk_385 (by decide) (by decide) (fun X => ⟨zg_RX3 X, zp_RX3 X, zl1_RX3 X, zl2_RX3 X, nilz, nilz⟩)
set_option maxRecDepth 100000 in
theorem zk_386 : zmeth zKS zuq zNS zm_386 4000 = true := by decide +kernel
theorem zM_386 {l : Launch} {D : va_G} {cI cZ cB cJ cR : ClassId} {ks ad : List Nat} {Psi : va_W → Prop} (hw : zworld ks ad zuq zNS Psi) (hm : zMan l D cI cZ cB cJ cR ks ad Psi) : zMet l D cI cZ cB cJ cR zKS ks ad Psi yX3_number (.code yX3_number cX3_number 3 (some .long)) 0 zc_386 :=
  zmet_of hw 0 (by decide) 4000 zk_386 (by decide) (by decide) (fun X => ⟨zg_RX3 X, zp_RX3 X, zl1_RX3 X, zl2_RX3 X, nilz, nilz⟩)
set_option maxRecDepth 100000 in
theorem zk_387 : zmeth zKS zuq zNS zm_387 4000 = true := by decide +kernel
theorem zM_387 {l : Launch} {D : va_G} {cI cZ cB cJ cR : ClassId} {ks ad : List Nat} {Psi : va_W → Prop} (hw : zworld ks ad zuq zNS Psi) (hm : zMan l D cI cZ cB cJ cR ks ad Psi) : zMet l D cI cZ cB cJ cR zKS ks ad Psi yX3_number (.code yX3_number cX3_number 3 (some .long)) 0 zc_387 :=
  zmet_of hw 0 (by decide) 4000 zk_387 (by decide) (by decide) (fun X => ⟨zg_RX3 X, zp_RX3 X, zl1_RX3 X, zl2_RX3 X, nilz, nilz⟩)
set_option maxRecDepth 100000 in
theorem zk_388 : zmeth zKS zuq zNS zm_388 4000 = true := by decide +kernel
theorem zM_388 {l : Launch} {D : va_G} {cI cZ cB cJ cR : ClassId} {ks ad : List Nat} {Psi : va_W → Prop} (hw : zworld ks ad zuq zNS Psi) (hm : zMan l D cI cZ cB cJ cR ks ad Psi) : zMet l D cI cZ cB cJ cR zKS ks ad Psi yX3_number (.code yX3_number cX3_number 3 (some .long)) 0 zc_388 :=
  zmet_of hw 0 (by decide) 4000 zk_388 (by decide) (by decide) (fun X => ⟨zg_RX3 X, zp_RX3 X, zl1_RX3 X, zl2_RX3 X, nilz, nilz⟩)
set_option maxRecDepth 100000 in
theorem zk_389 : zmeth zKS zuq zNS zm_389 4000 = true := by decide +kernel
theorem zM_389 {l : Launch} {D : va_G} {cI cZ cB cJ cR : ClassId} {ks ad : List Nat} {Psi : va_W → Prop} (hw : zworld ks ad zuq zNS Psi) (hm : zMan l D cI cZ cB cJ cR ks ad Psi) : zMet l D cI cZ cB cJ cR zKS ks ad Psi yX3_number (.code yX3_number cX3_number 3 (some .long)) 0 zc_389 :=
  zmet_of hw 0 (by decide) 4000 zk_389 (by decide) (by decide) (fun X => ⟨zg_RX3 X, zp_RX3 X, zl1_RX3 X, zl2_RX3 X, nilz, nilz⟩)
set_option maxRecDepth 100000 in
theorem zk_390 : zmeth zKS zuq zNS zm_390 4000 = true := by decide +kernel
theorem zM_390 {l : Launch} {D : va_G} {cI cZ cB cJ cR : ClassId} {ks ad : List Nat} {Psi : va_W → Prop} (hw : zworld ks ad zuq zNS Psi) (hm : zMan l D cI cZ cB cJ cR ks ad Psi) : zMet l D cI cZ cB cJ cR zKS ks ad Psi yX3_number (.code yX3_number cX3_number 3 (some .long)) 0 zc_390 :=
  zmet_of hw 0 (by decide) 4000 zk_390 (by decide) (by decide) (fun X => ⟨zg_RX3 X, zp_RX3 X, zl1_RX3 X, zl2_RX3 X, nilz, nilz⟩)
set_option maxRecDepth 100000 in
theorem zk_391 : zmeth zKS zuq zNS zm_391 4000 = true := by decide +kernel
theorem zM_391 {l : Launch} {D : va_G} {cI cZ cB cJ cR : ClassId} {ks ad : List Nat} {Psi : va_W → Prop} (hw : zworld ks ad zuq zNS Psi) (hm : zMan l D cI cZ cB cJ cR ks ad Psi) : zMet l D cI cZ cB cJ cR zKS ks ad Psi yX3_number (.code yX3_number cX3_number 3 (some .long)) 0 zc_391 :=
  zmet_of hw 0 (by decide) 4000 zk_391 (by decide) (by decide) (fun X => ⟨zg_RX3 X, zp_RX3 X, zl1_RX3 X, zl2_RX3 X, nilz, nilz⟩)
set_option maxRecDepth 100000 in
theorem zk_392 : zmeth zKS zuq zNS zm_392 4000 = true := by decide +kernel
theorem zM_392 {l : Launch} {D : va_G} {cI cZ cB cJ cR : ClassId} {ks ad : List Nat} {Psi : va_W → Prop} (hw : zworld ks ad zuq zNS Psi) (hm : zMan l D cI cZ cB cJ cR ks ad Psi) : zMet l D cI cZ cB cJ cR zKS ks ad Psi yX3_number (.code yX3_number cX3_number 3 (some .long)) 0 zc_392 :=
  zmet_of hw 0 (by decide) 4000 zk_392 (by decide) (by decide) (fun X => ⟨zg_RX3 X, zp_RX3 X, zl1_RX3 X, zl2_RX3 X, nilz, nilz⟩)
set_option maxRecDepth 100000 in
theorem zk_393 : zmeth zKS zuq zNS zm_393 4000 = true := by decide +kernel
theorem zM_393 {l : Launch} {D : va_G} {cI cZ cB cJ cR : ClassId} {ks ad : List Nat} {Psi : va_W → Prop} (hw : zworld ks ad zuq zNS Psi) (hm : zMan l D cI cZ cB cJ cR ks ad Psi) : zMet l D cI cZ cB cJ cR zKS ks ad Psi yX3_number (.code yX3_number cX3_number 3 (some .long)) 0 zc_393 :=
  zmet_of hw 0 (by decide) 4000 zk_393 (by decide) (by decide) (fun X => ⟨zg_RX3 X, zp_RX3 X, zl1_RX3 X, zl2_RX3 X, nilz, nilz⟩)
set_option maxRecDepth 100000 in
theorem zk_394 : zmeth zKS zuq zNS zm_394 4000 = true := by decide +kernel
theorem zM_394 {l : Launch} {D : va_G} {cI cZ cB cJ cR : ClassId} {ks ad : List Nat} {Psi : va_W → Prop} (hw : zworld ks ad zuq zNS Psi) (hm : zMan l D cI cZ cB cJ cR ks ad Psi) : zMet l D cI cZ cB cJ cR zKS ks ad Psi yX3_number (.code yX3_number cX3_number 3 (some .long)) 0 zc_394 :=
  zmet_of hw 0 (by decide) 4000 zk_394 (by decide) (by decide) (fun X => ⟨zg_RX3 X, zp_RX3 X, zl1_RX3 X, zl2_RX3 X, nilz, nilz⟩)
set_option maxRecDepth 100000 in
theorem zk_395 : zmeth zKS zuq zNS zm_395 4000 = true := by decide +kernel
theorem zM_395 {l : Launch} {D : va_G} {cI cZ cB cJ cR : ClassId} {ks ad : List Nat} {Psi : va_W → Prop} (hw : zworld ks ad zuq zNS Psi) (hm : zMan l D cI cZ cB cJ cR ks ad Psi) : zMet l D cI cZ cB cJ cR zKS ks ad Psi yX3_number (.code yX3_number cX3_number 3 (some .long)) 0 zc_395 :=
  zmet_of hw 0 (by decide) 4000 zk_395 (by decide) (by decide) (fun X => ⟨zg_RX3 X, zp_RX3 X, zl1_RX3 X, zl2_RX3 X, nilz, nilz⟩)
set_option maxRecDepth 100000 in
theorem zk_396 : zmeth zKS zuq zNS zm_396 4000 = true := by decide +kernel
theorem zM_396 {l : Launch} {D : va_G} {cI cZ cB cJ cR : ClassId} {ks ad : List Nat} {Psi : va_W → Prop} (hw : zworld ks ad zuq zNS Psi) (hm : zMan l D cI cZ cB cJ cR ks ad Psi) : zMet l D cI cZ cB cJ cR zKS ks ad Psi yX3_number (.code yX3_number cX3_number 3 (some .long)) 0 zc_396 :=
  zmet_of hw 0 (by decide) 4000 zk_396 (by decide) (by decide) (fun X => ⟨zg_RX3 X, zp_RX3 X, zl1_RX3 X, zl2_RX3 X, nilz, nilz⟩)
set_option maxRecDepth 100000 in
theorem zk_397 : zmeth zKS zuq zNS zm_397 4000 = true := by decide +kernel
theorem zM_397 {l : Launch} {D : va_G} {cI cZ cB cJ cR : ClassId} {ks ad : List Nat} {Psi : va_W → Prop} (hw : zworld ks ad zuq zNS Psi) (hm : zMan l D cI cZ cB cJ cR ks ad Psi) : zMet l D cI cZ cB cJ cR zKS ks ad Psi yX3_number (.code yX3_number cX3_number 3 (some .long)) 0 zc_397 :=
  zmet_of hw 0 (by decide) 4000 zk_397 (by decide) (by decide) (fun X => ⟨zg_RX3 X, zp_RX3 X, zl1_RX3 X, zl2_RX3 X, nilz, nilz⟩)
set_option maxRecDepth 100000 in
theorem zk_398 : zmeth zKS zuq zNS zm_398 4000 = true := by decide +kernel
theorem zM_398 {l : Launch} {D : va_G} {cI cZ cB cJ cR : ClassId} {ks ad : List Nat} {Psi : va_W → Prop} (hw : zworld ks ad zuq zNS Psi) (hm : zMan l D cI cZ cB cJ cR ks ad Psi) : zMet l D cI cZ cB cJ cR zKS ks ad Psi yX3_number (.code yX3_number cX3_number 3 (some .long)) 0 zc_398 :=
  zmet_of hw 0 (by decide) 4000 zk_398 (by decide) (by decide) (fun X => ⟨zg_RX3 X, zp_RX3 X, zl1_RX3 X, zl2_RX3 X, nilz, nilz⟩)
