set_option maxRecDepth 100000 in
theorem zk_439 : zmeth zKS zuq zNS zm_439 4000 = true := by decide +kernel
theorem zM_439 {l : Launch} {D : va_G} {cI cZ cB cJ cR : ClassId} {ks ad : List Nat} {Psi : va_W → Prop} (hw : zworld ks ad zuq zNS Psi) (hm : zMan l D cI cZ cB cJ cR ks ad Psi) : zMet l D cI cZ cB cJ cR zKS ks ad Psi yX3_number (.code yX3_number cX3_number 3 (some .long)) 0 zc_439 :=
  zmet_of hw 0 (by decide) 4000 zk_439 (by decide) (by decide) (fun X => ⟨zg_RX3 X, zp_RX3 X, zl1_RX3 X, zl2_RX3 X, nilz, nilz⟩)
set_option maxRecDepth 100000 in
theorem zk_440 : zmeth zKS zuq zNS zm_440 4000 = true := by decide +kernel
theorem zM_440 {l : Launch} {D : va_G} {cI cZ cB cJ cR : ClassId} {ks ad : List Nat} {Psi : va_W → Prop} (hw : zworld ks ad zuq zNS Psi) (hm : zMan l D cI cZ cB cJ cR ks ad Psi) : zMet l D cI cZ cB cJ cR zKS ks ad Psi yX3_number (.code yX3_number cX3_number 3 (some .long)) 0 zc_440 :=
  zmet_of hw 0 (by decide) 4000 zk_440 (by decide) (by decide) (fun X => ⟨zg_RX3 X, zp_RX3 X, zl1_RX3 X, zl2_RX3 X, nilz, nilz⟩)
set_option maxRecDepth 100000 in
theorem zk_441 : zmeth zKS zuq zNS zm_441 4000 = true := by decide +kernel
theorem zM_441 {l : Launch} {D : va_G} {cI cZ cB cJ cR : ClassId} {ks ad : List Nat} {Psi : va_W → Prop} (hw : zworld ks ad zuq zNS Psi) (hm : zMan l D cI cZ cB cJ cR ks ad Psi) : zMet l D cI cZ cB cJ cR zKS ks ad Psi yX3_number (.code yX3_number cX3_number 3 (some .long)) 0 zc_441 :=
  zmet_of hw 0 (by decide) 4000 zk_441 (by decide) (by decide) (fun X => ⟨zg_RX3 X, zp_RX3 X, zl1_RX3 X, zl2_RX3 X, nilz, nilz⟩)
set_option maxRecDepth 100000 in
theorem zk_442 : zmeth zKS zuq zNS zm_442 4000 = true := by decide +kernel
theorem zM_442 {l : Launch} {D : va_G} {cI cZ cB cJ cR : ClassId} {ks ad : List Nat} {Psi : va_W → Prop} (hw : zworld ks ad zuq zNS Psi) (hm : zMan l D cI cZ cB cJ cR ks ad Psi) : zMet l D cI cZ cB cJ cR zKS ks ad Psi yX3_number (.code yX3_number cX3_number 3 (some .long)) 0 zc_442 :=
  zmet_of hw 0 (by decide) 4000 zk_442 (by decide) (by decide) (fun X => ⟨zg_RX3 X, zp_RX3 X, zl1_RX3 X, zl2_RX3 X, nilz, nilz⟩)
set_option maxRecDepth 100000 in
theorem zk_443 : zmeth zKS zuq zNS zm_443 4000 = true := by decide +kernel
theorem zM_443 {l : Launch} {D : va_G} {cI cZ cB cJ cR : ClassId} {ks ad : List Nat} {Psi : va_W → Prop} (hw : zworld ks ad zuq zNS Psi) (hm : zMan l D cI cZ cB cJ cR ks ad Psi) : zMet l D cI cZ cB cJ cR zKS ks ad Psi yX3_number (.code yX3_number cX3_number 3 (some .long)) 0 zc_443 :=
  zmet_of hw 0 (by decide) 4000 zk_443 (by decide) (by decide) (fun X => ⟨zg_RX3 X, zp_RX3 X, zl1_RX3 X, zl2_RX3 X, nilz, nilz⟩)
set_option maxRecDepth 100000 in
theorem zk_444 : zmeth zKS zuq zNS zm_444 4000 = true := by decide +kernel
theorem zM_444 {l : Launch} {D : va_G} {cI cZ cB cJ cR : ClassId} {ks ad : List Nat} {Psi : va_W → Prop} (hw : zworld ks ad zuq zNS Psi) (hm : zMan l D cI cZ cB cJ cR ks ad Psi) : zMet l D cI cZ cB cJ cR zKS ks ad Psi yX3_number (.code yX3_number cX3_number 3 (some .long)) 0 zc_444 :=
  zmet_of hw 0 (by decide) 4000 zk_444 (by decide) (by decide) (fun X => ⟨zg_RX3 X, zp_RX3 X, zl1_RX3 X, zl2_RX3 X, nilz, nilz⟩)
set_option maxRecDepth 100000 in
theorem zk_445 : zmeth zKS zuq zNS zm_445 4000 = true := by decide +kernel
theorem zM_445 {l : Launch} {D : va_G} {cI cZ cB cJ cR : ClassId} {ks ad : List Nat} {Psi : va_W → Prop} (hw : zworld ks ad zuq zNS Psi) (hm : zMan l D cI cZ cB cJ cR ks ad Psi) : zMet l D cI cZ cB cJ cR zKS ks ad Psi yX3_number (.code yX3_number cX3_number 3 (some .long)) 0 zc_445 :=
  zmet_of hw 0 (by decide) 4000 zk_445 (by decide) (by decide) (fun X => ⟨zg_RX3 X, zp_RX3 X, zl1_RX3 X, zl2_RX3 X, nilz, nilz⟩)
set_option maxRecDepth 100000 in
theorem zk_446 : zmeth zKS zuq zNS zm_446 4000 = true := by decide +kernel
theorem zM_446 {l : Launch} {D : va_G} {cI cZ cB cJ cR : ClassId} {ks ad : List Nat} {Psi : va_W → Prop} (hw : zworld ks ad zuq zNS Psi) (hm : zMan l D cI cZ cB cJ cR ks ad Psi) : zMet l D cI cZ cB cJ cR zKS ks ad Psi yX3_number (.code yX3_number cX3_number 3 (some .long)) 0 zc_446 :=
  zmet_of hw 0 (by decide) 4000 zk_446 (by decide) (by decide) (fun X => ⟨zg_RX3 X, zp_RX3 X, zl1_RX3 X, zl2_RX3 X, nilz, nilz⟩)
set_option maxRecDepth 100000 in
theorem zk_447 : zmeth zKS zuq zNS zm_447 4000 = true := by decide +kernel
theorem zM_447 {l : Launch} {D : va_G} {cI cZ cB cJ cR : ClassId} {ks ad : List Nat} {Psi : va_W → Prop} (hw : zworld ks ad zuq zNS Psi) (hm : zMan l D cI cZ cB cJ cR ks ad Psi) : zMet l D cI cZ cB cJ cR zKS ks ad Psi yX3_number (.code yX3_number cX3_number 3 (some .long)) 0 zc_447 :=
  zmet_of hw 0 (by decide) 4000 zk_447 (by decide) (by decide) (fun X => ⟨zg_RX3 X, zp_RX3 X, zl1_RX3 X, zl2_RX3 X, nilz, nilz⟩)
set_option maxRecDepth 100000 in
theorem zk_448 : zmeth zKS zuq zNS zm_448 4000 = true := by decide +kernel
theorem zM_448 {l : Launch} {D : va_G} {cI cZ cB cJ cR : ClassId} {ks ad : List Nat} {Psi : va_W → Prop} (hw : zworld ks ad zuq zNS Psi) (hm : zMan l D cI cZ cB cJ cR ks ad Psi) : zMet l D cI cZ cB cJ cR zKS ks ad Psi yX3_number (.code yX3_number cX3_number 3 (some .long)) 0 zc_448 :=
  zmet_of hw 0 (by decide) 4000 zk_448 (by decide) (by decide) (fun X => ⟨zg_RX3 X, zp_RX3 X, zl1_RX3 X, zl2_RX3 X, nilz, nilz⟩)
set_option maxRecDepth 100000 in
theorem zk_449 : zmeth zKS zuq zNS zm_449 4000 = true := by decide +kernel
theorem zM_449 {l : Launch} {D : va_G} {cI cZ cB cJ cR : ClassId} {ks ad : List Nat} {Psi : va_W → Prop} (hw : zworld ks ad zuq zNS Psi) (hm : zMan l D cI cZ cB cJ cR ks ad Psi) : zMet l D cI cZ cB cJ cR zKS ks ad Psi yX3_number (.code yX3_number cX3_number 3 (some .long)) 0 zc_449 :=
  zmet_of hw 0 (by decide) 4000 zk_449 (by decide) (by decide) (fun X => ⟨zg_RX3 X, zp_RX3 X, zl1_RX3 X, zl2_RX3 X, nilz, nilz⟩)
set_option maxRecDepth 100000 in
theorem zk_450 : zmeth zKS zuq zNS zm_450 4000 = true := by decide +kernel
theorem zM_450 {l : Launch} {D : va_G} {cI cZ cB cJ cR : ClassId} {ks ad : List Nat} {Psi : va_W → Prop} (hw : zworld ks ad zuq zNS Psi) (hm : zMan l D cI cZ cB cJ cR ks ad Psi) : zMet l D cI cZ cB cJ cR zKS ks ad Psi yX3_number (.code yX3_number cX3_number 3 (some .long)) 0 zc_450 :=
  zmet_of hw 0 (by decide) 4000 zk_450 (by decide) (by decide) (fun X => ⟨zg_RX3 X, zp_RX3 X, zl1_RX3 X, zl2_RX3 X, nilz, nilz⟩)
set_option maxRecDepth 100000 in
theorem zk_451 : zmeth zKS zuq zNS zm_451 4000 = true := by decide +kernel
theorem zM_451 {l : Launch} {D : va_G} {cI cZ cB cJ cR : ClassId} {ks ad : List Nat} {Psi : va_W → Prop} (hw : zworld ks ad zuq zNS Psi) (hm : zMan l D cI cZ cB cJ cR ks ad Psi) : zMet l D cI cZ cB cJ cR zKS ks ad Psi yX3_number (.code yX3_number cX3_number 3 (some .long)) 0 zc_451 :=
  zmet_of hw 0 (by decide) 4000 zk_451 (by decide) (by decide) (fun X => ⟨zg_RX3 X, zp_RX3 X, zl1_RX3 X, zl2_RX3 X, nilz, nilz⟩)
set_option maxRecDepth 100000 in
theorem zk_452 : zmeth zKS zuq zNS zm_452 4000 = true := by decide +kernel
theorem zM_452 {l : Launch} {D : va_G} {cI cZ cB cJ cR : ClassId} {ks ad : List Nat} {Psi : va_W → Prop} (hw : zworld ks ad zuq zNS Psi) (hm : zMan l D cI cZ cB cJ cR ks ad Psi) : zMet l D cI cZ cB cJ cR zKS ks ad Psi yX3_number (.code yX3_number cX3_number 3 (some .long)) 0 zc_452 :=
  zmet_of hw 0 (by decide) 4000 zk_452 (by decide) (by decide) (fun X => ⟨zg_RX3 X, zp_RX3 X, zl1_RX3 X, zl2_RX3 X, nilz, nilz⟩)
set_option maxRecDepth 100000 in
theorem zk_453 : zmeth zKS zuq zNS zm_453 4000 = true := by decide +kernel
theorem zM_453 {l : Launch} {D : va_G} {cI cZ cB cJ cR : ClassId} {ks ad : List Nat} {Psi : va_W → Prop} (hw : zworld ks ad zuq zNS Psi) (hm : zMan l D cI cZ cB cJ cR ks ad Psi) : zMet l D cI cZ cB cJ cR zKS ks ad Psi yX3_number (.code yX3_number cX3_number 3 (some .long)) 0 zc_453 :=
  zmet_of hw 0 (by decide) 4000 zk_453 (by decide) (by decide) (fun X => ⟨zg_RX3 X, zp_RX3 X, zl1_RX3 X, zl2_RX3 X, nilz, nilz⟩)
set_option maxRecDepth 100000 in
theorem zk_454 : zmeth zKS zuq zNS zm_454 4000 = true := by decide +kernel
theorem zM_454 {l : Launch} {D : va_G} {cI cZ cB cJ cR : ClassId} {ks ad : List Nat} {Psi : va_W → Prop} (hw : zworld ks ad zuq zNS Psi) (hm : zMan l D cI cZ cB cJ cR ks ad Psi) : zMet l D cI cZ cB cJ cR zKS ks ad Psi yX3_number (.code yX3_number cX3_number 3 (some .long)) 0 zc_454 :=
  zmet_of hw 0 (by decide) 4000 zk_454 (by decide) (by decide) (fun X => ⟨zg_RX3 X, zp_RX3 X, zl1_RX3 X, zl2_RX3 X, nilz, nilz⟩)
set_option maxRecDepth 100000 in
theorem zk_455 : zmeth zKS zuq zNS zm_455 4000 = true := by decide +kernel
theorem zM_455 {l : Launch} {D : va_G} {cI cZ cB cJ cR : ClassId} {ks ad : List Nat} {Psi : va_W → Prop} (hw : zworld ks ad zuq zNS Psi) (hm : zMan l D cI cZ cB cJ cR ks ad Psi) : zMet l D cI cZ cB cJ cR zKS ks ad Psi yX3_number (.code yX3_number cX3_number 3 (some .long)) 0 zc_455 :=
  zmet_of hw 0 (by decide) 4000 zk_455 (by decide) (by decide) (fun X => ⟨zg_RX3 X, zp_RX3 X, zl1_RX3 X, zl2_RX3 X, nilz, nilz⟩)
set_option maxRecDepth 100000 in
theorem zk_456 : zmeth zKS zuq zNS zm_456 4000 = true := by decide +kernel
theorem zM_456 {l : Launch} {D : va_G} {cI cZ cB cJ cR : ClassId} {ks ad : List Nat} {Psi : va_W → Prop} (hw : zworld ks ad zuq zNS Psi) (hm : zMan l D cI cZ cB cJ cR ks ad Psi) : zMet l D cI cZ cB cJ cR zKS ks ad Psi yX3_number (.code yX3_number cX3_number 3 (some .long)) 0 zc_456 :=
  zmet_of hw 0 (by decide) 4000 zk_456 (by decide) (by decide) (fun X => ⟨zg_RX3 X, zp_RX3 X, zl1_RX3 X, zl2_RX3 X, nilz, nilz⟩)
set_option maxRecDepth 100000 in
theorem zk_457 : zmeth zKS zuq zNS zm_457 4000 = true := by decide +kernel
theorem zM_457 {l : Launch} {D : va_G} {cI cZ cB cJ cR : ClassId} {ks ad : List Nat} {Psi : va_W → Prop} (hw : zworld ks ad zuq zNS Psi) (hm : zMan l D cI cZ cB cJ cR ks ad Psi) : zMet l D cI cZ cB cJ cR zKS ks ad Psi yX3_number (.code yX3_number cX3_number 3 (some .long)) 0 zc_457 :=
  zmet_of hw 0 (by decide) 4000 zk_457 (by decide) (by decide) (fun X => ⟨zg_RX3 X, zp_RX3 X, zl1_RX3 X, zl2_RX3 X, nilz, nilz⟩)
set_option maxRecDepth 100000 in
theorem zk_458 : zmeth zKS zuq zNS zm_458 4000 = true := by decide +kernel
theorem zM_458 {l : Launch} {D : va_G} {cI cZ cB cJ cR : ClassId} {ks ad : List Nat} {Psi : va_W → Prop} (hw : zworld ks ad zuq zNS Psi) (hm : zMan l D cI cZ cB cJ cR ks ad Psi) : zMet l D cI cZ cB cJ cR zKS ks ad Psi yX3_number (.code yX3_number cX3_number 3 (some .long)) 0 zc_458 :=
  zmet_of hw 0 (by decide) 4000 zk_458 (by decide) (by decide) (fun X => ⟨zg_RX3 X, zp_RX3 X, zl1_RX3 X, zl2_RX3 X, nilz, nilz⟩)
set_option maxRecDepth 100000 in
theorem zk_459 : zmeth zKS zuq zNS zm_459 4000 = true := by decide +kernel
theorem zM_459 {l : Launch} {D : va_G} {cI cZ cB cJ cR : ClassId} {ks ad : List Nat} {Psi : va_W → Prop} (hw : zworld ks ad zuq zNS Psi) (hm : zMan l D cI cZ cB cJ cR ks ad Psi) : zMet l D cI cZ cB cJ cR zKS ks ad Psi yX3_number (.code yX3_number cX3_number 3 (some .long)) 0 zc_459 :=
  zmet_of hw 0 (by decide) 4000 zk_459 (by decide) (by decide) (fun X => ⟨zg_RX3 X, zp_RX3 X, zl1_RX3 X, zl2_RX3 X, nilz, nilz⟩)
set_option maxRecDepth 100000 in
theorem zk_460 : zmeth zKS zuq zNS zm_460 4000 = true := by decide +kernel
theorem zM_460 {l : Launch} {D : va_G} {cI cZ cB cJ cR : ClassId} {ks ad : List Nat} {Psi : va_W → Prop} (hw : zworld ks ad zuq zNS Psi) (hm : zMan l D cI cZ cB cJ cR ks ad Psi) : zMet l D cI cZ cB cJ cR zKS ks ad Psi yX3_number (.code yX3_number cX3_number 3 (some .long)) 0 zc_460 :=
  zmet_of hw 0 (by decide) 4000 zk_460 (by decide) (by decide) (fun X => ⟨zg_RX3 X, zp_RX3 X, zl1_RX3 X, zl2_RX3 X, nilz, nilz⟩)
set_option maxRecDepth 100000 in
theorem zk_461 : zmeth zKS zuq zNS zm_461 4000 = true := by decide +kernel
theorem zM_461 {l : Launch} {D : va_G} {cI cZ cB cJ cR : ClassId} {ks ad : List Nat} {Psi : va_W → Prop} (hw : zworld ks ad zuq zNS Psi) (hm : zMan l D cI cZ cB cJ cR ks ad Psi) : zMet l D cI cZ cB cJ cR zKS ks ad Psi yX3_number (.code yX3_number cX3_number 3 (some .long)) 0 zc_461 :=
  zmet_of hw 0 (by decide) 4000 zk_461 (by decide) (by decide) (fun X => ⟨zg_RX3 X, zp_RX3 X, zl1_RX3 X, zl2_RX3 X, nilz, nilz⟩)
set_option maxRecDepth 100000 in
theorem zk_462 : zmeth zKS zuq zNS zm_462 4000 = true := by decide +kernel
theorem zM_462 {l : Launch} {D : va_G} {cI cZ cB cJ cR : ClassId} {ks ad : List Nat} {Psi : va_W → Prop} (hw : zworld ks ad zuq zNS Psi) (hm : zMan l D cI cZ cB cJ cR ks ad Psi) : zMet l D cI cZ cB cJ cR zKS ks ad Psi yX3_number (.code yX3_number cX3_number 3 (some .long)) 0 zc_462 :=
  zmet_of hw 0 (by decide) 4000 zk_462 (by decide) (by decide) (fun X => ⟨zg_RX3 X, zp_RX3 X, zl1_RX3 X, zl2_RX3 X, nilz, nilz⟩)
set_option maxRecDepth 100000 in
theorem zk_463 : zmeth zKS zuq zNS zm_463 4000 = true := by decide +kernel
theorem zM_463 {l : Launch} {D : va_G} {cI cZ cB cJ cR : ClassId} {ks ad : List Nat} {Psi : va_W → Prop} (hw : zworld ks ad zuq zNS Psi) (hm : zMan l D cI cZ cB cJ cR ks ad Psi) : zMet l D cI cZ cB cJ cR zKS ks ad Psi yX3_number (.code yX3_number cX3_number 3 (some .long)) 0 zc_463 :=
  zmet_of hw 0 (by decide) 4000 zk_463 (by decide) (by decide) (fun X => ⟨zg_RX3 X, zp_RX3 X, zl1_RX3 X, zl2_RX3 X, nilz, nilz⟩)
set_option maxRecDepth 100000 in
theorem zk_464 : zmeth zKS zuq zNS zm_464 4000 = true := by decide +kernel
theorem zM_464 {l : Launch} {D : va_G} {cI cZ cB cJ cR : ClassId} {ks ad : List Nat} {Psi : va_W → Prop} (hw : zworld ks ad zuq zNS Psi) (hm : zMan l D cI cZ cB cJ cR ks ad Psi) : zMet l D cI cZ cB cJ cR zKS ks ad Psi yX3_number (.code yX3_number cX3_number 3 (some .long)) 0 zc_464 :=
  zmet_of hw 0 (by decide) 4000 zk_464 (by decide) (by decide) (fun X => ⟨zg_RX3 X, zp_RX3 X, zl1_RX3 X, zl2_RX3 X, nilz, nilz⟩)
set_option maxRecDepth 100000 in
theorem zk_465 : zmeth zKS zuq zNS zm_465 4000 = true := by decide +kernel
theorem zM_465 {l : Launch} {D : va_G} {cI cZ cB cJ cR : ClassId} {ks ad : List Nat} {Psi : va_W → Prop} (hw : zworld ks ad zuq zNS Psi) (hm : zMan l D cI cZ cB cJ cR ks ad Psi) : zMet l D cI cZ cB cJ cR zKS ks ad Psi yX3_number (.code yX3_number cX3_number 3 (some .long)) 0 zc_465 :=
  zmet_of hw 0 (by decide) 4000 zk_465 (by decide) (by decide) (fun X => ⟨zg_RX3 X, zp_RX3 X, zl1_RX3 X, zl2_RX3 X, nilz, nilz⟩)
set_option maxRecDepth 100000 in
theorem zk_466 : zmeth zKS zuq zNS zm_466 4000 = true := by decide +kernel
theorem zM_466 {l : Launch} {D : va_G} {cI cZ cB cJ cR : ClassId} {ks ad : List Nat} {Psi : va_W → Prop} (hw : zworld ks ad zuq zNS Psi) (hm : zMan l D cI cZ cB cJ cR ks ad Psi) : zMet l D cI cZ cB cJ cR zKS ks ad Psi yX3_number (.code yX3_number cX3_number 3 (some .long)) 0 zc_466 :=
  zmet_of hw 0 (by decide) 4000 zk_466 (by decide) (by decide) (fun X => ⟨zg_RX3 X, zp_RX3 X, zl1_RX3 X, zl2_RX3 X, nilz, nilz⟩)
set_option maxRecDepth 100000 in
theorem zk_467 : zmeth zKS zuq zNS zm_467 4000 = true := by decide +kernel
theorem zM_467 {l : Launch} {D : va_G} {cI cZ cB cJ cR : ClassId} {ks ad : List Nat} {Psi : va_W → Prop} (hw : zworld ks ad zuq zNS Psi) (hm : zMan l D cI cZ cB cJ cR ks ad Psi) : zMet l D cI cZ cB cJ cR zKS ks ad Psi yX3_number (.code yX3_number cX3_number 3 (some .long)) 0 zc_467 :=
  zmet_of hw 0 (by decide) 4000 zk_467 (by decide) (by decide) (fun X => ⟨zg_RX3 X, zp_RX3 X, zl1_RX3 X, zl2_RX3 X, nilz, nilz⟩)
set_option maxRecDepth 100000 in
theorem zk_468 : zmeth zKS zuq zNS zm_468 4000 = true := by decide +kernel
theorem zM_468 {l : Launch} {D : va_G} {cI cZ cB cJ cR : ClassId} {ks ad : List Nat} {Psi : va_W → Prop} (hw : zworld ks ad zuq zNS Psi) (hm : zMan l D cI cZ cB cJ cR ks ad Psi) : zMet l D cI cZ cB cJ cR zKS ks ad Psi yX3_number (.code yX3_number cX3_number 3 (some .long)) 0 zc_468 :=
  zmet_of hw 0 (by decide) 4000 zk_468 (by decide) (by decide) (fun X => ⟨zg_RX3 X, zp_RX3 X, zl1_RX3 X, zl2_RX3 X, nilz, nilz⟩)
set_option maxRecDepth 100000 in
theorem zk_469 : zmeth zKS zuq zNS zm_469 4000 = true := by decide +kernel
theorem zM_469 {l : Launch} {D : va_G} {cI cZ cB cJ cR : ClassId} {ks ad : List Nat} {Psi : va_W → Prop} (hw : zworld ks ad zuq zNS Psi) (hm : zMan l D cI cZ cB cJ cR ks ad Psi) : zMet l D cI cZ cB cJ cR zKS ks ad Psi yX3_number (.code yX3_number cX3_number 3 (some .long)) 0 zc_469 :=
  zmet_of hw 0 (by decide) 4000 zk_469 (by decide) (by decide) (fun X => ⟨zg_RX3 X, zp_RX3 X, zl1_RX3 X, zl2_RX3 X, nilz, nilz⟩)
set_option maxRecDepth 100000 in
theorem zk_470 : zmeth zKS zuq zNS zm_470 4000 = true := by decide +kernel
theorem zM_470 {l : Launch} {D : va_G} {cI cZ cB cJ cR : ClassId} {ks ad : List Nat} {Psi : va_W → Prop} (hw : zworld ks ad zuq zNS Psi) (hm : zMan l D cI cZ cB cJ cR ks ad Psi) : zMet l D cI cZ cB cJ cR zKS ks ad Psi yX3_number (.code yX3_number cX3_number 3 (some .long)) 0 zc_470 :=
  zmet_of hw 0 (by decide) 4000 zk_470 (by decide) (by decide) (fun X => ⟨zg_RX3 X, zp_RX3 X, zl1_RX3 X, zl2_RX3 X, nilz, nilz⟩)
set_option maxRecDepth 100000 in
theorem zk_471 : zmeth zKS zuq zNS zm_471 4000 = true := by decide +kernel
theorem zM_471 {l : Launch} {D : va_G} {cI cZ cB cJ cR : ClassId} {ks ad : List Nat} {Psi : va_W → Prop} (hw : zworld ks ad zuq zNS Psi) (hm : zMan l D cI cZ cB cJ cR ks ad Psi) : zMet l D cI cZ cB cJ cR zKS ks ad Psi yX3_number (.code yX3_number cX3_number 3 (some .long)) 0 zc_471 :=
  zmet_of hw 0 (by decide) 4000 zk_471 (by decide) (by decide) (fun X => ⟨zg_RX3 X, zp_RX3 X, zl1_RX3 X, zl2_RX3 X, nilz, nilz⟩)
set_option maxRecDepth 100000 in
theorem zk_472 : zmeth zKS zuq zNS zm_472 4000 = true := by decide +kernel
theorem zM_472 {l : Launch} {D : va_G} {cI cZ cB cJ cR : ClassId} {ks ad : List Nat} {Psi : va_W → Prop} (hw : zworld ks ad zuq zNS Psi) (hm : zMan l D cI cZ cB cJ cR ks ad Psi) : zMet l D cI cZ cB cJ cR zKS ks ad Psi yX3_number (.code yX3_number cX3_number 3 (some .long)) 0 zc_472 :=
  zmet_of hw 0 (by decide) 4000 zk_472 (by decide) (by decide) (fun X => ⟨zg_RX3 X, zp_RX3 X, zl1_RX3 X, zl2_RX3 X, nilz, nilz⟩)
set_option maxRecDepth 100000 in
theorem zk_473 : zmeth zKS zuq zNS zm_473 4000 = true := by decide +kernel
theorem zM_473 {l : Launch} {D : va_G} {cI cZ cB cJ cR : ClassId} {ks ad : List Nat} {Psi : va_W → Prop} (hw : zworld ks ad zuq zNS Psi) (hm : zMan l D cI cZ cB cJ cR ks ad Psi) : zMet l D cI cZ cB cJ cR zKS ks ad Psi yX3_number (.code yX3_number cX3_number 3 (some .long)) 0 zc_473 :=
  zmet_of hw 0 (by decide) 4000 zk_473 (by decide) (by decide) (fun X => ⟨zg_RX3 X, zp_RX3 X, zl1_RX3 X, zl2_RX3 X, nilz, nilz⟩)
set_option maxRecDepth 100000 in
theorem zk_474 : zmeth zKS zuq zNS zm_474 4000 = true := by decide +kernel
theorem zM_474 {l : Launch} {D : va_G} {cI cZ cB cJ cR : ClassId} {ks ad : List Nat} {Psi : va_W → Prop} (hw : zworld ks ad zuq zNS Psi) (hm : zMan l D cI cZ cB cJ cR ks ad Psi) : zMet l D cI cZ cB cJ cR zKS ks ad Psi yX3_number (.code yX3_number cX3_number 3 (some .long)) 0 zc_474 :=
  zmet_of hw 0 (by decide) 4000 zk_474 (by decide) (by decide) (fun X => ⟨zg_RX3 X, zp_RX3 X, zl1_RX3 X, zl2_RX3 X, nilz, nilz⟩)
set_option maxRecDepth 100000 in
theorem zk_475 : zmeth zKS zuq zNS zm_475 4000 = true := by decide +kernel
theorem zM_475 {l : Launch} {D : va_G} {cI cZ cB cJ cR : ClassId} {ks ad : List Nat} {Psi : va_W → Prop} (hw : zworld ks ad zuq zNS Psi) (hm : zMan l D cI cZ cB cJ cR ks ad Psi) : zMet l D cI cZ cB cJ cR zKS ks ad Psi yX3_number (.code yX3_number cX3_number 3 (some .long)) 0 zc_475 :=
  zmet_of hw 0 (by decide) 4000 zk_475 (by decide) (by decide) (fun X => ⟨zg_RX3 X, zp_RX3 X, zl1_RX3 X, zl2_RX3 X, nilz, nilz⟩)
set_option maxRecDepth 100000 in
theorem zk_476 : zmeth zKS zuq zNS zm_476 4000 = true := by decide +kernel
theorem zM_476 {l : Launch} {D : va_G} {cI cZ cB cJ cR : ClassId} {ks ad : List Nat} {Psi : va_W → Prop} (hw : zworld ks ad zuq zNS Psi) (hm : zMan l D cI cZ cB cJ cR ks ad Psi) : zMet l D cI cZ cB cJ cR zKS ks ad Psi yX3_number (.code yX3_number cX3_number 3 (some .long)) 0 zc_476 :=
  zmet_of hw 0 (by decide) 4000 zk_476 (by decide) (by decide) (fun X => ⟨zg_RX3 X, zp_RX3 X, zl1_RX3 X, zl2_RX3 X, nilz, nilz⟩)
set_option maxRecDepth 100000 in
theorem zk_477 : zmeth zKS zuq zNS zm_477 4000 = true := by decide +kernel
theorem zM_477 {l : Launch} {D : va_G} {cI cZ cB cJ cR : ClassId} {ks ad : List Nat} {Psi : va_W → Prop} (hw : zworld ks ad zuq zNS Psi) (hm : zMan l D cI cZ cB cJ cR ks ad Psi) : zMet l D cI cZ cB cJ cR zKS ks ad Psi yX3_number (.code yX3_number cX3_number 3 (some .long)) 0 zc_477 :=
  zmet_of hw 0 (by decide) 4000 zk_477 (by decide) (by decide) (fun X => ⟨zg_RX3 X, zp_RX3 X, zl1_RX3 X, zl2_RX3 X, nilz, nilz⟩)
set_option maxRecDepth 100000 in
theorem zk_478 : zmeth zKS zuq zNS zm_478 4000 = true := by decide +kernel
theorem zM_478 {l : Launch} {D : va_G} {cI cZ cB cJ cR : ClassId} {ks ad : List Nat} {Psi : va_W → Prop} (hw : zworld ks ad zuq zNS Psi) (hm : zMan l D cI cZ cB cJ cR ks ad Psi) : zMet l D cI cZ cB cJ cR zKS ks ad Psi yX3_number (.code yX3_number cX3_number 3 (some .long)) 0 zc_478 :=
  zmet_of hw 0 (by decide) 4000 zk_478 (by decide) (by decide) (fun X => ⟨zg_RX3 X, zp_RX3 X, zl1_RX3 X, zl2_RX3 X, nilz, nilz⟩)
