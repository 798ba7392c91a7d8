set_option maxRecDepth 100000 in
theorem zk_535 : zmeth zKS zuq zNS zm_535 4000 = true := zqF (zdt_X3_number) (by decide +kernel)
theorem zM_535 {l : Launch} {D : va_G} {cI cZ cB cJ cR : ClassId} {ks ad : List Nat} {Psi : va_W → Prop} (hw : zworld ks ad zuq zNS Psi) (hm : zMan l D cI cZ cB cJ cR ks ad Psi) : zMet l D cI cZ cB cJ cR zKS ks ad Psi yX3_number (.code yX3_number cX3_number 3 (some .long)) 0 zc_535 :=
  zmet_of hw 0 (by decide) 4000 zk_535 (by decide) (by decide) (fun X => ⟨zg_RX3 X, zp_RX3 X, zl1_RX3 X, zl2_RX3 X, nilz, nilz⟩)
set_option maxRecDepth 100000 in
theorem zk_536 : zmeth zKS zuq zNS zm_536 4000 = true := zqF (zdt_X3_number) (by decide +kernel)
theorem zM_536 {l : Launch} {D : va_G} {cI cZ cB cJ cR : ClassId} {ks ad : List Nat} {Psi : va_W → Prop} (hw : zworld ks ad zuq zNS Psi) (hm : zMan l D cI cZ cB cJ cR ks ad Psi) : zMet l D cI cZ cB cJ cR zKS ks ad Psi yX3_number (.code yX3_number cX3_number 3 (some .long)) 0 zc_536 :=
  zmet_of hw 0 (by decide) 4000 zk_536 (by decide) (by decide) (fun X => ⟨zg_RX3 X, zp_RX3 X, zl1_RX3 X, zl2_RX3 X, nilz, nilz⟩)
set_option maxRecDepth 100000 in
theorem zk_537 : zmeth zKS zuq zNS zm_537 4000 = true := zqF (zdt_X3_number) (by decide +kernel)
theorem zM_537 {l : Launch} {D : va_G} {cI cZ cB cJ cR : ClassId} {ks ad : List Nat} {Psi : va_W → Prop} (hw : zworld ks ad zuq zNS Psi) (hm : zMan l D cI cZ cB cJ cR ks ad Psi) : zMet l D cI cZ cB cJ cR zKS ks ad Psi yX3_number (.code yX3_number cX3_number 3 (some .long)) 0 zc_537 :=
  zmet_of hw 0 (by decide) 4000 zk_537 (by decide) (by decide) (fun X => ⟨zg_RX3 X, zp_RX3 X, zl1_RX3 X, zl2_RX3 X, nilz, nilz⟩)
set_option maxRecDepth 100000 in
theorem zk_538 : zmeth zKS zuq zNS zm_538 4000 = true := zqF (zdt_X3_number) (by decide +kernel)
theorem zM_538 {l : Launch} {D : va_G} {cI cZ cB cJ cR : ClassId} {ks ad : List Nat} {Psi : va_W → Prop} (hw : zworld ks ad zuq zNS Psi) (hm : zMan l D cI cZ cB cJ cR ks ad Psi) : zMet l D cI cZ cB cJ cR zKS ks ad Psi yX3_number (.code yX3_number cX3_number 3 (some .long)) 0 zc_538 :=
  zmet_of hw 0 (by decide) 4000 zk_538 (by decide) (by decide) (fun X => ⟨zg_RX3 X, zp_RX3 X, zl1_RX3 X, zl2_RX3 X, nilz, nilz⟩)
set_option maxRecDepth 100000 in
theorem zk_539 : zmeth zKS zuq zNS zm_539 4000 = true := zqF (zdt_X3_number) (by decide +kernel)
theorem zM_539 {l : Launch} {D : va_G} {cI cZ cB cJ cR : ClassId} {ks ad : List Nat} {Psi : va_W → Prop} (hw : zworld ks ad zuq zNS Psi) (hm : zMan l D cI cZ cB cJ cR ks ad Psi) : zMet l D cI cZ cB cJ cR zKS ks ad Psi yX3_number (.code yX3_number cX3_number 3 (some .long)) 0 zc_539 :=
  zmet_of hw 0 (by decide) 4000 zk_539 (by decide) (by decide) (fun X => ⟨zg_RX3 X, zp_RX3 X, zl1_RX3 X, zl2_RX3 X, nilz, nilz⟩)
set_option maxRecDepth 100000 in
theorem zk_540 : zmeth zKS zuq zNS zm_540 4000 = true := zqF (zdt_X3_number) (by decide +kernel)
theorem zM_540 {l : Launch} {D : va_G} {cI cZ cB cJ cR : ClassId} {ks ad : List Nat} {Psi : va_W → Prop} (hw : zworld ks ad zuq zNS Psi) (hm : zMan l D cI cZ cB cJ cR ks ad Psi) : zMet l D cI cZ cB cJ cR zKS ks ad Psi yX3_number (.code yX3_number cX3_number 3 (some .long)) 0 zc_540 :=
  zmet_of hw 0 (by decide) 4000 zk_540 (by decide) (by decide) (fun X => ⟨zg_RX3 X, zp_RX3 X, zl1_RX3 X, zl2_RX3 X, nilz, nilz⟩)
set_option maxRecDepth 100000 in
theorem zk_541 : zmeth zKS zuq zNS zm_541 4000 = true := zqF (zdt_X3_number) (by decide +kernel)
theorem zM_541 {l : Launch} {D : va_G} {cI cZ cB cJ cR : ClassId} {ks ad : List Nat} {Psi : va_W → Prop} (hw : zworld ks ad zuq zNS Psi) (hm : zMan l D cI cZ cB cJ cR ks ad Psi) : zMet l D cI cZ cB cJ cR zKS ks ad Psi yX3_number (.code yX3_number cX3_number 3 (some .long)) 0 zc_541 :=
  zmet_of hw 0 (by decide) 4000 zk_541 (by decide) (by decide) (fun X => ⟨zg_RX3 X, zp_RX3 X, zl1_RX3 X, zl2_RX3 X, nilz, nilz⟩)
set_option maxRecDepth 100000 in
theorem zk_542 : zmeth zKS zuq zNS zm_542 4000 = true := zqF (zdt_X3_number) (by decide +kernel)
theorem zM_542 {l : Launch} {D : va_G} {cI cZ cB cJ cR : ClassId} {ks ad : List Nat} {Psi : va_W → Prop} (hw : zworld ks ad zuq zNS Psi) (hm : zMan l D cI cZ cB cJ cR ks ad Psi) : zMet l D cI cZ cB cJ cR zKS ks ad Psi yX3_number (.code yX3_number cX3_number 3 (some .long)) 0 zc_542 :=
  zmet_of hw 0 (by decide) 4000 zk_542 (by decide) (by decide) (fun X => ⟨zg_RX3 X, zp_RX3 X, zl1_RX3 X, zl2_RX3 X, nilz, nilz⟩)
set_option maxRecDepth 100000 in
theorem zk_543 : zmeth zKS zuq zNS zm_543 4000 = true := zqF (zdt_X3_number) (by decide +kernel)
theorem zM_543 {l : Launch} {D : va_G} {cI cZ cB cJ cR : ClassId} {ks ad : List Nat} {Psi : va_W → Prop} (hw : zworld ks ad zuq zNS Psi) (hm : zMan l D cI cZ cB cJ cR ks ad Psi) : zMet l D cI cZ cB cJ cR zKS ks ad Psi yX3_number (.code yX3_number cX3_number 3 (some .long)) 0 zc_543 :=
  zmet_of hw 0 (by decide) 4000 zk_543 (by decide) (by decide) (fun X => ⟨zg_RX3 X, zp_RX3 X, zl1_RX3 X, zl2_RX3 X, nilz, nilz⟩)
set_option maxRecDepth 100000 in
theorem zk_544 : zmeth zKS zuq zNS zm_544 4000 = true := zqF (zdt_X3_number) (by decide +kernel)
theorem zM_544 {l : Launch} {D : va_G} {cI cZ cB cJ cR : ClassId} {ks ad : List Nat} {Psi : va_W → Prop} (hw : zworld ks ad zuq zNS Psi) (hm : zMan l D cI cZ cB cJ cR ks ad Psi) : zMet l D cI cZ cB cJ cR zKS ks ad Psi yX3_number (.code yX3_number cX3_number 3 (some .long)) 0 zc_544 :=
  zmet_of hw 0 (by decide) 4000 zk_544 (by decide) (by decide) (fun X => ⟨zg_RX3 X, zp_RX3 X, zl1_RX3 X, zl2_RX3 X, nilz, nilz⟩)
set_option maxRecDepth 100000 in
theorem zk_545 : zmeth zKS zuq zNS zm_545 4000 = true := zqF (zdt_X3_number) (by decide +kernel)
theorem zM_545 {l : Launch} {D : va_G} {cI cZ cB cJ cR : ClassId} {ks ad : List Nat} {Psi : va_W → Prop} (hw : zworld ks ad zuq zNS Psi) (hm : zMan l D cI cZ cB cJ cR ks ad Psi) : zMet l D cI cZ cB cJ cR zKS ks ad Psi yX3_number (.code yX3_number cX3_number 3 (some .long)) 0 zc_545 :=
  zmet_of hw 0 (by decide) 4000 zk_545 (by decide) (by decide) (fun X => ⟨zg_RX3 X, zp_RX3 X, zl1_RX3 X, zl2_RX3 X, nilz, nilz⟩)
set_option maxRecDepth 100000 in
theorem zk_546 : zmeth zKS zuq zNS zm_546 4000 = true := zqF (zdt_X3_number) (by decide +kernel)
theorem zM_546 {l : Launch} {D : va_G} {cI cZ cB cJ cR : ClassId} {ks ad : List Nat} {Psi : va_W → Prop} (hw : zworld ks ad zuq zNS Psi) (hm : zMan l D cI cZ cB cJ cR ks ad Psi) : zMet l D cI cZ cB cJ cR zKS ks ad Psi yX3_number (.code yX3_number cX3_number 3 (some .long)) 0 zc_546 :=
  zmet_of hw 0 (by decide) 4000 zk_546 (by decide) (by decide) (fun X => ⟨zg_RX3 X, zp_RX3 X, zl1_RX3 X, zl2_RX3 X, nilz, nilz⟩)
set_option maxRecDepth 100000 in
theorem zk_547 : zmeth zKS zuq zNS zm_547 4000 = true := zqF (zdt_X3_number) (by decide +kernel)
theorem zM_547 {l : Launch} {D : va_G} {cI cZ cB cJ cR : ClassId} {ks ad : List Nat} {Psi : va_W → Prop} (hw : zworld ks ad zuq zNS Psi) (hm : zMan l D cI cZ cB cJ cR ks ad Psi) : zMet l D cI cZ cB cJ cR zKS ks ad Psi yX3_number (.code yX3_number cX3_number 3 (some .long)) 0 zc_547 :=
  zmet_of hw 0 (by decide) 4000 zk_547 (by decide) (by decide) (fun X => ⟨zg_RX3 X, zp_RX3 X, zl1_RX3 X, zl2_RX3 X, nilz, nilz⟩)
set_option maxRecDepth 100000 in
theorem zk_548 : zmeth zKS zuq zNS zm_548 4000 = true := zqF (zdt_X3_number) (by decide +kernel)
theorem zM_548 {l : Launch} {D : va_G} {cI cZ cB cJ cR : ClassId} {ks ad : List Nat} {Psi : va_W → Prop} (hw : zworld ks ad zuq zNS Psi) (hm : zMan l D cI cZ cB cJ cR ks ad Psi) : zMet l D cI cZ cB cJ cR zKS ks ad Psi yX3_number (.code yX3_number cX3_number 3 (some .long)) 0 zc_548 :=
  zmet_of hw 0 (by decide) 4000 zk_548 (by decide) (by decide) (fun X => ⟨zg_RX3 X, zp_RX3 X, zl1_RX3 X, zl2_RX3 X, nilz, nilz⟩)
set_option maxRecDepth 100000 in
theorem zk_549 : zmeth zKS zuq zNS zm_549 4000 = true := zqF (zdt_X3_number) (by decide +kernel)
theorem zM_549 {l : Launch} {D : va_G} {cI cZ cB cJ cR : ClassId} {ks ad : List Nat} {Psi : va_W → Prop} (hw : zworld ks ad zuq zNS Psi) (hm : zMan l D cI cZ cB cJ cR ks ad Psi) : zMet l D cI cZ cB cJ cR zKS ks ad Psi yX3_number (.code yX3_number cX3_number 3 (some .long)) 0 zc_549 :=
  zmet_of hw 0 (by decide) 4000 zk_549 (by decide) (by decide) (fun X => ⟨zg_RX3 X, zp_RX3 X, zl1_RX3 X, zl2_RX3 X, nilz, nilz⟩)
set_option maxRecDepth 100000 in
theorem zk_550 : zmeth zKS zuq zNS zm_550 4000 = true := zqF (zdt_X3_number) (by decide +kernel)
theorem zM_550 {l : Launch} {D : va_G} {cI cZ cB cJ cR : ClassId} {ks ad : List Nat} {Psi : va_W → Prop} (hw : zworld ks ad zuq zNS Psi) (hm : zMan l D cI cZ cB cJ cR ks ad Psi) : zMet l D cI cZ cB cJ cR zKS ks ad Psi yX3_number (.code yX3_number cX3_number 3 (some .long)) 0 zc_550 :=
  zmet_of hw 0 (by decide) 4000 zk_550 (by decide) (by decide) (fun X => ⟨zg_RX3 X, zp_RX3 X, zl1_RX3 X, zl2_RX3 X, nilz, nilz⟩)
set_option maxRecDepth 100000 in
theorem zk_551 : zmeth zKS zuq zNS zm_551 4000 = true := zqF (zdt_X3_number) (by decide +kernel)
theorem zM_551 {l : Launch} {D : va_G} {cI cZ cB cJ cR : ClassId} {ks ad : List Nat} {Psi : va_W → Prop} (hw : zworld ks ad zuq zNS Psi) (hm : zMan l D cI cZ cB cJ cR ks ad Psi) : zMet l D cI cZ cB cJ cR zKS ks ad Psi yX3_number (.code yX3_number cX3_number 3 (some .long)) 0 zc_551 :=
  zmet_of hw 0 (by decide) 4000 zk_551 (by decide) (by decide) (fun X => ⟨zg_RX3 X, zp_RX3 X, zl1_RX3 X, zl2_RX3 X, nilz, nilz⟩)
set_option maxRecDepth 100000 in
theorem zk_552 : zmeth zKS zuq zNS zm_552 4000 = true := zqF (zdt_X3_number) (by decide +kernel)
theorem zM_552 {l : Launch} {D : va_G} {cI cZ cB cJ cR : ClassId} {ks ad : List Nat} {Psi : va_W → Prop} (hw : zworld ks ad zuq zNS Psi) (hm : zMan l D cI cZ cB cJ cR ks ad Psi) : zMet l D cI cZ cB cJ cR zKS ks ad Psi yX3_number (.code yX3_number cX3_number 3 (some .long)) 0 zc_552 :=
  zmet_of hw 0 (by decide) 4000 zk_552 (by decide) (by decide) (fun X => ⟨zg_RX3 X, zp_RX3 X, zl1_RX3 X, zl2_RX3 X, nilz, nilz⟩)
set_option maxRecDepth 100000 in
theorem zk_553 : zmeth zKS zuq zNS zm_553 4000 = true := zqF (zdt_X3_number) (by decide +kernel)
theorem zM_553 {l : Launch} {D : va_G} {cI cZ cB cJ cR : ClassId} {ks ad : List Nat} {Psi : va_W → Prop} (hw : zworld ks ad zuq zNS Psi) (hm : zMan l D cI cZ cB cJ cR ks ad Psi) : zMet l D cI cZ cB cJ cR zKS ks ad Psi yX3_number (.code yX3_number cX3_number 3 (some .long)) 0 zc_553 :=
  zmet_of hw 0 (by decide) 4000 zk_553 (by decide) (by decide) (fun X => ⟨zg_RX3 X, zp_RX3 X, zl1_RX3 X, zl2_RX3 X, nilz, nilz⟩)
set_option maxRecDepth 100000 in
theorem zk_554 : zmeth zKS zuq zNS zm_554 4000 = true := zqF (zdt_X3_number) (by decide +kernel)
theorem zM_554 {l : Launch} {D : va_G} {cI cZ cB cJ cR : ClassId} {ks ad : List Nat} {Psi : va_W → Prop} (hw : zworld ks ad zuq zNS Psi) (hm : zMan l D cI cZ cB cJ cR ks ad Psi) : zMet l D cI cZ cB cJ cR zKS ks ad Psi yX3_number (.code yX3_number cX3_number 3 (some .long)) 0 zc_554 :=
  zmet_of hw 0 (by decide) 4000 zk_554 (by decide) (by decide) (fun X => ⟨zg_RX3 X, zp_RX3 X, zl1_RX3 X, zl2_RX3 X, nilz, nilz⟩)
set_option maxRecDepth 100000 in
theorem zk_555 : zmeth zKS zuq zNS zm_555 4000 = true := zqF (zdt_X3_number) (by decide +kernel)
theorem zM_555 {l : Launch} {D : va_G} {cI cZ cB cJ cR : ClassId} {ks ad : List Nat} {Psi : va_W → Prop} (hw : zworld ks ad zuq zNS Psi) (hm : zMan l D cI cZ cB cJ cR ks ad Psi) : zMet l D cI cZ cB cJ cR zKS ks ad Psi yX3_number (.code yX3_number cX3_number 3 (some .long)) 0 zc_555 :=
  zmet_of hw 0 (by decide) 4000 zk_555 (by decide) (by decide) (fun X => ⟨zg_RX3 X, zp_RX3 X, zl1_RX3 X, zl2_RX3 X, nilz, nilz⟩)
set_option maxRecDepth 100000 in
theorem zk_556 : zmeth zKS zuq zNS zm_556 4000 = true := zqF (zdt_X3_number) (by decide +kernel)
theorem zM_556 {l : Launch} {D : va_G} {cI cZ cB cJ cR : ClassId} {ks ad : List Nat} {Psi : va_W → Prop} (hw : zworld ks ad zuq zNS Psi) (hm : zMan l D cI cZ cB cJ cR ks ad Psi) : zMet l D cI cZ cB cJ cR zKS ks ad Psi yX3_number (.code yX3_number cX3_number 3 (some .long)) 0 zc_556 :=
  zmet_of hw 0 (by decide) 4000 zk_556 (by decide) (by decide) (fun X => ⟨zg_RX3 X, zp_RX3 X, zl1_RX3 X, zl2_RX3 X, nilz, nilz⟩)
set_option maxRecDepth 100000 in
theorem zk_557 : zmeth zKS zuq zNS zm_557 4000 = true := zqF (zdt_X3_number) (by decide +kernel)
theorem zM_557 {l : Launch} {D : va_G} {cI cZ cB cJ cR : ClassId} {ks ad : List Nat} {Psi : va_W → Prop} (hw : zworld ks ad zuq zNS Psi) (hm : zMan l D cI cZ cB cJ cR ks ad Psi) : zMet l D cI cZ cB cJ cR zKS ks ad Psi yX3_number (.code yX3_number cX3_number 3 (some .long)) 0 zc_557 :=
  zmet_of hw 0 (by decide) 4000 zk_557 (by decide) (by decide) (fun X => ⟨zg_RX3 X, zp_RX3 X, zl1_RX3 X, zl2_RX3 X, nilz, nilz⟩)
set_option maxRecDepth 100000 in
theorem zk_558 : zmeth zKS zuq zNS zm_558 4000 = true := zqF (zdt_X3_number) (by decide +kernel)
theorem zM_558 {l : Launch} {D : va_G} {cI cZ cB cJ cR : ClassId} {ks ad : List Nat} {Psi : va_W → Prop} (hw : zworld ks ad zuq zNS Psi) (hm : zMan l D cI cZ cB cJ cR ks ad Psi) : zMet l D cI cZ cB cJ cR zKS ks ad Psi yX3_number (.code yX3_number cX3_number 3 (some .long)) 0 zc_558 :=
  zmet_of hw 0 (by decide) 4000 zk_558 (by decide) (by decide) (fun X => ⟨zg_RX3 X, zp_RX3 X, zl1_RX3 X, zl2_RX3 X, nilz, nilz⟩)
set_option maxRecDepth 100000 in
theorem zk_559 : zmeth zKS zuq zNS zm_559 4000 = true := zqF (zdt_X3_number) (by decide +kernel)
theorem zM_559 {l : Launch} {D : va_G} {cI cZ cB cJ cR : ClassId} {ks ad : List Nat} {Psi : va_W → Prop} (hw : zworld ks ad zuq zNS Psi) (hm : zMan l D cI cZ cB cJ cR ks ad Psi) : zMet l D cI cZ cB cJ cR zKS ks ad Psi yX3_number (.code yX3_number cX3_number 3 (some .long)) 0 zc_559 :=
  zmet_of hw 0 (by decide) 4000 zk_559 (by decide) (by decide) (fun X => ⟨zg_RX3 X, zp_RX3 X, zl1_RX3 X, zl2_RX3 X, nilz, nilz⟩)
set_option maxRecDepth 100000 in
theorem zk_560 : zmeth zKS zuq zNS zm_560 4000 = true := zqF (zdt_X3_number) (by decide +kernel)
theorem zM_560 {l : Launch} {D : va_G} {cI cZ cB cJ cR : ClassId} {ks ad : List Nat} {Psi : va_W → Prop} (hw : zworld ks ad zuq zNS Psi) (hm : zMan l D cI cZ cB cJ cR ks ad Psi) : zMet l D cI cZ cB cJ cR zKS ks ad Psi yX3_number (.code yX3_number cX3_number 3 (some .long)) 0 zc_560 :=
  zmet_of hw 0 (by decide) 4000 zk_560 (by decide) (by decide) (fun X => ⟨zg_RX3 X, zp_RX3 X, zl1_RX3 X, zl2_RX3 X, nilz, nilz⟩)
set_option maxRecDepth 100000 in
theorem zk_561 : zmeth zKS zuq zNS zm_561 4000 = true := zqF (zdt_X3_number) (by decide +kernel)
theorem zM_561 {l : Launch} {D : va_G} {cI cZ cB cJ cR : ClassId} {ks ad : List Nat} {Psi : va_W → Prop} (hw : zworld ks ad zuq zNS Psi) (hm : zMan l D cI cZ cB cJ cR ks ad Psi) : zMet l D cI cZ cB cJ cR zKS ks ad Psi yX3_number (.code yX3_number cX3_number 3 (some .long)) 0 zc_561 :=
  zmet_of hw 0 (by decide) 4000 zk_561 (by decide) (by decide) (fun X => ⟨zg_RX3 X, zp_RX3 X, zl1_RX3 X, zl2_RX3 X, nilz, nilz⟩)
set_option maxRecDepth 100000 in
theorem zk_562 : zmeth zKS zuq zNS zm_562 4000 = true := zqF (zdt_X3_number) (by decide +kernel)
theorem zM_562 {l : Launch} {D : va_G} {cI cZ cB cJ cR : ClassId} {ks ad : List Nat} {Psi : va_W → Prop} (hw : zworld ks ad zuq zNS Psi) (hm : zMan l D cI cZ cB cJ cR ks ad Psi) : zMet l D cI cZ cB cJ cR zKS ks ad Psi yX3_number (.code yX3_number cX3_number 3 (some .long)) 0 zc_562 :=
  zmet_of hw 0 (by decide) 4000 zk_562 (by decide) (by decide) (fun X => ⟨zg_RX3 X, zp_RX3 X, zl1_RX3 X, zl2_RX3 X, nilz, nilz⟩)
set_option maxRecDepth 100000 in
theorem zk_563 : zmeth zKS zuq zNS zm_563 4000 = true := zqF (zdt_X3_number) (by decide +kernel)
theorem zM_563 {l : Launch} {D : va_G} {cI cZ cB cJ cR : ClassId} {ks ad : List Nat} {Psi : va_W → Prop} (hw : zworld ks ad zuq zNS Psi) (hm : zMan l D cI cZ cB cJ cR ks ad Psi) : zMet l D cI cZ cB cJ cR zKS ks ad Psi yX3_number (.code yX3_number cX3_number 3 (some .long)) 0 zc_563 :=
  zmet_of hw 0 (by decide) 4000 zk_563 (by decide) (by decide) (fun X => ⟨zg_RX3 X, zp_RX3 X, zl1_RX3 X, zl2_RX3 X, nilz, nilz⟩)
set_option maxRecDepth 100000 in
theorem zk_564 : zmeth zKS zuq zNS zm_564 4000 = true := zqF (zdt_X3_number) (by decide +kernel)
theorem zM_564 {l : Launch} {D : va_G} {cI cZ cB cJ cR : ClassId} {ks ad : List Nat} {Psi : va_W → Prop} (hw : zworld ks ad zuq zNS Psi) (hm : zMan l D cI cZ cB cJ cR ks ad Psi) : zMet l D cI cZ cB cJ cR zKS ks ad Psi yX3_number (.code yX3_number cX3_number 3 (some .long)) 0 zc_564 :=
  zmet_of hw 0 (by decide) 4000 zk_564 (by decide) (by decide) (fun X => ⟨zg_RX3 X, zp_RX3 X, zl1_RX3 X, zl2_RX3 X, nilz, nilz⟩)
set_option maxRecDepth 100000 in
theorem zk_565 : zmeth zKS zuq zNS zm_565 4000 = true := zqF (zdt_X3_number) (by decide +kernel)
theorem zM_565 {l : Launch} {D : va_G} {cI cZ cB cJ cR : ClassId} {ks ad : List Nat} {Psi : va_W → Prop} (hw : zworld ks ad zuq zNS Psi) (hm : zMan l D cI cZ cB cJ cR ks ad Psi) : zMet l D cI cZ cB cJ cR zKS ks ad Psi yX3_number (.code yX3_number cX3_number 3 (some .long)) 0 zc_565 :=
  zmet_of hw 0 (by decide) 4000 zk_565 (by decide) (by decide) (fun X => ⟨zg_RX3 X, zp_RX3 X, zl1_RX3 X, zl2_RX3 X, nilz, nilz⟩)
set_option maxRecDepth 100000 in
theorem zk_566 : zmeth zKS zuq zNS zm_566 4000 = true := zqF (zdt_X3_number) (by decide +kernel)
theorem zM_566 {l : Launch} {D : va_G} {cI cZ cB cJ cR : ClassId} {ks ad : List Nat} {Psi : va_W → Prop} (hw : zworld ks ad zuq zNS Psi) (hm : zMan l D cI cZ cB cJ cR ks ad Psi) : zMet l D cI cZ cB cJ cR zKS ks ad Psi yX3_number (.code yX3_number cX3_number 3 (some .long)) 0 zc_566 :=
  zmet_of hw 0 (by decide) 4000 zk_566 (by decide) (by decide) (fun X => ⟨zg_RX3 X, zp_RX3 X, zl1_RX3 X, zl2_RX3 X, nilz, nilz⟩)
set_option maxRecDepth 100000 in
theorem zk_567 : zmeth zKS zuq zNS zm_567 4000 = true := zqF (zdt_X3_number) (by decide +kernel)
theorem zM_567 {l : Launch} {D : va_G} {cI cZ cB cJ cR : ClassId} {ks ad : List Nat} {Psi : va_W → Prop} (hw : zworld ks ad zuq zNS Psi) (hm : zMan l D cI cZ cB cJ cR ks ad Psi) : zMet l D cI cZ cB cJ cR zKS ks ad Psi yX3_number (.code yX3_number cX3_number 3 (some .long)) 0 zc_567 :=
  zmet_of hw 0 (by decide) 4000 zk_567 (by decide) (by decide) (fun X => ⟨zg_RX3 X, zp_RX3 X, zl1_RX3 X, zl2_RX3 X, nilz, nilz⟩)
set_option maxRecDepth 100000 in
theorem zk_568 : zmeth zKS zuq zNS zm_568 4000 = true := zqF (zdt_X3_number) (by decide +kernel)
theorem zM_568 {l : Launch} {D : va_G} {cI cZ cB cJ cR : ClassId} {ks ad : List Nat} {Psi : va_W → Prop} (hw : zworld ks ad zuq zNS Psi) (hm : zMan l D cI cZ cB cJ cR ks ad Psi) : zMet l D cI cZ cB cJ cR zKS ks ad Psi yX3_number (.code yX3_number cX3_number 3 (some .long)) 0 zc_568 :=
  zmet_of hw 0 (by decide) 4000 zk_568 (by decide) (by decide) (fun X => ⟨zg_RX3 X, zp_RX3 X, zl1_RX3 X, zl2_RX3 X, nilz, nilz⟩)
set_option maxRecDepth 100000 in
theorem zk_569 : zmeth zKS zuq zNS zm_569 4000 = true := zqF (zdt_X3_number) (by decide +kernel)
theorem zM_569 {l : Launch} {D : va_G} {cI cZ cB cJ cR : ClassId} {ks ad : List Nat} {Psi : va_W → Prop} (hw : zworld ks ad zuq zNS Psi) (hm : zMan l D cI cZ cB cJ cR ks ad Psi) : zMet l D cI cZ cB cJ cR zKS ks ad Psi yX3_number (.code yX3_number cX3_number 3 (some .long)) 0 zc_569 :=
  zmet_of hw 0 (by decide) 4000 zk_569 (by decide) (by decide) (fun X => ⟨zg_RX3 X, zp_RX3 X, zl1_RX3 X, zl2_RX3 X, nilz, nilz⟩)
set_option maxRecDepth 100000 in
theorem zk_570 : zmeth zKS zuq zNS zm_570 4000 = true := zqF (zdt_X3_number) (by decide +kernel)
theorem zM_570 {l : Launch} {D : va_G} {cI cZ cB cJ cR : ClassId} {ks ad : List Nat} {Psi : va_W → Prop} (hw : zworld ks ad zuq zNS Psi) (hm : zMan l D cI cZ cB cJ cR ks ad Psi) : zMet l D cI cZ cB cJ cR zKS ks ad Psi yX3_number (.code yX3_number cX3_number 3 (some .long)) 0 zc_570 :=
  zmet_of hw 0 (by decide) 4000 zk_570 (by decide) (by decide) (fun X => ⟨zg_RX3 X, zp_RX3 X, zl1_RX3 X, zl2_RX3 X, nilz, nilz⟩)
set_option maxRecDepth 100000 in
theorem zk_571 : zmeth zKS zuq zNS zm_571 4000 = true := zqF (zdt_X3_number) (by decide +kernel)
theorem zM_571 {l : Launch} {D : va_G} {cI cZ cB cJ cR : ClassId} {ks ad : List Nat} {Psi : va_W → Prop} (hw : zworld ks ad zuq zNS Psi) (hm : zMan l D cI cZ cB cJ cR ks ad Psi) : zMet l D cI cZ cB cJ cR zKS ks ad Psi yX3_number (.code yX3_number cX3_number 3 (some .long)) 0 zc_571 :=
  zmet_of hw 0 (by decide) 4000 zk_571 (by decide) (by decide) (fun X => ⟨zg_RX3 X, zp_RX3 X, zl1_RX3 X, zl2_RX3 X, nilz, nilz⟩)
set_option maxRecDepth 100000 in
theorem zk_572 : zmeth zKS zuq zNS zm_572 4000 = true := zqF (zdt_X3_number) (by decide +kernel)
theorem zM_572 {l : Launch} {D : va_G} {cI cZ cB cJ cR : ClassId} {ks ad : List Nat} {Psi : va_W → Prop} (hw : zworld ks ad zuq zNS Psi) (hm : zMan l D cI cZ cB cJ cR ks ad Psi) : zMet l D cI cZ cB cJ cR zKS ks ad Psi yX3_number (.code yX3_number cX3_number 3 (some .long)) 0 zc_572 :=
  zmet_of hw 0 (by decide) 4000 zk_572 (by decide) (by decide) (fun X => ⟨zg_RX3 X, zp_RX3 X, zl1_RX3 X, zl2_RX3 X, nilz, nilz⟩)
set_option maxRecDepth 100000 in
theorem zk_573 : zmeth zKS zuq zNS zm_573 4000 = true := zqF (zdt_X3_number) (by decide +kernel)
theorem zM_573 {l : Launch} {D : va_G} {cI cZ cB cJ cR : ClassId} {ks ad : List Nat} {Psi : va_W → Prop} (hw : zworld ks ad zuq zNS Psi) (hm : zMan l D cI cZ cB cJ cR ks ad Psi) : zMet l D cI cZ cB cJ cR zKS ks ad Psi yX3_number (.code yX3_number cX3_number 3 (some .long)) 0 zc_573 :=
  zmet_of hw 0 (by decide) 4000 zk_573 (by decide) (by decide) (fun X => ⟨zg_RX3 X, zp_RX3 X, zl1_RX3 X, zl2_RX3 X, nilz, nilz⟩)
set_option maxRecDepth 100000 in
theorem zk_574 : zmeth zKS zuq zNS zm_574 4000 = true := zqF (zdt_X3_number) (by decide +kernel)
theorem zM_574 {l : Launch} {D : va_G} {cI cZ cB cJ cR : ClassId} {ks ad : List Nat} {Psi : va_W → Prop} (hw : zworld ks ad zuq zNS Psi) (hm : zMan l D cI cZ cB cJ cR ks ad Psi) : zMet l D cI cZ cB cJ cR zKS ks ad Psi yX3_number (.code yX3_number cX3_number 3 (some .long)) 0 zc_574 :=
  zmet_of hw 0 (by decide) 4000 zk_574 (by decide) (by decide) (fun X => ⟨zg_RX3 X, zp_RX3 X, zl1_RX3 X, zl2_RX3 X, nilz, nilz⟩)
