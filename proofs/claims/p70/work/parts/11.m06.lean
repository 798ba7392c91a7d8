set_option maxRecDepth 100000 in
theorem zk_575 : zmeth zKS zuq zNS zm_575 4000 = true := zqF (zdt_X3_number) (by decide +kernel)
theorem zM_575 {l : Launch} {D : va_G} {cI cZ cB cJ cR : ClassId} {ks ad : List Nat} {Psi : va_W → Prop} (hw : zworld ks ad zuq zNS Psi) (hm : zMan l D cI cZ cB cJ cR ks ad Psi) : zMet l D cI cZ cB cJ cR zKS ks ad Psi yX3_number (.code yX3_number cX3_number 3 (some .long)) 0 zc_575 :=
  zmet_of hw 0 (by decide) 4000 zk_575 (by decide) (by decide) (fun X => ⟨zg_RX3 X, zp_RX3 X, zl1_RX3 X, zl2_RX3 X, nilz, nilz⟩)
set_option maxRecDepth 100000 in
theorem zk_576 : zmeth zKS zuq zNS zm_576 4000 = true := zqF (zdt_X3_number) (by decide +kernel)
theorem zM_576 {l : Launch} {D : va_G} {cI cZ cB cJ cR : ClassId} {ks ad : List Nat} {Psi : va_W → Prop} (hw : zworld ks ad zuq zNS Psi) (hm : zMan l D cI cZ cB cJ cR ks ad Psi) : zMet l D cI cZ cB cJ cR zKS ks ad Psi yX3_number (.code yX3_number cX3_number 3 (some .long)) 0 zc_576 :=
  zmet_of hw 0 (by decide) 4000 zk_576 (by decide) (by decide) (fun X => ⟨zg_RX3 X, zp_RX3 X, zl1_RX3 X, zl2_RX3 X, nilz, nilz⟩)
set_option maxRecDepth 100000 in
theorem zk_577 : zmeth zKS zuq zNS zm_577 4000 = true := zqF (zdt_X3_number) (by decide +kernel)
theorem zM_577 {l : Launch} {D : va_G} {cI cZ cB cJ cR : ClassId} {ks ad : List Nat} {Psi : va_W → Prop} (hw : zworld ks ad zuq zNS Psi) (hm : zMan l D cI cZ cB cJ cR ks ad Psi) : zMet l D cI cZ cB cJ cR zKS ks ad Psi yX3_number (.code yX3_number cX3_number 3 (some .long)) 0 zc_577 :=
  zmet_of hw 0 (by decide) 4000 zk_577 (by decide) (by decide) (fun X => ⟨zg_RX3 X, zp_RX3 X, zl1_RX3 X, zl2_RX3 X, nilz, nilz⟩)
set_option maxRecDepth 100000 in
theorem zk_578 : zmeth zKS zuq zNS zm_578 4000 = true := zqF (zdt_X3_number) (by decide +kernel)
theorem zM_578 {l : Launch} {D : va_G} {cI cZ cB cJ cR : ClassId} {ks ad : List Nat} {Psi : va_W → Prop} (hw : zworld ks ad zuq zNS Psi) (hm : zMan l D cI cZ cB cJ cR ks ad Psi) : zMet l D cI cZ cB cJ cR zKS ks ad Psi yX3_number (.code yX3_number cX3_number 3 (some .long)) 0 zc_578 :=
  zmet_of hw 0 (by decide) 4000 zk_578 (by decide) (by decide) (fun X => ⟨zg_RX3 X, zp_RX3 X, zl1_RX3 X, zl2_RX3 X, nilz, nilz⟩)
set_option maxRecDepth 100000 in
theorem zk_579 : zmeth zKS zuq zNS zm_579 4000 = true := zqF (zdt_X3_number) (by decide +kernel)
theorem zM_579 {l : Launch} {D : va_G} {cI cZ cB cJ cR : ClassId} {ks ad : List Nat} {Psi : va_W → Prop} (hw : zworld ks ad zuq zNS Psi) (hm : zMan l D cI cZ cB cJ cR ks ad Psi) : zMet l D cI cZ cB cJ cR zKS ks ad Psi yX3_number (.code yX3_number cX3_number 3 (some .long)) 0 zc_579 :=
  zmet_of hw 0 (by decide) 4000 zk_579 (by decide) (by decide) (fun X => ⟨zg_RX3 X, zp_RX3 X, zl1_RX3 X, zl2_RX3 X, nilz, nilz⟩)
set_option maxRecDepth 100000 in
theorem zk_580 : zmeth zKS zuq zNS zm_580 4000 = true := zqF (zdt_X3_number) (by decide +kernel)
theorem zM_580 {l : Launch} {D : va_G} {cI cZ cB cJ cR : ClassId} {ks ad : List Nat} {Psi : va_W → Prop} (hw : zworld ks ad zuq zNS Psi) (hm : zMan l D cI cZ cB cJ cR ks ad Psi) : zMet l D cI cZ cB cJ cR zKS ks ad Psi yX3_number (.code yX3_number cX3_number 3 (some .long)) 0 zc_580 :=
  zmet_of hw 0 (by decide) 4000 zk_580 (by decide) (by decide) (fun X => ⟨zg_RX3 X, zp_RX3 X, zl1_RX3 X, zl2_RX3 X, nilz, nilz⟩)
set_option maxRecDepth 100000 in
theorem zk_581 : zmeth zKS zuq zNS zm_581 4000 = true := zqF (zdt_X3_number) (by decide +kernel)
theorem zM_581 {l : Launch} {D : va_G} {cI cZ cB cJ cR : ClassId} {ks ad : List Nat} {Psi : va_W → Prop} (hw : zworld ks ad zuq zNS Psi) (hm : zMan l D cI cZ cB cJ cR ks ad Psi) : zMet l D cI cZ cB cJ cR zKS ks ad Psi yX3_number (.code yX3_number cX3_number 3 (some .long)) 0 zc_581 :=
  zmet_of hw 0 (by decide) 4000 zk_581 (by decide) (by decide) (fun X => ⟨zg_RX3 X, zp_RX3 X, zl1_RX3 X, zl2_RX3 X, nilz, nilz⟩)
set_option maxRecDepth 100000 in
theorem zk_582 : zmeth zKS zuq zNS zm_582 4000 = true := zqF (zdt_X3_number) (by decide +kernel)
theorem zM_582 {l : Launch} {D : va_G} {cI cZ cB cJ cR : ClassId} {ks ad : List Nat} {Psi : va_W → Prop} (hw : zworld ks ad zuq zNS Psi) (hm : zMan l D cI cZ cB cJ cR ks ad Psi) : zMet l D cI cZ cB cJ cR zKS ks ad Psi yX3_number (.code yX3_number cX3_number 3 (some .long)) 0 zc_582 :=
  zmet_of hw 0 (by decide) 4000 zk_582 (by decide) (by decide) (fun X => ⟨zg_RX3 X, zp_RX3 X, zl1_RX3 X, zl2_RX3 X, nilz, nilz⟩)
set_option maxRecDepth 100000 in
theorem zk_583 : zmeth zKS zuq zNS zm_583 4000 = true := zqF (zdt_X3_number) (by decide +kernel)
theorem zM_583 {l : Launch} {D : va_G} {cI cZ cB cJ cR : ClassId} {ks ad : List Nat} {Psi : va_W → Prop} (hw : zworld ks ad zuq zNS Psi) (hm : zMan l D cI cZ cB cJ cR ks ad Psi) : zMet l D cI cZ cB cJ cR zKS ks ad Psi yX3_number (.code yX3_number cX3_number 3 (some .long)) 0 zc_583 :=
  zmet_of hw 0 (by decide) 4000 zk_583 (by decide) (by decide) (fun X => ⟨zg_RX3 X, zp_RX3 X, zl1_RX3 X, zl2_RX3 X, nilz, nilz⟩)
set_option maxRecDepth 100000 in
theorem zk_584 : zmeth zKS zuq zNS zm_584 4000 = true := zqF (zdt_X3_number) (by decide +kernel)
theorem zM_584 {l : Launch} {D : va_G} {cI cZ cB cJ cR : ClassId} {ks ad : List Nat} {Psi : va_W → Prop} (hw : zworld ks ad zuq zNS Psi) (hm : zMan l D cI cZ cB cJ cR ks ad Psi) : zMet l D cI cZ cB cJ cR zKS ks ad Psi yX3_number (.code yX3_number cX3_number 3 (some .long)) 0 zc_584 :=
  zmet_of hw 0 (by decide) 4000 zk_584 (by decide) (by decide) (fun X => ⟨zg_RX3 X, zp_RX3 X, zl1_RX3 X, zl2_RX3 X, nilz, nilz⟩)
set_option maxRecDepth 100000 in
theorem zk_585 : zmeth zKS zuq zNS zm_585 4000 = true := zqF (zdt_X3_number) (by decide +kernel)
theorem zM_585 {l : Launch} {D : va_G} {cI cZ cB cJ cR : ClassId} {ks ad : List Nat} {Psi : va_W → Prop} (hw : zworld ks ad zuq zNS Psi) (hm : zMan l D cI cZ cB cJ cR ks ad Psi) : zMet l D cI cZ cB cJ cR zKS ks ad Psi yX3_number (.code yX3_number cX3_number 3 (some .long)) 0 zc_585 :=
  zmet_of hw 0 (by decide) 4000 zk_585 (by decide) (by decide) (fun X => ⟨zg_RX3 X, zp_RX3 X, zl1_RX3 X, zl2_RX3 X, nilz, nilz⟩)
set_option maxRecDepth 100000 in
theorem zk_586 : zmeth zKS zuq zNS zm_586 4000 = true := zqF (zdt_X3_number) (by decide +kernel)
theorem zM_586 {l : Launch} {D : va_G} {cI cZ cB cJ cR : ClassId} {ks ad : List Nat} {Psi : va_W → Prop} (hw : zworld ks ad zuq zNS Psi) (hm : zMan l D cI cZ cB cJ cR ks ad Psi) : zMet l D cI cZ cB cJ cR zKS ks ad Psi yX3_number (.code yX3_number cX3_number 3 (some .long)) 0 zc_586 :=
  zmet_of hw 0 (by decide) 4000 zk_586 (by decide) (by decide) (fun X => ⟨zg_RX3 X, zp_RX3 X, zl1_RX3 X, zl2_RX3 X, nilz, nilz⟩)
set_option maxRecDepth 100000 in
theorem zk_587 : zmeth zKS zuq zNS zm_587 4000 = true := zqF (zdt_X3_number) (by decide +kernel)
theorem zM_587 {l : Launch} {D : va_G} {cI cZ cB cJ cR : ClassId} {ks ad : List Nat} {Psi : va_W → Prop} (hw : zworld ks ad zuq zNS Psi) (hm : zMan l D cI cZ cB cJ cR ks ad Psi) : zMet l D cI cZ cB cJ cR zKS ks ad Psi yX3_number (.code yX3_number cX3_number 3 (some .long)) 0 zc_587 :=
  zmet_of hw 0 (by decide) 4000 zk_587 (by decide) (by decide) (fun X => ⟨zg_RX3 X, zp_RX3 X, zl1_RX3 X, zl2_RX3 X, nilz, nilz⟩)
set_option maxRecDepth 100000 in
theorem zk_588 : zmeth zKS zuq zNS zm_588 4000 = true := zqF (zdt_X3_number) (by decide +kernel)
theorem zM_588 {l : Launch} {D : va_G} {cI cZ cB cJ cR : ClassId} {ks ad : List Nat} {Psi : va_W → Prop} (hw : zworld ks ad zuq zNS Psi) (hm : zMan l D cI cZ cB cJ cR ks ad Psi) : zMet l D cI cZ cB cJ cR zKS ks ad Psi yX3_number (.code yX3_number cX3_number 3 (some .long)) 0 zc_588 :=
  zmet_of hw 0 (by decide) 4000 zk_588 (by decide) (by decide) (fun X => ⟨zg_RX3 X, zp_RX3 X, zl1_RX3 X, zl2_RX3 X, nilz, nilz⟩)
set_option maxRecDepth 100000 in
theorem zk_589 : zmeth zKS zuq zNS zm_589 4000 = true := zqF (zdt_X3_number) (by decide +kernel)
theorem zM_589 {l : Launch} {D : va_G} {cI cZ cB cJ cR : ClassId} {ks ad : List Nat} {Psi : va_W → Prop} (hw : zworld ks ad zuq zNS Psi) (hm : zMan l D cI cZ cB cJ cR ks ad Psi) : zMet l D cI cZ cB cJ cR zKS ks ad Psi yX3_number (.code yX3_number cX3_number 3 (some .long)) 0 zc_589 :=
  zmet_of hw 0 (by decide) 4000 zk_589 (by decide) (by decide) (fun X => ⟨zg_RX3 X, zp_RX3 X, zl1_RX3 X, zl2_RX3 X, nilz, nilz⟩)
set_option maxRecDepth 100000 in
theorem zk_590 : zmeth zKS zuq zNS zm_590 4000 = true := zqF (zdt_X3_number) (by decide +kernel)
theorem zM_590 {l : Launch} {D : va_G} {cI cZ cB cJ cR : ClassId} {ks ad : List Nat} {Psi : va_W → Prop} (hw : zworld ks ad zuq zNS Psi) (hm : zMan l D cI cZ cB cJ cR ks ad Psi) : zMet l D cI cZ cB cJ cR zKS ks ad Psi yX3_number (.code yX3_number cX3_number 3 (some .long)) 0 zc_590 :=
  zmet_of hw 0 (by decide) 4000 zk_590 (by decide) (by decide) (fun X => ⟨zg_RX3 X, zp_RX3 X, zl1_RX3 X, zl2_RX3 X, nilz, nilz⟩)
set_option maxRecDepth 100000 in
theorem zk_591 : zmeth zKS zuq zNS zm_591 4000 = true := zqF (zdt_X3_number) (by decide +kernel)
theorem zM_591 {l : Launch} {D : va_G} {cI cZ cB cJ cR : ClassId} {ks ad : List Nat} {Psi : va_W → Prop} (hw : zworld ks ad zuq zNS Psi) (hm : zMan l D cI cZ cB cJ cR ks ad Psi) : zMet l D cI cZ cB cJ cR zKS ks ad Psi yX3_number (.code yX3_number cX3_number 3 (some .long)) 0 zc_591 :=
  zmet_of hw 0 (by decide) 4000 zk_591 (by decide) (by decide) (fun X => ⟨zg_RX3 X, zp_RX3 X, zl1_RX3 X, zl2_RX3 X, nilz, nilz⟩)
set_option maxRecDepth 100000 in
theorem zk_592 : zmeth zKS zuq zNS zm_592 4000 = true := zqF (zdt_X3_number) (by decide +kernel)
theorem zM_592 {l : Launch} {D : va_G} {cI cZ cB cJ cR : ClassId} {ks ad : List Nat} {Psi : va_W → Prop} (hw : zworld ks ad zuq zNS Psi) (hm : zMan l D cI cZ cB cJ cR ks ad Psi) : zMet l D cI cZ cB cJ cR zKS ks ad Psi yX3_number (.code yX3_number cX3_number 3 (some .long)) 0 zc_592 :=
  zmet_of hw 0 (by decide) 4000 zk_592 (by decide) (by decide) (fun X => ⟨zg_RX3 X, zp_RX3 X, zl1_RX3 X, zl2_RX3 X, nilz, nilz⟩)
set_option maxRecDepth 100000 in
theorem zk_593 : zmeth zKS zuq zNS zm_593 4000 = true := zqF (zdt_X3_number) (by decide +kernel)
theorem zM_593 {l : Launch} {D : va_G} {cI cZ cB cJ cR : ClassId} {ks ad : List Nat} {Psi : va_W → Prop} (hw : zworld ks ad zuq zNS Psi) (hm : zMan l D cI cZ cB cJ cR ks ad Psi) : zMet l D cI cZ cB cJ cR zKS ks ad Psi yX3_number (.code yX3_number cX3_number 3 (some .long)) 0 zc_593 :=
  zmet_of hw 0 (by decide) 4000 zk_593 (by decide) (by decide) (fun X => ⟨zg_RX3 X, zp_RX3 X, zl1_RX3 X, zl2_RX3 X, nilz, nilz⟩)
set_option maxRecDepth 100000 in
theorem zk_594 : zmeth zKS zuq zNS zm_594 4000 = true := zqF (zdt_X3_number) (by decide +kernel)
theorem zM_594 {l : Launch} {D : va_G} {cI cZ cB cJ cR : ClassId} {ks ad : List Nat} {Psi : va_W → Prop} (hw : zworld ks ad zuq zNS Psi) (hm : zMan l D cI cZ cB cJ cR ks ad Psi) : zMet l D cI cZ cB cJ cR zKS ks ad Psi yX3_number (.code yX3_number cX3_number 3 (some .long)) 0 zc_594 :=
  zmet_of hw 0 (by decide) 4000 zk_594 (by decide) (by decide) (fun X => ⟨zg_RX3 X, zp_RX3 X, zl1_RX3 X, zl2_RX3 X, nilz, nilz⟩)
set_option maxRecDepth 100000 in
theorem zk_595 : zmeth zKS zuq zNS zm_595 4000 = true := zqF (zdt_X3_number) (by decide +kernel)
theorem zM_595 {l : Launch} {D : va_G} {cI cZ cB cJ cR : ClassId} {ks ad : List Nat} {Psi : va_W → Prop} (hw : zworld ks ad zuq zNS Psi) (hm : zMan l D cI cZ cB cJ cR ks ad Psi) : zMet l D cI cZ cB cJ cR zKS ks ad Psi yX3_number (.code yX3_number cX3_number 3 (some .long)) 0 zc_595 :=
  zmet_of hw 0 (by decide) 4000 zk_595 (by decide) (by decide) (fun X => ⟨zg_RX3 X, zp_RX3 X, zl1_RX3 X, zl2_RX3 X, nilz, nilz⟩)
set_option maxRecDepth 100000 in
theorem zk_596 : zmeth zKS zuq zNS zm_596 4000 = true := zqF (zdt_X3_number) (by decide +kernel)
theorem zM_596 {l : Launch} {D : va_G} {cI cZ cB cJ cR : ClassId} {ks ad : List Nat} {Psi : va_W → Prop} (hw : zworld ks ad zuq zNS Psi) (hm : zMan l D cI cZ cB cJ cR ks ad Psi) : zMet l D cI cZ cB cJ cR zKS ks ad Psi yX3_number (.code yX3_number cX3_number 3 (some .long)) 0 zc_596 :=
  zmet_of hw 0 (by decide) 4000 zk_596 (by decide) (by decide) (fun X => ⟨zg_RX3 X, zp_RX3 X, zl1_RX3 X, zl2_RX3 X, nilz, nilz⟩)
set_option maxRecDepth 100000 in
theorem zk_597 : zmeth zKS zuq zNS zm_597 4000 = true := zqF (zdt_X3_number) (by decide +kernel)
theorem zM_597 {l : Launch} {D : va_G} {cI cZ cB cJ cR : ClassId} {ks ad : List Nat} {Psi : va_W → Prop} (hw : zworld ks ad zuq zNS Psi) (hm : zMan l D cI cZ cB cJ cR ks ad Psi) : zMet l D cI cZ cB cJ cR zKS ks ad Psi yX3_number (.code yX3_number cX3_number 3 (some .long)) 0 zc_597 :=
  zmet_of hw 0 (by decide) 4000 zk_597 (by decide) (by decide) (fun X => ⟨zg_RX3 X, zp_RX3 X, zl1_RX3 X, zl2_RX3 X, nilz, nilz⟩)
set_option maxRecDepth 100000 in
theorem zk_598 : zmeth zKS zuq zNS zm_598 4000 = true := zqF (zdt_X3_number) (by decide +kernel)
theorem zM_598 {l : Launch} {D : va_G} {cI cZ cB cJ cR : ClassId} {ks ad : List Nat} {Psi : va_W → Prop} (hw : zworld ks ad zuq zNS Psi) (hm : zMan l D cI cZ cB cJ cR ks ad Psi) : zMet l D cI cZ cB cJ cR zKS ks ad Psi yX3_number (.code yX3_number cX3_number 3 (some .long)) 0 zc_598 :=
  zmet_of hw 0 (by decide) 4000 zk_598 (by decide) (by decide) (fun X => ⟨zg_RX3 X, zp_RX3 X, zl1_RX3 X, zl2_RX3 X, nilz, nilz⟩)
set_option maxRecDepth 100000 in
theorem zk_599 : zmeth zKS zuq zNS zm_599 4000 = true := zqF (zdt_X3_number) (by decide +kernel)
theorem zM_599 {l : Launch} {D : va_G} {cI cZ cB cJ cR : ClassId} {ks ad : List Nat} {Psi : va_W → Prop} (hw : zworld ks ad zuq zNS Psi) (hm : zMan l D cI cZ cB cJ cR ks ad Psi) : zMet l D cI cZ cB cJ cR zKS ks ad Psi yX3_number (.code yX3_number cX3_number 3 (some .long)) 0 zc_599 :=
  zmet_of hw 0 (by decide) 4000 zk_599 (by decide) (by decide) (fun X => ⟨zg_RX3 X, zp_RX3 X, zl1_RX3 X, zl2_RX3 X, nilz, nilz⟩)
set_option maxRecDepth 100000 in
theorem zk_601 : zmeth zKS zuq zNS zm_601 4000 = true := zqF (zdt0 _) (by decide +kernel)
theorem zM_601 {l : Launch} {D : va_G} {cI cZ cB cJ cR : ClassId} {ks ad : List Nat} {Psi : va_W → Prop} (hw : zworld ks ad zuq zNS Psi) (hm : zMan l D cI cZ cB cJ cR ks ad Psi) : zMet l D cI cZ cB cJ cR zKS ks ad Psi yX3_size (.code yX3_size cX3_size 2 (some .int)) 0 zc_601 :=
  zmet_of hw 0 (by decide) 4000 zk_601 (by decide) (by decide) (fun X => ⟨zg_RX3 X, zp_RX3 X, zl1_RX3 X, zl2_RX3 X, nilz, nilz⟩)
set_option maxRecDepth 100000 in
theorem zk_602 : zmeth zKS zuq zNS zm_602 4000 = true := zqF (zdt0 _) (by decide +kernel)
theorem zM_602 {l : Launch} {D : va_G} {cI cZ cB cJ cR : ClassId} {ks ad : List Nat} {Psi : va_W → Prop} (hw : zworld ks ad zuq zNS Psi) (hm : zMan l D cI cZ cB cJ cR ks ad Psi) : zMet l D cI cZ cB cJ cR zKS ks ad Psi yX3_size (.code yX3_size cX3_size 2 (some .int)) 0 zc_602 :=
  zmet_of hw 0 (by decide) 4000 zk_602 (by decide) (by decide) (fun X => ⟨zg_RX3 X, zp_RX3 X, zl1_RX3 X, zl2_RX3 X, nilz, nilz⟩)
set_option maxRecDepth 100000 in
theorem zk_603 : zmeth zKS zuq zNS zm_603 4000 = true := zqF (zdt0 _) (by decide +kernel)
theorem zM_603 {l : Launch} {D : va_G} {cI cZ cB cJ cR : ClassId} {ks ad : List Nat} {Psi : va_W → Prop} (hw : zworld ks ad zuq zNS Psi) (hm : zMan l D cI cZ cB cJ cR ks ad Psi) : zMet l D cI cZ cB cJ cR zKS ks ad Psi yX3_size (.code yX3_size cX3_size 2 (some .int)) 0 zc_603 :=
  zmet_of hw 0 (by decide) 4000 zk_603 (by decide) (by decide) (fun X => ⟨zg_RX3 X, zp_RX3 X, zl1_RX3 X, zl2_RX3 X, nilz, nilz⟩)
set_option maxRecDepth 100000 in
theorem zk_604 : zmeth zKS zuq zNS zm_604 4000 = true := zqF (zdt0 _) (by decide +kernel)
theorem zM_604 {l : Launch} {D : va_G} {cI cZ cB cJ cR : ClassId} {ks ad : List Nat} {Psi : va_W → Prop} (hw : zworld ks ad zuq zNS Psi) (hm : zMan l D cI cZ cB cJ cR ks ad Psi) : zMet l D cI cZ cB cJ cR zKS ks ad Psi yX3_size (.code yX3_size cX3_size 2 (some .int)) 0 zc_604 :=
  zmet_of hw 0 (by decide) 4000 zk_604 (by decide) (by decide) (fun X => ⟨zg_RX3 X, zp_RX3 X, zl1_RX3 X, zl2_RX3 X, nilz, nilz⟩)
set_option maxRecDepth 100000 in
theorem zk_605 : zmeth zKS zuq zNS zm_605 4000 = true := zqF (zdt0 _) (by decide +kernel)
theorem zM_605 {l : Launch} {D : va_G} {cI cZ cB cJ cR : ClassId} {ks ad : List Nat} {Psi : va_W → Prop} (hw : zworld ks ad zuq zNS Psi) (hm : zMan l D cI cZ cB cJ cR ks ad Psi) : zMet l D cI cZ cB cJ cR zKS ks ad Psi yX3_size (.code yX3_size cX3_size 2 (some .int)) 0 zc_605 :=
  zmet_of hw 0 (by decide) 4000 zk_605 (by decide) (by decide) (fun X => ⟨zg_RX3 X, zp_RX3 X, zl1_RX3 X, zl2_RX3 X, nilz, nilz⟩)
set_option maxRecDepth 100000 in
theorem zk_606 : zmeth zKS zuq zNS zm_606 4000 = true := zqF (zdt0 _) (by decide +kernel)
theorem zM_606 {l : Launch} {D : va_G} {cI cZ cB cJ cR : ClassId} {ks ad : List Nat} {Psi : va_W → Prop} (hw : zworld ks ad zuq zNS Psi) (hm : zMan l D cI cZ cB cJ cR ks ad Psi) : zMet l D cI cZ cB cJ cR zKS ks ad Psi yX4_append (.code yX4_append cX4_append 3 none) 0 zc_606 :=
  zmet_of hw 0 (by decide) 4000 zk_606 (by decide) (by decide) (fun X => ⟨zg_RX4 X, zp_RX4 X, zl1_RX4 X, zl2_RX4 X, nilz, nilz⟩)
set_option maxRecDepth 100000 in
theorem zk_607 : zmeth zKS zuq zNS zm_607 4000 = true := zqF (zdt0 _) (by decide +kernel)
theorem zM_607 {l : Launch} {D : va_G} {cI cZ cB cJ cR : ClassId} {ks ad : List Nat} {Psi : va_W → Prop} (hw : zworld ks ad zuq zNS Psi) (hm : zMan l D cI cZ cB cJ cR ks ad Psi) : zMet l D cI cZ cB cJ cR zKS ks ad Psi yX4_hasRoom (.code yX4_hasRoom cX4_hasRoom 1 (some .boolean)) 0 zc_607 :=
  zmet_of hw 0 (by decide) 4000 zk_607 (by decide) (by decide) (fun X => ⟨zg_RX4 X, zp_RX4 X, zl1_RX4 X, zl2_RX4 X, nilz, nilz⟩)
set_option maxRecDepth 100000 in
theorem zk_609 : zmeth zKS zuq zNS zm_609 4000 = true := zqF (zdt0 _) (by decide +kernel)
theorem zM_609 {l : Launch} {D : va_G} {cI cZ cB cJ cR : ClassId} {ks ad : List Nat} {Psi : va_W → Prop} (hw : zworld ks ad zuq zNS Psi) (hm : zMan l D cI cZ cB cJ cR ks ad Psi) : zMet l D cI cZ cB cJ cR zKS ks ad Psi yX4_kindOf (.code yX4_kindOf cX4_kindOf 1 (some .int)) 0 zc_609 :=
  zmet_of hw 0 (by decide) 4000 zk_609 (by decide) (by decide) (fun X => ⟨zg_RX4 X, zp_RX4 X, zl1_RX4 X, zl2_RX4 X, nilz, nilz⟩)
set_option maxRecDepth 100000 in
theorem zk_610 : zmeth zKS zuq zNS zm_610 4000 = true := zqF (zdt0 _) (by decide +kernel)
theorem zM_610 {l : Launch} {D : va_G} {cI cZ cB cJ cR : ClassId} {ks ad : List Nat} {Psi : va_W → Prop} (hw : zworld ks ad zuq zNS Psi) (hm : zMan l D cI cZ cB cJ cR ks ad Psi) : zMet l D cI cZ cB cJ cR zKS ks ad Psi yX4_nameOf (.code yX4_nameOf cX4_nameOf 1 (some (.object "java/lang/String"))) 0 zc_610 :=
  zmet_of hw 0 (by decide) 4000 zk_610 (by decide) (by decide) (fun X => ⟨zg_RX4 X, zp_RX4 X, zl1_RX4 X, zl2_RX4 X, (List.forall_mem_cons.mpr ⟨zs_ldc X rfl (List.mem_of_getElem? (i := 4) rfl), (List.forall_mem_cons.mpr ⟨zs_ldc X rfl (List.mem_of_getElem? (i := 5) rfl), (List.forall_mem_cons.mpr ⟨zs_ldc X rfl (List.mem_of_getElem? (i := 6) rfl), (List.forall_mem_cons.mpr ⟨zs_ldc X rfl (List.mem_of_getElem? (i := 7) rfl), (List.forall_mem_cons.mpr ⟨zs_ldc X rfl (List.mem_of_getElem? (i := 8) rfl), (List.forall_mem_cons.mpr ⟨zs_ldc X rfl (List.mem_of_getElem? (i := 9) rfl), (List.forall_mem_cons.mpr ⟨zs_ldc X rfl (List.mem_of_getElem? (i := 10) rfl), nilz⟩)⟩)⟩)⟩)⟩)⟩)⟩), nilz⟩)
set_option maxRecDepth 100000 in
theorem zk_611 : zmeth zKS zuq zNS zm_611 4000 = true := zqF (zdt0 _) (by decide +kernel)
theorem zM_611 {l : Launch} {D : va_G} {cI cZ cB cJ cR : ClassId} {ks ad : List Nat} {Psi : va_W → Prop} (hw : zworld ks ad zuq zNS Psi) (hm : zMan l D cI cZ cB cJ cR ks ad Psi) : zMet l D cI cZ cB cJ cR zKS ks ad Psi yX4_notes (.code yX4_notes cX4_notes 2 (some .boolean)) 0 zc_611 :=
  zmet_of hw 0 (by decide) 4000 zk_611 (by decide) (by decide) (fun X => ⟨zg_RX4 X, zp_RX4 X, zl1_RX4 X, zl2_RX4 X, nilz, nilz⟩)
set_option maxRecDepth 100000 in
theorem zM_651 {l : Launch} {D : va_G} {cI cZ cB cJ cR : ClassId} {ks ad : List Nat} {Psi : va_W → Prop} (hw : zworld ks ad zuq zNS Psi) (hm : zMan l D cI cZ cB cJ cR ks ad Psi) : zMet l D cI cZ cB cJ cR zKS ks ad Psi yX5_commonDivisor (.code yX5_commonDivisor cX5_commonDivisor 11 (some .long)) 0 zc_651 := zh_commonDiv
set_option maxRecDepth 100000 in
theorem zk_657 : zmeth zKS zuq zNS zm_657 4000 = true := zqF (zdt0 _) (by decide +kernel)
theorem zM_657 {l : Launch} {D : va_G} {cI cZ cB cJ cR : ClassId} {ks ad : List Nat} {Psi : va_W → Prop} (hw : zworld ks ad zuq zNS Psi) (hm : zMan l D cI cZ cB cJ cR ks ad Psi) : zMet l D cI cZ cB cJ cR zKS ks ad Psi yX5_end (.code yX5_end cX5_end 2 (some .int)) 0 zc_657 :=
  zmet_of hw 0 (by decide) 4000 zk_657 (by decide) (by decide) (fun X => ⟨zg_RX5 X, zp_RX5 X, zl1_RX5 X, zl2_RX5 X, nilz, nilz⟩)
set_option maxRecDepth 100000 in
theorem zk_665 : zmeth zKS zuq zNS zm_665 4000 = true := zqF (zdt0 _) (by decide +kernel)
theorem zM_665 {l : Launch} {D : va_G} {cI cZ cB cJ cR : ClassId} {ks ad : List Nat} {Psi : va_W → Prop} (hw : zworld ks ad zuq zNS Psi) (hm : zMan l D cI cZ cB cJ cR ks ad Psi) : zMet l D cI cZ cB cJ cR zKS ks ad Psi yX5_fault (.code yX5_fault cX5_fault 2 (some .int)) 0 zc_665 :=
  zmet_of hw 0 (by decide) 4000 zk_665 (by decide) (by decide) (fun X => ⟨zg_RX5 X, zp_RX5 X, zl1_RX5 X, zl2_RX5 X, nilz, nilz⟩)
set_option maxRecDepth 100000 in
theorem zk_674 : zmeth zKS zuq zNS zm_674 4000 = true := zqF (zdt0 _) (by decide +kernel)
theorem zM_674 {l : Launch} {D : va_G} {cI cZ cB cJ cR : ClassId} {ks ad : List Nat} {Psi : va_W → Prop} (hw : zworld ks ad zuq zNS Psi) (hm : zMan l D cI cZ cB cJ cR ks ad Psi) : zMet l D cI cZ cB cJ cR zKS ks ad Psi yX5_hasBit (.code yX5_hasBit cX5_hasBit 2 (some .boolean)) 0 zc_674 :=
  zmet_of hw 0 (by decide) 4000 zk_674 (by decide) (by decide) (fun X => ⟨zg_RX5 X, zp_RX5 X, zl1_RX5 X, zl2_RX5 X, nilz, nilz⟩)
set_option maxRecDepth 100000 in
theorem zk_843 : zmeth zKS zuq zNS zm_843 4000 = true := zqF (zdt0 _) (by decide +kernel)
theorem zM_843 {l : Launch} {D : va_G} {cI cZ cB cJ cR : ClassId} {ks ad : List Nat} {Psi : va_W → Prop} (hw : zworld ks ad zuq zNS Psi) (hm : zMan l D cI cZ cB cJ cR ks ad Psi) : zMet l D cI cZ cB cJ cR zKS ks ad Psi yX6_bestFirst (.code yX6_bestFirst cX6_bestFirst 3 (some .int)) 0 zc_843 :=
  zmet_of hw 0 (by decide) 4000 zk_843 (by decide) (by decide) (fun X => ⟨zg_RX6 X, zp_RX6 X, zl1_RX6 X, zl2_RX6 X, nilz, nilz⟩)
