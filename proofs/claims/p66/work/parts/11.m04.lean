set_option maxRecDepth 100000 in
theorem zk_463 : zmeth zKS zuq zNS zm_463 4000 = true := by decide +kernel
theorem zM_463 {l : Launch} {D : va_G} {cI cZ cB cJ cR : ClassId} {ks ad : List Nat} {Psi : va_W → Prop} (hw : zworld ks ad zuq zNS Psi) (hm : zMan l D cI cZ cB cJ cR ks ad Psi) : zMet l D cI cZ cB cJ cR zKS ks ad Psi yX6_begins (.code yX6_begins cX6_begins 1 none) 2 zc_463 :=
  zmet_of hw 2 (by decide) 4000 zk_463 (by decide) (by decide) (fun X => ⟨zg_RX6 X, zp_RX6 X, zl1_RX6 X, zl2_RX6 X, nilz, (List.forall_mem_cons.mpr ⟨zq_RX6_133 X (zM_579 hw hm) (by decide) rfl rfl, nilz⟩)⟩)
set_option maxRecDepth 100000 in
theorem zk_498 : zmeth zKS zuq zNS zm_498 4000 = true := by decide +kernel
theorem zM_498 {l : Launch} {D : va_G} {cI cZ cB cJ cR : ClassId} {ks ad : List Nat} {Psi : va_W → Prop} (hw : zworld ks ad zuq zNS Psi) (hm : zMan l D cI cZ cB cJ cR ks ad Psi) : zMet l D cI cZ cB cJ cR zKS ks ad Psi yX6_ends (.code yX6_ends cX6_ends 1 none) 2 zc_498 :=
  zmet_of hw 2 (by decide) 4000 zk_498 (by decide) (by decide) (fun X => ⟨zg_RX6 X, zp_RX6 X, zl1_RX6 X, zl2_RX6 X, nilz, (List.forall_mem_cons.mpr ⟨zq_RX6_133 X (zM_579 hw hm) (by decide) rfl rfl, (List.forall_mem_cons.mpr ⟨zq_RX6_139 X (zM_502 hw hm) (by decide) rfl rfl, nilz⟩)⟩)⟩)
set_option maxRecDepth 100000 in
theorem zk_580 : zmeth zKS zuq zNS zm_580 4000 = true := by decide +kernel
theorem zM_580 {l : Launch} {D : va_G} {cI cZ cB cJ cR : ClassId} {ks ad : List Nat} {Psi : va_W → Prop} (hw : zworld ks ad zuq zNS Psi) (hm : zMan l D cI cZ cB cJ cR ks ad Psi) : zMet l D cI cZ cB cJ cR zKS ks ad Psi yX6_number (.code yX6_number cX6_number 4 (some .int)) 2 zc_580 :=
  zmet_of hw 2 (by decide) 4000 zk_580 (by decide) (by decide) (fun X => ⟨zg_RX6 X, zp_RX6 X, zl1_RX6 X, zl2_RX6 X, nilz, (List.forall_mem_cons.mpr ⟨zq_RX6_76 X (zM_542 hw hm) (by decide) rfl, (List.forall_mem_cons.mpr ⟨zq_RX6_133 X (zM_579 hw hm) (by decide) rfl rfl, (List.forall_mem_cons.mpr ⟨zq_RX6_139 X (zM_502 hw hm) (by decide) rfl rfl, nilz⟩)⟩)⟩)⟩)
set_option maxRecDepth 100000 in
theorem zk_581 : zmeth zKS zuq zNS zm_581 4000 = true := by decide +kernel
theorem zM_581 {l : Launch} {D : va_G} {cI cZ cB cJ cR : ClassId} {ks ad : List Nat} {Psi : va_W → Prop} (hw : zworld ks ad zuq zNS Psi) (hm : zMan l D cI cZ cB cJ cR ks ad Psi) : zMet l D cI cZ cB cJ cR zKS ks ad Psi yX6_number (.code yX6_number cX6_number 4 (some .int)) 2 zc_581 :=
  zmet_of hw 2 (by decide) 4000 zk_581 (by decide) (by decide) (fun X => ⟨zg_RX6 X, zp_RX6 X, zl1_RX6 X, zl2_RX6 X, nilz, (List.forall_mem_cons.mpr ⟨zq_RX6_76 X (zM_543 hw hm) (by decide) rfl, (List.forall_mem_cons.mpr ⟨zq_RX6_133 X (zM_579 hw hm) (by decide) rfl rfl, (List.forall_mem_cons.mpr ⟨zq_RX6_139 X (zM_502 hw hm) (by decide) rfl rfl, nilz⟩)⟩)⟩)⟩)
set_option maxRecDepth 100000 in
theorem zk_582 : zmeth zKS zuq zNS zm_582 4000 = true := by decide +kernel
theorem zM_582 {l : Launch} {D : va_G} {cI cZ cB cJ cR : ClassId} {ks ad : List Nat} {Psi : va_W → Prop} (hw : zworld ks ad zuq zNS Psi) (hm : zMan l D cI cZ cB cJ cR ks ad Psi) : zMet l D cI cZ cB cJ cR zKS ks ad Psi yX6_number (.code yX6_number cX6_number 4 (some .int)) 2 zc_582 :=
  zmet_of hw 2 (by decide) 4000 zk_582 (by decide) (by decide) (fun X => ⟨zg_RX6 X, zp_RX6 X, zl1_RX6 X, zl2_RX6 X, nilz, (List.forall_mem_cons.mpr ⟨zq_RX6_76 X (zM_544 hw hm) (by decide) rfl, (List.forall_mem_cons.mpr ⟨zq_RX6_133 X (zM_579 hw hm) (by decide) rfl rfl, (List.forall_mem_cons.mpr ⟨zq_RX6_139 X (zM_502 hw hm) (by decide) rfl rfl, nilz⟩)⟩)⟩)⟩)
set_option maxRecDepth 100000 in
theorem zk_583 : zmeth zKS zuq zNS zm_583 4000 = true := by decide +kernel
theorem zM_583 {l : Launch} {D : va_G} {cI cZ cB cJ cR : ClassId} {ks ad : List Nat} {Psi : va_W → Prop} (hw : zworld ks ad zuq zNS Psi) (hm : zMan l D cI cZ cB cJ cR ks ad Psi) : zMet l D cI cZ cB cJ cR zKS ks ad Psi yX6_number (.code yX6_number cX6_number 4 (some .int)) 2 zc_583 :=
  zmet_of hw 2 (by decide) 4000 zk_583 (by decide) (by decide) (fun X => ⟨zg_RX6 X, zp_RX6 X, zl1_RX6 X, zl2_RX6 X, nilz, (List.forall_mem_cons.mpr ⟨zq_RX6_76 X (zM_527 hw hm) (by decide) rfl, (List.forall_mem_cons.mpr ⟨zq_RX6_133 X (zM_579 hw hm) (by decide) rfl rfl, (List.forall_mem_cons.mpr ⟨zq_RX6_139 X (zM_502 hw hm) (by decide) rfl rfl, nilz⟩)⟩)⟩)⟩)
set_option maxRecDepth 100000 in
theorem zk_584 : zmeth zKS zuq zNS zm_584 4000 = true := by decide +kernel
theorem zM_584 {l : Launch} {D : va_G} {cI cZ cB cJ cR : ClassId} {ks ad : List Nat} {Psi : va_W → Prop} (hw : zworld ks ad zuq zNS Psi) (hm : zMan l D cI cZ cB cJ cR ks ad Psi) : zMet l D cI cZ cB cJ cR zKS ks ad Psi yX6_number (.code yX6_number cX6_number 4 (some .int)) 2 zc_584 :=
  zmet_of hw 2 (by decide) 4000 zk_584 (by decide) (by decide) (fun X => ⟨zg_RX6 X, zp_RX6 X, zl1_RX6 X, zl2_RX6 X, nilz, (List.forall_mem_cons.mpr ⟨zq_RX6_76 X (zM_529 hw hm) (by decide) rfl, (List.forall_mem_cons.mpr ⟨zq_RX6_133 X (zM_579 hw hm) (by decide) rfl rfl, (List.forall_mem_cons.mpr ⟨zq_RX6_139 X (zM_502 hw hm) (by decide) rfl rfl, nilz⟩)⟩)⟩)⟩)
set_option maxRecDepth 100000 in
theorem zk_585 : zmeth zKS zuq zNS zm_585 4000 = true := by decide +kernel
theorem zM_585 {l : Launch} {D : va_G} {cI cZ cB cJ cR : ClassId} {ks ad : List Nat} {Psi : va_W → Prop} (hw : zworld ks ad zuq zNS Psi) (hm : zMan l D cI cZ cB cJ cR ks ad Psi) : zMet l D cI cZ cB cJ cR zKS ks ad Psi yX6_number (.code yX6_number cX6_number 4 (some .int)) 2 zc_585 :=
  zmet_of hw 2 (by decide) 4000 zk_585 (by decide) (by decide) (fun X => ⟨zg_RX6 X, zp_RX6 X, zl1_RX6 X, zl2_RX6 X, nilz, (List.forall_mem_cons.mpr ⟨zq_RX6_76 X (zM_533 hw hm) (by decide) rfl, (List.forall_mem_cons.mpr ⟨zq_RX6_133 X (zM_579 hw hm) (by decide) rfl rfl, (List.forall_mem_cons.mpr ⟨zq_RX6_139 X (zM_502 hw hm) (by decide) rfl rfl, nilz⟩)⟩)⟩)⟩)
set_option maxRecDepth 100000 in
theorem zk_586 : zmeth zKS zuq zNS zm_586 4000 = true := by decide +kernel
theorem zM_586 {l : Launch} {D : va_G} {cI cZ cB cJ cR : ClassId} {ks ad : List Nat} {Psi : va_W → Prop} (hw : zworld ks ad zuq zNS Psi) (hm : zMan l D cI cZ cB cJ cR ks ad Psi) : zMet l D cI cZ cB cJ cR zKS ks ad Psi yX6_number (.code yX6_number cX6_number 4 (some .int)) 2 zc_586 :=
  zmet_of hw 2 (by decide) 4000 zk_586 (by decide) (by decide) (fun X => ⟨zg_RX6 X, zp_RX6 X, zl1_RX6 X, zl2_RX6 X, nilz, (List.forall_mem_cons.mpr ⟨zq_RX6_76 X (zM_535 hw hm) (by decide) rfl, (List.forall_mem_cons.mpr ⟨zq_RX6_133 X (zM_579 hw hm) (by decide) rfl rfl, (List.forall_mem_cons.mpr ⟨zq_RX6_139 X (zM_502 hw hm) (by decide) rfl rfl, nilz⟩)⟩)⟩)⟩)
set_option maxRecDepth 100000 in
theorem zk_587 : zmeth zKS zuq zNS zm_587 4000 = true := by decide +kernel
theorem zM_587 {l : Launch} {D : va_G} {cI cZ cB cJ cR : ClassId} {ks ad : List Nat} {Psi : va_W → Prop} (hw : zworld ks ad zuq zNS Psi) (hm : zMan l D cI cZ cB cJ cR ks ad Psi) : zMet l D cI cZ cB cJ cR zKS ks ad Psi yX6_number (.code yX6_number cX6_number 4 (some .int)) 2 zc_587 :=
  zmet_of hw 2 (by decide) 4000 zk_587 (by decide) (by decide) (fun X => ⟨zg_RX6 X, zp_RX6 X, zl1_RX6 X, zl2_RX6 X, nilz, (List.forall_mem_cons.mpr ⟨zq_RX6_76 X (zM_536 hw hm) (by decide) rfl, (List.forall_mem_cons.mpr ⟨zq_RX6_133 X (zM_579 hw hm) (by decide) rfl rfl, (List.forall_mem_cons.mpr ⟨zq_RX6_139 X (zM_502 hw hm) (by decide) rfl rfl, nilz⟩)⟩)⟩)⟩)
set_option maxRecDepth 100000 in
theorem zk_588 : zmeth zKS zuq zNS zm_588 4000 = true := by decide +kernel
theorem zM_588 {l : Launch} {D : va_G} {cI cZ cB cJ cR : ClassId} {ks ad : List Nat} {Psi : va_W → Prop} (hw : zworld ks ad zuq zNS Psi) (hm : zMan l D cI cZ cB cJ cR ks ad Psi) : zMet l D cI cZ cB cJ cR zKS ks ad Psi yX6_number (.code yX6_number cX6_number 4 (some .int)) 2 zc_588 :=
  zmet_of hw 2 (by decide) 4000 zk_588 (by decide) (by decide) (fun X => ⟨zg_RX6 X, zp_RX6 X, zl1_RX6 X, zl2_RX6 X, nilz, (List.forall_mem_cons.mpr ⟨zq_RX6_76 X (zM_538 hw hm) (by decide) rfl, (List.forall_mem_cons.mpr ⟨zq_RX6_133 X (zM_579 hw hm) (by decide) rfl rfl, (List.forall_mem_cons.mpr ⟨zq_RX6_139 X (zM_502 hw hm) (by decide) rfl rfl, nilz⟩)⟩)⟩)⟩)
set_option maxRecDepth 100000 in
theorem zk_589 : zmeth zKS zuq zNS zm_589 4000 = true := by decide +kernel
theorem zM_589 {l : Launch} {D : va_G} {cI cZ cB cJ cR : ClassId} {ks ad : List Nat} {Psi : va_W → Prop} (hw : zworld ks ad zuq zNS Psi) (hm : zMan l D cI cZ cB cJ cR ks ad Psi) : zMet l D cI cZ cB cJ cR zKS ks ad Psi yX6_number (.code yX6_number cX6_number 4 (some .int)) 2 zc_589 :=
  zmet_of hw 2 (by decide) 4000 zk_589 (by decide) (by decide) (fun X => ⟨zg_RX6 X, zp_RX6 X, zl1_RX6 X, zl2_RX6 X, nilz, (List.forall_mem_cons.mpr ⟨zq_RX6_76 X (zM_540 hw hm) (by decide) rfl, (List.forall_mem_cons.mpr ⟨zq_RX6_133 X (zM_579 hw hm) (by decide) rfl rfl, (List.forall_mem_cons.mpr ⟨zq_RX6_139 X (zM_502 hw hm) (by decide) rfl rfl, nilz⟩)⟩)⟩)⟩)
set_option maxRecDepth 100000 in
theorem zk_590 : zmeth zKS zuq zNS zm_590 4000 = true := by decide +kernel
theorem zM_590 {l : Launch} {D : va_G} {cI cZ cB cJ cR : ClassId} {ks ad : List Nat} {Psi : va_W → Prop} (hw : zworld ks ad zuq zNS Psi) (hm : zMan l D cI cZ cB cJ cR ks ad Psi) : zMet l D cI cZ cB cJ cR zKS ks ad Psi yX6_number (.code yX6_number cX6_number 4 (some .int)) 2 zc_590 :=
  zmet_of hw 2 (by decide) 4000 zk_590 (by decide) (by decide) (fun X => ⟨zg_RX6 X, zp_RX6 X, zl1_RX6 X, zl2_RX6 X, nilz, (List.forall_mem_cons.mpr ⟨zq_RX6_76 X (zM_541 hw hm) (by decide) rfl, (List.forall_mem_cons.mpr ⟨zq_RX6_133 X (zM_579 hw hm) (by decide) rfl rfl, (List.forall_mem_cons.mpr ⟨zq_RX6_139 X (zM_502 hw hm) (by decide) rfl rfl, nilz⟩)⟩)⟩)⟩)
set_option maxRecDepth 100000 in
theorem zk_627 : zmeth zKS zuq zNS zm_627 4000 = true := by decide +kernel
theorem zM_627 {l : Launch} {D : va_G} {cI cZ cB cJ cR : ClassId} {ks ad : List Nat} {Psi : va_W → Prop} (hw : zworld ks ad zuq zNS Psi) (hm : zMan l D cI cZ cB cJ cR ks ad Psi) : zMet l D cI cZ cB cJ cR zKS ks ad Psi yX6_row (.code yX6_row cX6_row 5 (some .int)) 2 zc_627 :=
  zmet_of hw 2 (by decide) 4000 zk_627 (by decide) (by decide) (fun X => ⟨zg_RX6 X, zp_RX6 X, zl1_RX6 X, zl2_RX6 X, nilz, (List.forall_mem_cons.mpr ⟨zq_RX6_76 X (zM_532 hw hm) (by decide) rfl, (List.forall_mem_cons.mpr ⟨zq_RX6_80 X (zM_561 hw hm) (by decide) rfl, nilz⟩)⟩)⟩)
set_option maxRecDepth 100000 in
theorem zk_640 : zmeth zKS zuq zNS zm_640 4000 = true := by decide +kernel
theorem zM_640 {l : Launch} {D : va_G} {cI cZ cB cJ cR : ClassId} {ks ad : List Nat} {Psi : va_W → Prop} (hw : zworld ks ad zuq zNS Psi) (hm : zMan l D cI cZ cB cJ cR ks ad Psi) : zMet l D cI cZ cB cJ cR zKS ks ad Psi yX6_takes (.code yX6_takes cX6_takes 3 (some .boolean)) 2 zc_640 :=
  zmet_of hw 2 (by decide) 4000 zk_640 (by decide) (by decide) (fun X => ⟨zg_RX6 X, zp_RX6 X, zl1_RX6 X, zl2_RX6 X, nilz, (List.forall_mem_cons.mpr ⟨zq_RX6_129 X (zM_546 hw hm) (by decide) rfl rfl, (List.forall_mem_cons.mpr ⟨zq_RX6_133 X (zM_579 hw hm) (by decide) rfl rfl, nilz⟩)⟩)⟩)
set_option maxRecDepth 100000 in
theorem zk_680 : zmeth zKS zuq zNS zm_680 4000 = true := by decide +kernel
theorem zM_680 {l : Launch} {D : va_G} {cI cZ cB cJ cR : ClassId} {ks ad : List Nat} {Psi : va_W → Prop} (hw : zworld ks ad zuq zNS Psi) (hm : zMan l D cI cZ cB cJ cR ks ad Psi) : zMet l D cI cZ cB cJ cR zKS ks ad Psi yX6_write (.code yX6_write cX6_write 5 (some .int)) 2 zc_680 :=
  zmet_of hw 2 (by decide) 4000 zk_680 (by decide) (by decide) (fun X => ⟨zg_RX6 X, zp_RX6 X, zl1_RX6 X, zl2_RX6 X, nilz, (List.forall_mem_cons.mpr ⟨zq_RX6_76 X (zM_526 hw hm) (by decide) rfl, (List.forall_mem_cons.mpr ⟨zq_RX6_80 X (zM_561 hw hm) (by decide) rfl, (List.forall_mem_cons.mpr ⟨zq_RX6_84 X (zM_491 hw hm) (by decide) rfl, nilz⟩)⟩)⟩)⟩)
set_option maxRecDepth 100000 in
theorem zk_300 : zmeth zKS zuq zNS zm_300 4000 = true := by decide +kernel
theorem zM_300 {l : Launch} {D : va_G} {cI cZ cB cJ cR : ClassId} {ks ad : List Nat} {Psi : va_W → Prop} (hw : zworld ks ad zuq zNS Psi) (hm : zMan l D cI cZ cB cJ cR ks ad Psi) : zMet l D cI cZ cB cJ cR zKS ks ad Psi yX0_moveAnew (.code yX0_moveAnew cX0_moveAnew 5 (some .int)) 3 zc_300 :=
  zmet_of hw 3 (by decide) 4000 zk_300 (by decide) (by decide) (fun X => ⟨zg_RX0 X, zp_RX0 X, zl1_RX0 X, zl2_RX0 X, nilz, (List.forall_mem_cons.mpr ⟨zq_RX0_61 X (zman_296 hm) (by decide) rfl rfl, (List.forall_mem_cons.mpr ⟨zq_RX0_65 X (zM_302 hw hm) (by decide) rfl rfl, (List.forall_mem_cons.mpr ⟨zq_RX0_69 X (zM_310 hw hm) (by decide) rfl rfl, nilz⟩)⟩)⟩)⟩)
set_option maxRecDepth 100000 in
theorem zk_312 : zmeth zKS zuq zNS zm_312 4000 = true := by decide +kernel
theorem zM_312 {l : Launch} {D : va_G} {cI cZ cB cJ cR : ClassId} {ks ad : List Nat} {Psi : va_W → Prop} (hw : zworld ks ad zuq zNS Psi) (hm : zMan l D cI cZ cB cJ cR ks ad Psi) : zMet l D cI cZ cB cJ cR zKS ks ad Psi yX0_swearAnew (.code yX0_swearAnew cX0_swearAnew 4 (some .int)) 3 zc_312 :=
  zmet_of hw 3 (by decide) 4000 zk_312 (by decide) (by decide) (fun X => ⟨zg_RX0 X, zp_RX0 X, zl1_RX0 X, zl2_RX0 X, nilz, (List.forall_mem_cons.mpr ⟨zq_RX0_61 X (zman_295 hm) (by decide) rfl rfl, nilz⟩)⟩)
set_option maxRecDepth 100000 in
theorem zk_336 : zmeth zKS zuq zNS zm_336 4000 = true := by decide +kernel
theorem zM_336 {l : Launch} {D : va_G} {cI cZ cB cJ cR : ClassId} {ks ad : List Nat} {Psi : va_W → Prop} (hw : zworld ks ad zuq zNS Psi) (hm : zMan l D cI cZ cB cJ cR ks ad Psi) : zMet l D cI cZ cB cJ cR zKS ks ad Psi yX2_goesOn (.code yX2_goesOn cX2_goesOn 3 (some .boolean)) 3 zc_336 :=
  zmet_of hw 3 (by decide) 4000 zk_336 (by decide) (by decide) (fun X => ⟨zg_RX2 X, zp_RX2 X, zl1_RX2 X, zl2_RX2 X, nilz, (List.forall_mem_cons.mpr ⟨zq_RX2_118 X (zM_323 hw hm) (by decide) rfl rfl, (List.forall_mem_cons.mpr ⟨zq_RX2_118 X (zM_324 hw hm) (by decide) rfl rfl, (List.forall_mem_cons.mpr ⟨zq_RX2_118 X (zM_325 hw hm) (by decide) rfl rfl, (List.forall_mem_cons.mpr ⟨zq_RX2_118 X (zM_326 hw hm) (by decide) rfl rfl, (List.forall_mem_cons.mpr ⟨zq_RX2_118 X (zM_327 hw hm) (by decide) rfl rfl, (List.forall_mem_cons.mpr ⟨zq_RX2_118 X (zM_328 hw hm) (by decide) rfl rfl, (List.forall_mem_cons.mpr ⟨zq_RX2_118 X (zM_329 hw hm) (by decide) rfl rfl, nilz⟩)⟩)⟩)⟩)⟩)⟩)⟩)⟩)
set_option maxRecDepth 100000 in
theorem zk_367 : zmeth zKS zuq zNS zm_367 4000 = true := by decide +kernel
theorem zM_367 {l : Launch} {D : va_G} {cI cZ cB cJ cR : ClassId} {ks ad : List Nat} {Psi : va_W → Prop} (hw : zworld ks ad zuq zNS Psi) (hm : zMan l D cI cZ cB cJ cR ks ad Psi) : zMet l D cI cZ cB cJ cR zKS ks ad Psi yX4_takeWord (.code yX4_takeWord cX4_takeWord 2 (some .boolean)) 3 zc_367 :=
  zmet_of hw 3 (by decide) 4000 zk_367 (by decide) (by decide) (fun X => ⟨zg_RX4 X, zp_RX4 X, zl1_RX4 X, zl2_RX4 X, nilz, (List.forall_mem_cons.mpr ⟨zq_RX4_33 X (zM_368 hw hm) (by decide) rfl rfl, (List.forall_mem_cons.mpr ⟨zq_RX4_58 X (zman_352 hm) (by decide) rfl rfl, (List.forall_mem_cons.mpr ⟨zq_RX4_109 X (zM_354 hw hm) (by decide) rfl rfl, nilz⟩)⟩)⟩)⟩)
set_option maxRecDepth 100000 in
theorem zk_387 : zmeth zKS zuq zNS zm_387 4000 = true := by decide +kernel
theorem zM_387 {l : Launch} {D : va_G} {cI cZ cB cJ cR : ClassId} {ks ad : List Nat} {Psi : va_W → Prop} (hw : zworld ks ad zuq zNS Psi) (hm : zMan l D cI cZ cB cJ cR ks ad Psi) : zMet l D cI cZ cB cJ cR zKS ks ad Psi yX5_dark (.code yX5_dark cX5_dark 4 (some .int)) 3 zc_387 :=
  zmet_of hw 3 (by decide) 4000 zk_387 (by decide) (by decide) (fun X => ⟨zg_RX5 X, zp_RX5 X, zl1_RX5 X, zl2_RX5 X, nilz, (List.forall_mem_cons.mpr ⟨zq_RX5_87 X (zM_291 hw hm) (by decide) rfl rfl, (List.forall_mem_cons.mpr ⟨zq_RX5_189 X (zM_315 hw hm) (by decide) rfl rfl, (List.forall_mem_cons.mpr ⟨zq_RX5_192 X (zM_303 hw hm) (by decide) rfl rfl, nilz⟩)⟩)⟩)⟩)
set_option maxRecDepth 100000 in
theorem zk_406 : zmeth zKS zuq zNS zm_406 4000 = true := by decide +kernel
theorem zM_406 {l : Launch} {D : va_G} {cI cZ cB cJ cR : ClassId} {ks ad : List Nat} {Psi : va_W → Prop} (hw : zworld ks ad zuq zNS Psi) (hm : zMan l D cI cZ cB cJ cR ks ad Psi) : zMet l D cI cZ cB cJ cR zKS ks ad Psi yX5_image (.code yX5_image cX5_image 2 (some .int)) 3 zc_406 :=
  zmet_of hw 3 (by decide) 4000 zk_406 (by decide) (by decide) (fun X => ⟨zg_RX5 X, zp_RX5 X, zl1_RX5 X, zl2_RX5 X, nilz, (List.forall_mem_cons.mpr ⟨zq_RX5_317 X (zman_274 hm) (by decide) rfl rfl, nilz⟩)⟩)
set_option maxRecDepth 100000 in
theorem zk_415 : zmeth zKS zuq zNS zm_415 4000 = true := by decide +kernel
theorem zM_415 {l : Launch} {D : va_G} {cI cZ cB cJ cR : ClassId} {ks ad : List Nat} {Psi : va_W → Prop} (hw : zworld ks ad zuq zNS Psi) (hm : zMan l D cI cZ cB cJ cR ks ad Psi) : zMet l D cI cZ cB cJ cR zKS ks ad Psi yX5_lookAnew (.code yX5_lookAnew cX5_lookAnew 1 none) 3 zc_415 :=
  zmet_of hw 3 (by decide) 4000 zk_415 (by decide) (by decide) (fun X => ⟨zg_RX5 X, zp_RX5 X, zl1_RX5 X, zl2_RX5 X, nilz, (List.forall_mem_cons.mpr ⟨zq_RX5_345 X (zM_298 hw hm) (by decide) rfl rfl, nilz⟩)⟩)
set_option maxRecDepth 100000 in
theorem zk_425 : zmeth zKS zuq zNS zm_425 4000 = true := by decide +kernel
theorem zM_425 {l : Launch} {D : va_G} {cI cZ cB cJ cR : ClassId} {ks ad : List Nat} {Psi : va_W → Prop} (hw : zworld ks ad zuq zNS Psi) (hm : zMan l D cI cZ cB cJ cR ks ad Psi) : zMet l D cI cZ cB cJ cR zKS ks ad Psi yX5_ring (.code yX5_ring cX5_ring 2 (some .int)) 3 zc_425 :=
  zmet_of hw 3 (by decide) 4000 zk_425 (by decide) (by decide) (fun X => ⟨zg_RX5 X, zp_RX5 X, zl1_RX5 X, zl2_RX5 X, nilz, (List.forall_mem_cons.mpr ⟨zq_RX5_83 X (zM_293 hw hm) (by decide) rfl rfl, (List.forall_mem_cons.mpr ⟨zq_RX5_143 X (zM_305 hw hm) (by decide) rfl rfl, nilz⟩)⟩)⟩)
set_option maxRecDepth 100000 in
theorem zk_426 : zmeth zKS zuq zNS zm_426 4000 = true := by decide +kernel
theorem zM_426 {l : Launch} {D : va_G} {cI cZ cB cJ cR : ClassId} {ks ad : List Nat} {Psi : va_W → Prop} (hw : zworld ks ad zuq zNS Psi) (hm : zMan l D cI cZ cB cJ cR ks ad Psi) : zMet l D cI cZ cB cJ cR zKS ks ad Psi yX5_rings (.code yX5_rings cX5_rings 4 (some .int)) 3 zc_426 :=
  zmet_of hw 3 (by decide) 4000 zk_426 (by decide) (by decide) (fun X => ⟨zg_RX5 X, zp_RX5 X, zl1_RX5 X, zl2_RX5 X, nilz, (List.forall_mem_cons.mpr ⟨zq_RX5_115 X (zM_277 hw hm) (by decide) rfl rfl, (List.forall_mem_cons.mpr ⟨zq_RX5_143 X (zM_305 hw hm) (by decide) rfl rfl, nilz⟩)⟩)⟩)
set_option maxRecDepth 100000 in
theorem zk_432 : zmeth zKS zuq zNS zm_432 4000 = true := by decide +kernel
theorem zM_432 {l : Launch} {D : va_G} {cI cZ cB cJ cR : ClassId} {ks ad : List Nat} {Psi : va_W → Prop} (hw : zworld ks ad zuq zNS Psi) (hm : zMan l D cI cZ cB cJ cR ks ad Psi) : zMet l D cI cZ cB cJ cR zKS ks ad Psi yX5_steps (.code yX5_steps cX5_steps 3 (some .int)) 3 zc_432 :=
  zmet_of hw 3 (by decide) 4000 zk_432 (by decide) (by decide) (fun X => ⟨zg_RX5 X, zp_RX5 X, zl1_RX5 X, zl2_RX5 X, nilz, (List.forall_mem_cons.mpr ⟨zq_RX5_179 X (zM_292 hw hm) (by decide) rfl rfl, (List.forall_mem_cons.mpr ⟨zq_RX5_204 X (zM_321 hw hm) (by decide) rfl rfl, (List.forall_mem_cons.mpr ⟨zq_RX5_214 X (zM_316 hw hm) (by decide) rfl rfl, nilz⟩)⟩)⟩)⟩)
set_option maxRecDepth 100000 in
theorem zk_440 : zmeth zKS zuq zNS zm_440 4000 = true := by decide +kernel
theorem zM_440 {l : Launch} {D : va_G} {cI cZ cB cJ cR : ClassId} {ks ad : List Nat} {Psi : va_W → Prop} (hw : zworld ks ad zuq zNS Psi) (hm : zMan l D cI cZ cB cJ cR ks ad Psi) : zMet l D cI cZ cB cJ cR zKS ks ad Psi yX5_tied (.code yX5_tied cX5_tied 3 (some .int)) 3 zc_440 :=
  zmet_of hw 3 (by decide) 4000 zk_440 (by decide) (by decide) (fun X => ⟨zg_RX5 X, zp_RX5 X, zl1_RX5 X, zl2_RX5 X, nilz, (List.forall_mem_cons.mpr ⟨zq_RX5_179 X (zM_292 hw hm) (by decide) rfl rfl, (List.forall_mem_cons.mpr ⟨zq_RX5_204 X (zM_321 hw hm) (by decide) rfl rfl, (List.forall_mem_cons.mpr ⟨zq_RX5_208 X (zM_320 hw hm) (by decide) rfl rfl, nilz⟩)⟩)⟩)⟩)
set_option maxRecDepth 100000 in
theorem zk_441 : zmeth zKS zuq zNS zm_441 4000 = true := by decide +kernel
theorem zM_441 {l : Launch} {D : va_G} {cI cZ cB cJ cR : ClassId} {ks ad : List Nat} {Psi : va_W → Prop} (hw : zworld ks ad zuq zNS Psi) (hm : zMan l D cI cZ cB cJ cR ks ad Psi) : zMet l D cI cZ cB cJ cR zKS ks ad Psi yX5_ties (.code yX5_ties cX5_ties 4 (some .int)) 3 zc_441 :=
  zmet_of hw 3 (by decide) 4000 zk_441 (by decide) (by decide) (fun X => ⟨zg_RX5 X, zp_RX5 X, zl1_RX5 X, zl2_RX5 X, nilz, (List.forall_mem_cons.mpr ⟨zq_RX5_87 X (zM_291 hw hm) (by decide) rfl rfl, (List.forall_mem_cons.mpr ⟨zq_RX5_179 X (zM_292 hw hm) (by decide) rfl rfl, (List.forall_mem_cons.mpr ⟨zq_RX5_204 X (zM_321 hw hm) (by decide) rfl rfl, (List.forall_mem_cons.mpr ⟨zq_RX5_211 X (zM_317 hw hm) (by decide) rfl rfl, nilz⟩)⟩)⟩)⟩)⟩)
set_option maxRecDepth 100000 in
theorem zk_447 : zmeth zKS zuq zNS zm_447 4000 = true := by decide +kernel
theorem zM_447 {l : Launch} {D : va_G} {cI cZ cB cJ cR : ClassId} {ks ad : List Nat} {Psi : va_W → Prop} (hw : zworld ks ad zuq zNS Psi) (hm : zMan l D cI cZ cB cJ cR ks ad Psi) : zMet l D cI cZ cB cJ cR zKS ks ad Psi yX5_witness (.code yX5_witness cX5_witness 3 (some .int)) 3 zc_447 :=
  zmet_of hw 3 (by decide) 4000 zk_447 (by decide) (by decide) (fun X => ⟨zg_RX5 X, zp_RX5 X, zl1_RX5 X, zl2_RX5 X, nilz, (List.forall_mem_cons.mpr ⟨zq_RX5_87 X (zM_291 hw hm) (by decide) rfl rfl, (List.forall_mem_cons.mpr ⟨zq_RX5_186 X (zM_294 hw hm) (by decide) rfl rfl, (List.forall_mem_cons.mpr ⟨zq_RX5_189 X (zM_315 hw hm) (by decide) rfl rfl, nilz⟩)⟩)⟩)⟩)
set_option maxRecDepth 100000 in
theorem zk_460 : zmeth zKS zuq zNS zm_460 4000 = true := by decide +kernel
theorem zM_460 {l : Launch} {D : va_G} {cI cZ cB cJ cR : ClassId} {ks ad : List Nat} {Psi : va_W → Prop} (hw : zworld ks ad zuq zNS Psi) (hm : zMan l D cI cZ cB cJ cR ks ad Psi) : zMet l D cI cZ cB cJ cR zKS ks ad Psi yX6_asks (.code yX6_asks cX6_asks 3 none) 3 zc_460 :=
  zmet_of hw 3 (by decide) 4000 zk_460 (by decide) (by decide) (fun X => ⟨zg_RX6 X, zp_RX6 X, zl1_RX6 X, zl2_RX6 X, nilz, (List.forall_mem_cons.mpr ⟨zq_RX6_136 X (zM_640 hw hm) (by decide) rfl rfl, (List.forall_mem_cons.mpr ⟨zq_RX6_139 X (zM_502 hw hm) (by decide) rfl rfl, nilz⟩)⟩)⟩)
set_option maxRecDepth 100000 in
theorem zk_478 : zmeth zKS zuq zNS zm_478 4000 = true := by decide +kernel
theorem zM_478 {l : Launch} {D : va_G} {cI cZ cB cJ cR : ClassId} {ks ad : List Nat} {Psi : va_W → Prop} (hw : zworld ks ad zuq zNS Psi) (hm : zMan l D cI cZ cB cJ cR ks ad Psi) : zMet l D cI cZ cB cJ cR zKS ks ad Psi yX6_copyCity (.code yX6_copyCity cX6_copyCity 3 none) 3 zc_478 :=
  zmet_of hw 3 (by decide) 4000 zk_478 (by decide) (by decide) (fun X => ⟨zg_RX6 X, zp_RX6 X, zl1_RX6 X, zl2_RX6 X, nilz, (List.forall_mem_cons.mpr ⟨zq_RX6_223 X (zman_479 hm) (by decide) rfl, (List.forall_mem_cons.mpr ⟨zq_RX6_223 X (zman_481 hm) (by decide) rfl, (List.forall_mem_cons.mpr ⟨zq_RX6_223 X (zman_483 hm) (by decide) rfl, (List.forall_mem_cons.mpr ⟨zq_RX6_223 X (zman_485 hm) (by decide) rfl, (List.forall_mem_cons.mpr ⟨zq_RX6_223 X (zman_487 hm) (by decide) rfl, nilz⟩)⟩)⟩)⟩)⟩)⟩)
set_option maxRecDepth 100000 in
theorem zk_371 : zmeth zKS zuq zNS zm_371 4000 = true := by decide +kernel
theorem zM_371 {l : Launch} {D : va_G} {cI cZ cB cJ cR : ClassId} {ks ad : List Nat} {Psi : va_W → Prop} (hw : zworld ks ad zuq zNS Psi) (hm : zMan l D cI cZ cB cJ cR ks ad Psi) : zMet l D cI cZ cB cJ cR zKS ks ad Psi yX5_anew (.code yX5_anew cX5_anew 3 (some .int)) 4 zc_371 :=
  zmet_of hw 4 (by decide) 4000 zk_371 (by decide) (by decide) (fun X => ⟨zg_RX5 X, zp_RX5 X, zl1_RX5 X, zl2_RX5 X, nilz, (List.forall_mem_cons.mpr ⟨zq_RX5_71 X (zM_415 hw hm) (by decide) rfl rfl, (List.forall_mem_cons.mpr ⟨zq_RX5_115 X (zM_277 hw hm) (by decide) rfl rfl, (List.forall_mem_cons.mpr ⟨zq_RX5_302 X (zman_314 hm) (by decide) rfl rfl, nilz⟩)⟩)⟩)⟩)
set_option maxRecDepth 100000 in
theorem zk_374 : zmeth zKS zuq zNS zm_374 4000 = true := by decide +kernel
theorem zM_374 {l : Launch} {D : va_G} {cI cZ cB cJ cR : ClassId} {ks ad : List Nat} {Psi : va_W → Prop} (hw : zworld ks ad zuq zNS Psi) (hm : zMan l D cI cZ cB cJ cR ks ad Psi) : zMet l D cI cZ cB cJ cR zKS ks ad Psi yX5_back (.code yX5_back cX5_back 2 (some .int)) 4 zc_374 :=
  zmet_of hw 4 (by decide) 4000 zk_374 (by decide) (by decide) (fun X => ⟨zg_RX5 X, zp_RX5 X, zl1_RX5 X, zl2_RX5 X, nilz, (List.forall_mem_cons.mpr ⟨zq_RX5_71 X (zM_415 hw hm) (by decide) rfl rfl, (List.forall_mem_cons.mpr ⟨zq_RX5_317 X (zman_274 hm) (by decide) rfl rfl, nilz⟩)⟩)⟩)
set_option maxRecDepth 100000 in
theorem zk_417 : zmeth zKS zuq zNS zm_417 4000 = true := by decide +kernel
theorem zM_417 {l : Launch} {D : va_G} {cI cZ cB cJ cR : ClassId} {ks ad : List Nat} {Psi : va_W → Prop} (hw : zworld ks ad zuq zNS Psi) (hm : zMan l D cI cZ cB cJ cR ks ad Psi) : zMet l D cI cZ cB cJ cR zKS ks ad Psi yX5_move (.code yX5_move cX5_move 5 (some .int)) 4 zc_417 :=
  zmet_of hw 4 (by decide) 4000 zk_417 (by decide) (by decide) (fun X => ⟨zg_RX5 X, zp_RX5 X, zl1_RX5 X, zl2_RX5 X, nilz, (List.forall_mem_cons.mpr ⟨zq_RX5_71 X (zM_415 hw hm) (by decide) rfl rfl, (List.forall_mem_cons.mpr ⟨zq_RX5_83 X (zM_293 hw hm) (by decide) rfl rfl, (List.forall_mem_cons.mpr ⟨zq_RX5_87 X (zM_291 hw hm) (by decide) rfl rfl, (List.forall_mem_cons.mpr ⟨zq_RX5_186 X (zM_294 hw hm) (by decide) rfl rfl, (List.forall_mem_cons.mpr ⟨zq_RX5_299 X (zM_300 hw hm) (by decide) rfl rfl, nilz⟩)⟩)⟩)⟩)⟩)⟩)
set_option maxRecDepth 100000 in
theorem zk_436 : zmeth zKS zuq zNS zm_436 4000 = true := by decide +kernel
theorem zM_436 {l : Launch} {D : va_G} {cI cZ cB cJ cR : ClassId} {ks ad : List Nat} {Psi : va_W → Prop} (hw : zworld ks ad zuq zNS Psi) (hm : zMan l D cI cZ cB cJ cR ks ad Psi) : zMet l D cI cZ cB cJ cR zKS ks ad Psi yX5_swear (.code yX5_swear cX5_swear 3 (some .int)) 4 zc_436 :=
  zmet_of hw 4 (by decide) 4000 zk_436 (by decide) (by decide) (fun X => ⟨zg_RX5 X, zp_RX5 X, zl1_RX5 X, zl2_RX5 X, nilz, (List.forall_mem_cons.mpr ⟨zq_RX5_83 X (zM_293 hw hm) (by decide) rfl rfl, (List.forall_mem_cons.mpr ⟨zq_RX5_179 X (zM_292 hw hm) (by decide) rfl rfl, (List.forall_mem_cons.mpr ⟨zq_RX5_296 X (zM_312 hw hm) (by decide) rfl rfl, nilz⟩)⟩)⟩)⟩)
set_option maxRecDepth 100000 in
theorem zk_443 : zmeth zKS zuq zNS zm_443 4000 = true := by decide +kernel
theorem zM_443 {l : Launch} {D : va_G} {cI cZ cB cJ cR : ClassId} {ks ad : List Nat} {Psi : va_W → Prop} (hw : zworld ks ad zuq zNS Psi) (hm : zMan l D cI cZ cB cJ cR ks ad Psi) : zMet l D cI cZ cB cJ cR zKS ks ad Psi yX5_undo (.code yX5_undo cX5_undo 1 (some .int)) 4 zc_443 :=
  zmet_of hw 4 (by decide) 4000 zk_443 (by decide) (by decide) (fun X => ⟨zg_RX5 X, zp_RX5 X, zl1_RX5 X, zl2_RX5 X, nilz, (List.forall_mem_cons.mpr ⟨zq_RX5_71 X (zM_415 hw hm) (by decide) rfl rfl, (List.forall_mem_cons.mpr ⟨zq_RX5_115 X (zM_277 hw hm) (by decide) rfl rfl, (List.forall_mem_cons.mpr ⟨zq_RX5_302 X (zman_314 hm) (by decide) rfl rfl, nilz⟩)⟩)⟩)⟩)
set_option maxRecDepth 100000 in
theorem zk_462 : zmeth zKS zuq zNS zm_462 4000 = true := by decide +kernel
theorem zM_462 {l : Launch} {D : va_G} {cI cZ cB cJ cR : ClassId} {ks ad : List Nat} {Psi : va_W → Prop} (hw : zworld ks ad zuq zNS Psi) (hm : zMan l D cI cZ cB cJ cR ks ad Psi) : zMet l D cI cZ cB cJ cR zKS ks ad Psi yX6_back (.code yX6_back cX6_back 2 (some .int)) 4 zc_462 :=
  zmet_of hw 4 (by decide) 4000 zk_462 (by decide) (by decide) (fun X => ⟨zg_RX6 X, zp_RX6 X, zl1_RX6 X, zl2_RX6 X, nilz, (List.forall_mem_cons.mpr ⟨zq_RX6_76 X (zM_530 hw hm) (by decide) rfl, (List.forall_mem_cons.mpr ⟨zq_RX6_220 X (zM_478 hw hm) (by decide) rfl rfl, nilz⟩)⟩)⟩)
set_option maxRecDepth 100000 in
theorem zk_525 : zmeth zKS zuq zNS zm_525 4000 = true := by decide +kernel
theorem zM_525 {l : Launch} {D : va_G} {cI cZ cB cJ cR : ClassId} {ks ad : List Nat} {Psi : va_W → Prop} (hw : zworld ks ad zuq zNS Psi) (hm : zMan l D cI cZ cB cJ cR ks ad Psi) : zMet l D cI cZ cB cJ cR zKS ks ad Psi yX6_image (.code yX6_image cX6_image 2 (some .int)) 4 zc_525 :=
  zmet_of hw 4 (by decide) 4000 zk_525 (by decide) (by decide) (fun X => ⟨zg_RX6 X, zp_RX6 X, zl1_RX6 X, zl2_RX6 X, nilz, (List.forall_mem_cons.mpr ⟨zq_RX6_76 X (zM_530 hw hm) (by decide) rfl, (List.forall_mem_cons.mpr ⟨zq_RX6_220 X (zM_478 hw hm) (by decide) rfl rfl, nilz⟩)⟩)⟩)
set_option maxRecDepth 100000 in
theorem zk_591 : zmeth zKS zuq zNS zm_591 4000 = true := by decide +kernel
theorem zM_591 {l : Launch} {D : va_G} {cI cZ cB cJ cR : ClassId} {ks ad : List Nat} {Psi : va_W → Prop} (hw : zworld ks ad zuq zNS Psi) (hm : zMan l D cI cZ cB cJ cR ks ad Psi) : zMet l D cI cZ cB cJ cR zKS ks ad Psi yX6_number_ (.code yX6_number_ cX6_number_ 5 (some .int)) 4 zc_591 :=
  zmet_of hw 4 (by decide) 4000 zk_591 (by decide) (by decide) (fun X => ⟨zg_RX6 X, zp_RX6 X, zl1_RX6 X, zl2_RX6 X, nilz, (List.forall_mem_cons.mpr ⟨zq_RX6_142 X (zM_460 hw hm) (by decide) rfl rfl, (List.forall_mem_cons.mpr ⟨zq_RX6_146 X (zM_586 hw hm) (by decide) rfl rfl, nilz⟩)⟩)⟩)
set_option maxRecDepth 100000 in
theorem zk_592 : zmeth zKS zuq zNS zm_592 4000 = true := by decide +kernel
theorem zM_592 {l : Launch} {D : va_G} {cI cZ cB cJ cR : ClassId} {ks ad : List Nat} {Psi : va_W → Prop} (hw : zworld ks ad zuq zNS Psi) (hm : zMan l D cI cZ cB cJ cR ks ad Psi) : zMet l D cI cZ cB cJ cR zKS ks ad Psi yX6_number_ (.code yX6_number_ cX6_number_ 5 (some .int)) 4 zc_592 :=
  zmet_of hw 4 (by decide) 4000 zk_592 (by decide) (by decide) (fun X => ⟨zg_RX6 X, zp_RX6 X, zl1_RX6 X, zl2_RX6 X, nilz, (List.forall_mem_cons.mpr ⟨zq_RX6_142 X (zM_460 hw hm) (by decide) rfl rfl, (List.forall_mem_cons.mpr ⟨zq_RX6_146 X (zM_587 hw hm) (by decide) rfl rfl, nilz⟩)⟩)⟩)
