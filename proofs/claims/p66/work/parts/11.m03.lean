set_option maxRecDepth 100000 in
theorem zk_475 : zmeth zKS zuq zNS zm_475 4000 = true := by decide +kernel
theorem zM_475 {l : Launch} {D : va_G} {cI cZ cB cJ cR : ClassId} {ks ad : List Nat} {Psi : va_W → Prop} (hw : zworld ks ad zuq zNS Psi) (hm : zMan l D cI cZ cB cJ cR ks ad Psi) : zMet l D cI cZ cB cJ cR zKS ks ad Psi yX6_clears (.code yX6_clears cX6_clears 2 none) 1 zc_475 :=
  zmet_of hw 1 (by decide) 4000 zk_475 (by decide) (by decide) (fun X => ⟨zg_RX6 X, zp_RX6 X, zl1_RX6 X, zl2_RX6 X, nilz, (List.forall_mem_cons.mpr ⟨zq_RX6_164 X (zM_653 hw hm) (by decide) rfl rfl, nilz⟩)⟩)
set_option maxRecDepth 100000 in
theorem zk_489 : zmeth zKS zuq zNS zm_489 4000 = true := by decide +kernel
theorem zM_489 {l : Launch} {D : va_G} {cI cZ cB cJ cR : ClassId} {ks ad : List Nat} {Psi : va_W → Prop} (hw : zworld ks ad zuq zNS Psi) (hm : zMan l D cI cZ cB cJ cR ks ad Psi) : zMet l D cI cZ cB cJ cR zKS ks ad Psi yX6_count (.code yX6_count cX6_count 4 (some .int)) 1 zc_489 :=
  zmet_of hw 1 (by decide) 4000 zk_489 (by decide) (by decide) (fun X => ⟨zg_RX6 X, zp_RX6 X, zl1_RX6 X, zl2_RX6 X, nilz, (List.forall_mem_cons.mpr ⟨zq_RX6_76 X (zM_534 hw hm) (by decide) rfl, nilz⟩)⟩)
set_option maxRecDepth 100000 in
theorem zk_496 : zmeth zKS zuq zNS zm_496 4000 = true := by decide +kernel
theorem zM_496 {l : Launch} {D : va_G} {cI cZ cB cJ cR : ClassId} {ks ad : List Nat} {Psi : va_W → Prop} (hw : zworld ks ad zuq zNS Psi) (hm : zMan l D cI cZ cB cJ cR ks ad Psi) : zMet l D cI cZ cB cJ cR zKS ks ad Psi yX6_draws (.code yX6_draws cX6_draws 7 (some .int)) 1 zc_496 :=
  zmet_of hw 1 (by decide) 4000 zk_496 (by decide) (by decide) (fun X => ⟨zg_RX6 X, zp_RX6 X, zl1_RX6 X, zl2_RX6 X, nilz, (List.forall_mem_cons.mpr ⟨zq_RX6_231 X (zM_524 hw hm) (by decide) rfl rfl, nilz⟩)⟩)
set_option maxRecDepth 100000 in
theorem zk_497 : zmeth zKS zuq zNS zm_497 4000 = true := by decide +kernel
theorem zM_497 {l : Launch} {D : va_G} {cI cZ cB cJ cR : ClassId} {ks ad : List Nat} {Psi : va_W → Prop} (hw : zworld ks ad zuq zNS Psi) (hm : zMan l D cI cZ cB cJ cR ks ad Psi) : zMet l D cI cZ cB cJ cR zKS ks ad Psi yX6_end (.code yX6_end cX6_end 2 (some .int)) 1 zc_497 :=
  zmet_of hw 1 (by decide) 4000 zk_497 (by decide) (by decide) (fun X => ⟨zg_RX6 X, zp_RX6 X, zl1_RX6 X, zl2_RX6 X, nilz, (List.forall_mem_cons.mpr ⟨zq_RX6_76 X (zM_528 hw hm) (by decide) rfl, nilz⟩)⟩)
set_option maxRecDepth 100000 in
theorem zk_506 : zmeth zKS zuq zNS zm_506 4000 = true := by decide +kernel
theorem zM_506 {l : Launch} {D : va_G} {cI cZ cB cJ cR : ClassId} {ks ad : List Nat} {Psi : va_W → Prop} (hw : zworld ks ad zuq zNS Psi) (hm : zMan l D cI cZ cB cJ cR ks ad Psi) : zMet l D cI cZ cB cJ cR zKS ks ad Psi yX6_feed (.code yX6_feed cX6_feed 6 (some .int)) 1 zc_506 :=
  zmet_of hw 1 (by decide) 4000 zk_506 (by decide) (by decide) (fun X => ⟨zg_RX6 X, zp_RX6 X, zl1_RX6 X, zl2_RX6 X, nilz, (List.forall_mem_cons.mpr ⟨zq_RX6_91 X (zM_509 hw hm) (by decide) rfl rfl, nilz⟩)⟩)
set_option maxRecDepth 100000 in
theorem zk_553 : zmeth zKS zuq zNS zm_553 4000 = true := by decide +kernel
theorem zM_553 {l : Launch} {D : va_G} {cI cZ cB cJ cR : ClassId} {ks ad : List Nat} {Psi : va_W → Prop} (hw : zworld ks ad zuq zNS Psi) (hm : zMan l D cI cZ cB cJ cR ks ad Psi) : zMet l D cI cZ cB cJ cR zKS ks ad Psi yX6_isHalf (.code yX6_isHalf cX6_isHalf 1 (some .boolean)) 1 zc_553 :=
  zmet_of hw 1 (by decide) 4000 zk_553 (by decide) (by decide) (fun X => ⟨zg_RX6 X, zp_RX6 X, zl1_RX6 X, zl2_RX6 X, nilz, (List.forall_mem_cons.mpr ⟨zq_RX6_76 X (zM_545 hw hm) (by decide) rfl, nilz⟩)⟩)
set_option maxRecDepth 100000 in
theorem zk_554 : zmeth zKS zuq zNS zm_554 4000 = true := by decide +kernel
theorem zM_554 {l : Launch} {D : va_G} {cI cZ cB cJ cR : ClassId} {ks ad : List Nat} {Psi : va_W → Prop} (hw : zworld ks ad zuq zNS Psi) (hm : zMan l D cI cZ cB cJ cR ks ad Psi) : zMet l D cI cZ cB cJ cR zKS ks ad Psi yX6_isHour (.code yX6_isHour cX6_isHour 3 (some .boolean)) 1 zc_554 :=
  zmet_of hw 1 (by decide) 4000 zk_554 (by decide) (by decide) (fun X => ⟨zg_RX6 X, zp_RX6 X, zl1_RX6 X, zl2_RX6 X, nilz, (List.forall_mem_cons.mpr ⟨zq_RX6_76 X (zM_542 hw hm) (by decide) rfl, (List.forall_mem_cons.mpr ⟨zq_RX6_231 X (zM_524 hw hm) (by decide) rfl rfl, nilz⟩)⟩)⟩)
set_option maxRecDepth 100000 in
theorem zk_556 : zmeth zKS zuq zNS zm_556 4000 = true := by decide +kernel
theorem zM_556 {l : Launch} {D : va_G} {cI cZ cB cJ cR : ClassId} {ks ad : List Nat} {Psi : va_W → Prop} (hw : zworld ks ad zuq zNS Psi) (hm : zMan l D cI cZ cB cJ cR ks ad Psi) : zMet l D cI cZ cB cJ cR zKS ks ad Psi yX6_isPerson (.code yX6_isPerson cX6_isPerson 3 (some .boolean)) 1 zc_556 :=
  zmet_of hw 1 (by decide) 4000 zk_556 (by decide) (by decide) (fun X => ⟨zg_RX6 X, zp_RX6 X, zl1_RX6 X, zl2_RX6 X, nilz, (List.forall_mem_cons.mpr ⟨zq_RX6_76 X (zM_543 hw hm) (by decide) rfl, (List.forall_mem_cons.mpr ⟨zq_RX6_227 X (zM_602 hw hm) (by decide) rfl rfl, nilz⟩)⟩)⟩)
set_option maxRecDepth 100000 in
theorem zk_557 : zmeth zKS zuq zNS zm_557 4000 = true := by decide +kernel
theorem zM_557 {l : Launch} {D : va_G} {cI cZ cB cJ cR : ClassId} {ks ad : List Nat} {Psi : va_W → Prop} (hw : zworld ks ad zuq zNS Psi) (hm : zMan l D cI cZ cB cJ cR ks ad Psi) : zMet l D cI cZ cB cJ cR zKS ks ad Psi yX6_isPlace (.code yX6_isPlace cX6_isPlace 3 (some .boolean)) 1 zc_557 :=
  zmet_of hw 1 (by decide) 4000 zk_557 (by decide) (by decide) (fun X => ⟨zg_RX6 X, zp_RX6 X, zl1_RX6 X, zl2_RX6 X, nilz, (List.forall_mem_cons.mpr ⟨zq_RX6_76 X (zM_544 hw hm) (by decide) rfl, nilz⟩)⟩)
set_option maxRecDepth 100000 in
theorem zk_558 : zmeth zKS zuq zNS zm_558 4000 = true := by decide +kernel
theorem zM_558 {l : Launch} {D : va_G} {cI cZ cB cJ cR : ClassId} {ks ad : List Nat} {Psi : va_W → Prop} (hw : zworld ks ad zuq zNS Psi) (hm : zMan l D cI cZ cB cJ cR ks ad Psi) : zMet l D cI cZ cB cJ cR zKS ks ad Psi yX6_isSeed (.code yX6_isSeed cX6_isSeed 2 (some .boolean)) 1 zc_558 :=
  zmet_of hw 1 (by decide) 4000 zk_558 (by decide) (by decide) (fun X => ⟨zg_RX6 X, zp_RX6 X, zl1_RX6 X, zl2_RX6 X, nilz, (List.forall_mem_cons.mpr ⟨zq_RX6_76 X (zM_531 hw hm) (by decide) rfl, (List.forall_mem_cons.mpr ⟨zq_RX6_276 X (zM_549 hw hm) (by decide) rfl rfl, nilz⟩)⟩)⟩)
set_option maxRecDepth 100000 in
theorem zk_561 : zmeth zKS zuq zNS zm_561 4000 = true := by decide +kernel
theorem zM_561 {l : Launch} {D : va_G} {cI cZ cB cJ cR : ClassId} {ks ad : List Nat} {Psi : va_W → Prop} (hw : zworld ks ad zuq zNS Psi) (hm : zMan l D cI cZ cB cJ cR ks ad Psi) : zMet l D cI cZ cB cJ cR zKS ks ad Psi yX6_isSlot (.code yX6_isSlot cX6_isSlot 1 (some .boolean)) 1 zc_561 :=
  zmet_of hw 1 (by decide) 4000 zk_561 (by decide) (by decide) (fun X => ⟨zg_RX6 X, zp_RX6 X, zl1_RX6 X, zl2_RX6 X, nilz, (List.forall_mem_cons.mpr ⟨zq_RX6_76 X (zM_532 hw hm) (by decide) rfl, nilz⟩)⟩)
set_option maxRecDepth 100000 in
theorem zk_579 : zmeth zKS zuq zNS zm_579 4000 = true := by decide +kernel
theorem zM_579 {l : Launch} {D : va_G} {cI cZ cB cJ cR : ClassId} {ks ad : List Nat} {Psi : va_W → Prop} (hw : zworld ks ad zuq zNS Psi) (hm : zMan l D cI cZ cB cJ cR ks ad Psi) : zMet l D cI cZ cB cJ cR zKS ks ad Psi yX6_next (.code yX6_next cX6_next 2 none) 1 zc_579 :=
  zmet_of hw 1 (by decide) 4000 zk_579 (by decide) (by decide) (fun X => ⟨zg_RX6 X, zp_RX6 X, zl1_RX6 X, zl2_RX6 X, nilz, (List.forall_mem_cons.mpr ⟨zq_RX6_98 X (zM_548 hw hm) (by decide) rfl rfl, nilz⟩)⟩)
set_option maxRecDepth 100000 in
theorem zk_631 : zmeth zKS zuq zNS zm_631 4000 = true := by decide +kernel
theorem zM_631 {l : Launch} {D : va_G} {cI cZ cB cJ cR : ClassId} {ks ad : List Nat} {Psi : va_W → Prop} (hw : zworld ks ad zuq zNS Psi) (hm : zMan l D cI cZ cB cJ cR ks ad Psi) : zMet l D cI cZ cB cJ cR zKS ks ad Psi yX6_seesTo (.code yX6_seesTo cX6_seesTo 4 (some .boolean)) 1 zc_631 :=
  zmet_of hw 1 (by decide) 4000 zk_631 (by decide) (by decide) (fun X => ⟨zg_RX6 X, zp_RX6 X, zl1_RX6 X, zl2_RX6 X, nilz, (List.forall_mem_cons.mpr ⟨zq_RX6_237 X (zM_504 hw hm) (by decide) rfl, (List.forall_mem_cons.mpr ⟨zq_RX6_240 X (zM_547 hw hm) (by decide) rfl, nilz⟩)⟩)⟩)
set_option maxRecDepth 100000 in
theorem zk_639 : zmeth zKS zuq zNS zm_639 4000 = true := by decide +kernel
theorem zM_639 {l : Launch} {D : va_G} {cI cZ cB cJ cR : ClassId} {ks ad : List Nat} {Psi : va_W → Prop} (hw : zworld ks ad zuq zNS Psi) (hm : zMan l D cI cZ cB cJ cR ks ad Psi) : zMet l D cI cZ cB cJ cR zKS ks ad Psi yX6_swornTo (.code yX6_swornTo cX6_swornTo 4 (some .int)) 1 zc_639 :=
  zmet_of hw 1 (by decide) 4000 zk_639 (by decide) (by decide) (fun X => ⟨zg_RX6 X, zp_RX6 X, zl1_RX6 X, zl2_RX6 X, nilz, (List.forall_mem_cons.mpr ⟨zq_RX6_227 X (zM_602 hw hm) (by decide) rfl rfl, nilz⟩)⟩)
set_option maxRecDepth 100000 in
theorem zk_641 : zmeth zKS zuq zNS zm_641 4000 = true := by decide +kernel
theorem zM_641 {l : Launch} {D : va_G} {cI cZ cB cJ cR : ClassId} {ks ad : List Nat} {Psi : va_W → Prop} (hw : zworld ks ad zuq zNS Psi) (hm : zMan l D cI cZ cB cJ cR ks ad Psi) : zMet l D cI cZ cB cJ cR zKS ks ad Psi yX6_tell (.code yX6_tell cX6_tell 4 (some .int)) 1 zc_641 :=
  zmet_of hw 1 (by decide) 4000 zk_641 (by decide) (by decide) (fun X => ⟨zg_RX6 X, zp_RX6 X, zl1_RX6 X, zl2_RX6 X, nilz, (List.forall_mem_cons.mpr ⟨zq_RX6_76 X (zM_532 hw hm) (by decide) rfl, (List.forall_mem_cons.mpr ⟨zq_RX6_76 X (zM_535 hw hm) (by decide) rfl, (List.forall_mem_cons.mpr ⟨zq_RX6_76 X (zM_536 hw hm) (by decide) rfl, (List.forall_mem_cons.mpr ⟨zq_RX6_76 X (zM_541 hw hm) (by decide) rfl, (List.forall_mem_cons.mpr ⟨zq_RX6_276 X (zM_549 hw hm) (by decide) rfl rfl, nilz⟩)⟩)⟩)⟩)⟩)⟩)
set_option maxRecDepth 100000 in
theorem zk_667 : zmeth zKS zuq zNS zm_667 4000 = true := by decide +kernel
theorem zM_667 {l : Launch} {D : va_G} {cI cZ cB cJ cR : ClassId} {ks ad : List Nat} {Psi : va_W → Prop} (hw : zworld ks ad zuq zNS Psi) (hm : zMan l D cI cZ cB cJ cR ks ad Psi) : zMet l D cI cZ cB cJ cR zKS ks ad Psi yX6_undo (.code yX6_undo cX6_undo 1 (some .int)) 1 zc_667 :=
  zmet_of hw 1 (by decide) 4000 zk_667 (by decide) (by decide) (fun X => ⟨zg_RX6 X, zp_RX6 X, zl1_RX6 X, zl2_RX6 X, nilz, (List.forall_mem_cons.mpr ⟨zq_RX6_276 X (zM_549 hw hm) (by decide) rfl rfl, nilz⟩)⟩)
set_option maxRecDepth 100000 in
theorem zk_280 : zmeth zKS zuq zNS zm_280 4000 = true := by decide +kernel
theorem zM_280 {l : Launch} {D : va_G} {cI cZ cB cJ cR : ClassId} {ks ad : List Nat} {Psi : va_W → Prop} (hw : zworld ks ad zuq zNS Psi) (hm : zMan l D cI cZ cB cJ cR ks ad Psi) : zMet l D cI cZ cB cJ cR zKS ks ad Psi yX0_fogGapBits (.code yX0_fogGapBits cX0_fogGapBits 5 (some .int)) 2 zc_280 :=
  zmet_of hw 2 (by decide) 4000 zk_280 (by decide) (by decide) (fun X => ⟨zg_RX0 X, zp_RX0 X, zl1_RX0 X, zl2_RX0 X, nilz, (List.forall_mem_cons.mpr ⟨zq_RX0_65 X (zM_302 hw hm) (by decide) rfl rfl, (List.forall_mem_cons.mpr ⟨zq_RX0_76 X (zM_288 hw hm) (by decide) rfl rfl, (List.forall_mem_cons.mpr ⟨zq_RX0_111 X (zM_270 hw hm) (by decide) rfl rfl, nilz⟩)⟩)⟩)⟩)
set_option maxRecDepth 100000 in
theorem zk_298 : zmeth zKS zuq zNS zm_298 4000 = true := by decide +kernel
theorem zM_298 {l : Launch} {D : va_G} {cI cZ cB cJ cR : ClassId} {ks ad : List Nat} {Psi : va_W → Prop} (hw : zworld ks ad zuq zNS Psi) (hm : zMan l D cI cZ cB cJ cR ks ad Psi) : zMet l D cI cZ cB cJ cR zKS ks ad Psi yX0_look (.code yX0_look cX0_look 5 none) 2 zc_298 :=
  zmet_of hw 2 (by decide) 4000 zk_298 (by decide) (by decide) (fun X => ⟨zg_RX0 X, zp_RX0 X, zl1_RX0 X, zl2_RX0 X, nilz, (List.forall_mem_cons.mpr ⟨zq_RX0_65 X (zM_302 hw hm) (by decide) rfl rfl, (List.forall_mem_cons.mpr ⟨zq_RX0_76 X (zM_288 hw hm) (by decide) rfl rfl, (List.forall_mem_cons.mpr ⟨zq_RX0_91 X (zM_304 hw hm) (by decide) rfl rfl, nilz⟩)⟩)⟩)⟩)
set_option maxRecDepth 100000 in
theorem zk_305 : zmeth zKS zuq zNS zm_305 4000 = true := by decide +kernel
theorem zM_305 {l : Launch} {D : va_G} {cI cZ cB cJ cR : ClassId} {ks ad : List Nat} {Psi : va_W → Prop} (hw : zworld ks ad zuq zNS Psi) (hm : zMan l D cI cZ cB cJ cR ks ad Psi) : zMet l D cI cZ cB cJ cR zKS ks ad Psi yX0_ringOf (.code yX0_ringOf cX0_ringOf 4 (some .int)) 2 zc_305 :=
  zmet_of hw 2 (by decide) 4000 zk_305 (by decide) (by decide) (fun X => ⟨zg_RX0 X, zp_RX0 X, zl1_RX0 X, zl2_RX0 X, nilz, (List.forall_mem_cons.mpr ⟨zq_RX0_72 X (zM_293 hw hm) (by decide) rfl rfl, (List.forall_mem_cons.mpr ⟨zq_RX0_141 X (zM_272 hw hm) (by decide) rfl rfl, nilz⟩)⟩)⟩)
set_option maxRecDepth 100000 in
theorem zk_315 : zmeth zKS zuq zNS zm_315 4000 = true := by decide +kernel
theorem zM_315 {l : Launch} {D : va_G} {cI cZ cB cJ cR : ClassId} {ks ad : List Nat} {Psi : va_W → Prop} (hw : zworld ks ad zuq zNS Psi) (hm : zMan l D cI cZ cB cJ cR ks ad Psi) : zMet l D cI cZ cB cJ cR zKS ks ad Psi yX0_watchers (.code yX0_watchers cX0_watchers 5 (some .int)) 2 zc_315 :=
  zmet_of hw 2 (by decide) 4000 zk_315 (by decide) (by decide) (fun X => ⟨zg_RX0 X, zp_RX0 X, zl1_RX0 X, zl2_RX0 X, nilz, (List.forall_mem_cons.mpr ⟨zq_RX0_65 X (zM_302 hw hm) (by decide) rfl rfl, (List.forall_mem_cons.mpr ⟨zq_RX0_91 X (zM_304 hw hm) (by decide) rfl rfl, nilz⟩)⟩)⟩)
set_option maxRecDepth 100000 in
theorem zk_316 : zmeth zKS zuq zNS zm_316 4000 = true := by decide +kernel
theorem zM_316 {l : Launch} {D : va_G} {cI cZ cB cJ cR : ClassId} {ks ad : List Nat} {Psi : va_W → Prop} (hw : zworld ks ad zuq zNS Psi) (hm : zMan l D cI cZ cB cJ cR ks ad Psi) : zMet l D cI cZ cB cJ cR zKS ks ad Psi yX1_fewestSteps (.code yX1_fewestSteps cX1_fewestSteps 4 (some .int)) 2 zc_316 :=
  zmet_of hw 2 (by decide) 4000 zk_316 (by decide) (by decide) (fun X => ⟨zg_RX1 X, zp_RX1 X, zl1_RX1 X, zl2_RX1 X, nilz, (List.forall_mem_cons.mpr ⟨zq_RX1_76 X (zM_320 hw hm) (by decide) rfl rfl, nilz⟩)⟩)
set_option maxRecDepth 100000 in
theorem zk_317 : zmeth zKS zuq zNS zm_317 4000 = true := by decide +kernel
theorem zM_317 {l : Launch} {D : va_G} {cI cZ cB cJ cR : ClassId} {ks ad : List Nat} {Psi : va_W → Prop} (hw : zworld ks ad zuq zNS Psi) (hm : zMan l D cI cZ cB cJ cR ks ad Psi) : zMet l D cI cZ cB cJ cR zKS ks ad Psi yX1_firstDayAt (.code yX1_firstDayAt cX1_firstDayAt 5 (some .int)) 2 zc_317 :=
  zmet_of hw 2 (by decide) 4000 zk_317 (by decide) (by decide) (fun X => ⟨zg_RX1 X, zp_RX1 X, zl1_RX1 X, zl2_RX1 X, nilz, (List.forall_mem_cons.mpr ⟨zq_RX1_76 X (zM_320 hw hm) (by decide) rfl rfl, (List.forall_mem_cons.mpr ⟨zq_RX1_79 X (zM_318 hw hm) (by decide) rfl rfl, nilz⟩)⟩)⟩)
set_option maxRecDepth 100000 in
theorem zk_321 : zmeth zKS zuq zNS zm_321 4000 = true := by decide +kernel
theorem zM_321 {l : Launch} {D : va_G} {cI cZ cB cJ cR : ClassId} {ks ad : List Nat} {Psi : va_W → Prop} (hw : zworld ks ad zuq zNS Psi) (hm : zMan l D cI cZ cB cJ cR ks ad Psi) : zMet l D cI cZ cB cJ cR zKS ks ad Psi yX1_plan (.code yX1_plan cX1_plan 7 none) 2 zc_321 :=
  zmet_of hw 2 (by decide) 4000 zk_321 (by decide) (by decide) (fun X => ⟨zg_RX1 X, zp_RX1 X, zl1_RX1 X, zl2_RX1 X, nilz, (List.forall_mem_cons.mpr ⟨zq_RX1_25 X (zM_288 hw hm) (by decide) rfl rfl, (List.forall_mem_cons.mpr ⟨zq_RX1_34 X (zM_303 hw hm) (by decide) rfl rfl, (List.forall_mem_cons.mpr ⟨zq_RX1_48 X (zM_404 hw hm) (by decide) rfl, (List.forall_mem_cons.mpr ⟨zq_RX1_52 X (zM_302 hw hm) (by decide) rfl rfl, (List.forall_mem_cons.mpr ⟨zq_RX1_56 X (zM_304 hw hm) (by decide) rfl rfl, (List.forall_mem_cons.mpr ⟨zq_RX1_59 X (zM_322 hw hm) (by decide) rfl rfl, nilz⟩)⟩)⟩)⟩)⟩)⟩)⟩)
set_option maxRecDepth 100000 in
theorem zk_323 : zmeth zKS zuq zNS zm_323 4000 = true := by decide +kernel
theorem zM_323 {l : Launch} {D : va_G} {cI cZ cB cJ cR : ClassId} {ks ad : List Nat} {Psi : va_W → Prop} (hw : zworld ks ad zuq zNS Psi) (hm : zMan l D cI cZ cB cJ cR ks ad Psi) : zMet l D cI cZ cB cJ cR zKS ks ad Psi yX2_advances (.code yX2_advances cX2_advances 4 (some .boolean)) 2 zc_323 :=
  zmet_of hw 2 (by decide) 4000 zk_323 (by decide) (by decide) (fun X => ⟨zg_RX2 X, zp_RX2 X, zl1_RX2 X, zl2_RX2 X, nilz, (List.forall_mem_cons.mpr ⟨zq_RX2_122 X (zM_335 hw hm) (by decide) rfl rfl, nilz⟩)⟩)
set_option maxRecDepth 100000 in
theorem zk_324 : zmeth zKS zuq zNS zm_324 4000 = true := by decide +kernel
theorem zM_324 {l : Launch} {D : va_G} {cI cZ cB cJ cR : ClassId} {ks ad : List Nat} {Psi : va_W → Prop} (hw : zworld ks ad zuq zNS Psi) (hm : zMan l D cI cZ cB cJ cR ks ad Psi) : zMet l D cI cZ cB cJ cR zKS ks ad Psi yX2_advances (.code yX2_advances cX2_advances 4 (some .boolean)) 2 zc_324 :=
  zmet_of hw 2 (by decide) 4000 zk_324 (by decide) (by decide) (fun X => ⟨zg_RX2 X, zp_RX2 X, zl1_RX2 X, zl2_RX2 X, nilz, (List.forall_mem_cons.mpr ⟨zq_RX2_122 X (zM_335 hw hm) (by decide) rfl rfl, nilz⟩)⟩)
set_option maxRecDepth 100000 in
theorem zk_325 : zmeth zKS zuq zNS zm_325 4000 = true := by decide +kernel
theorem zM_325 {l : Launch} {D : va_G} {cI cZ cB cJ cR : ClassId} {ks ad : List Nat} {Psi : va_W → Prop} (hw : zworld ks ad zuq zNS Psi) (hm : zMan l D cI cZ cB cJ cR ks ad Psi) : zMet l D cI cZ cB cJ cR zKS ks ad Psi yX2_advances (.code yX2_advances cX2_advances 4 (some .boolean)) 2 zc_325 :=
  zmet_of hw 2 (by decide) 4000 zk_325 (by decide) (by decide) (fun X => ⟨zg_RX2 X, zp_RX2 X, zl1_RX2 X, zl2_RX2 X, nilz, (List.forall_mem_cons.mpr ⟨zq_RX2_122 X (zM_335 hw hm) (by decide) rfl rfl, nilz⟩)⟩)
set_option maxRecDepth 100000 in
theorem zk_326 : zmeth zKS zuq zNS zm_326 4000 = true := by decide +kernel
theorem zM_326 {l : Launch} {D : va_G} {cI cZ cB cJ cR : ClassId} {ks ad : List Nat} {Psi : va_W → Prop} (hw : zworld ks ad zuq zNS Psi) (hm : zMan l D cI cZ cB cJ cR ks ad Psi) : zMet l D cI cZ cB cJ cR zKS ks ad Psi yX2_advances (.code yX2_advances cX2_advances 4 (some .boolean)) 2 zc_326 :=
  zmet_of hw 2 (by decide) 4000 zk_326 (by decide) (by decide) (fun X => ⟨zg_RX2 X, zp_RX2 X, zl1_RX2 X, zl2_RX2 X, nilz, (List.forall_mem_cons.mpr ⟨zq_RX2_122 X (zM_335 hw hm) (by decide) rfl rfl, nilz⟩)⟩)
set_option maxRecDepth 100000 in
theorem zk_327 : zmeth zKS zuq zNS zm_327 4000 = true := by decide +kernel
theorem zM_327 {l : Launch} {D : va_G} {cI cZ cB cJ cR : ClassId} {ks ad : List Nat} {Psi : va_W → Prop} (hw : zworld ks ad zuq zNS Psi) (hm : zMan l D cI cZ cB cJ cR ks ad Psi) : zMet l D cI cZ cB cJ cR zKS ks ad Psi yX2_advances (.code yX2_advances cX2_advances 4 (some .boolean)) 2 zc_327 :=
  zmet_of hw 2 (by decide) 4000 zk_327 (by decide) (by decide) (fun X => ⟨zg_RX2 X, zp_RX2 X, zl1_RX2 X, zl2_RX2 X, nilz, (List.forall_mem_cons.mpr ⟨zq_RX2_122 X (zM_335 hw hm) (by decide) rfl rfl, nilz⟩)⟩)
set_option maxRecDepth 100000 in
theorem zk_328 : zmeth zKS zuq zNS zm_328 4000 = true := by decide +kernel
theorem zM_328 {l : Launch} {D : va_G} {cI cZ cB cJ cR : ClassId} {ks ad : List Nat} {Psi : va_W → Prop} (hw : zworld ks ad zuq zNS Psi) (hm : zMan l D cI cZ cB cJ cR ks ad Psi) : zMet l D cI cZ cB cJ cR zKS ks ad Psi yX2_advances (.code yX2_advances cX2_advances 4 (some .boolean)) 2 zc_328 :=
  zmet_of hw 2 (by decide) 4000 zk_328 (by decide) (by decide) (fun X => ⟨zg_RX2 X, zp_RX2 X, zl1_RX2 X, zl2_RX2 X, nilz, (List.forall_mem_cons.mpr ⟨zq_RX2_122 X (zM_335 hw hm) (by decide) rfl rfl, nilz⟩)⟩)
set_option maxRecDepth 100000 in
theorem zk_329 : zmeth zKS zuq zNS zm_329 4000 = true := by decide +kernel
theorem zM_329 {l : Launch} {D : va_G} {cI cZ cB cJ cR : ClassId} {ks ad : List Nat} {Psi : va_W → Prop} (hw : zworld ks ad zuq zNS Psi) (hm : zMan l D cI cZ cB cJ cR ks ad Psi) : zMet l D cI cZ cB cJ cR zKS ks ad Psi yX2_advances (.code yX2_advances cX2_advances 4 (some .boolean)) 2 zc_329 :=
  zmet_of hw 2 (by decide) 4000 zk_329 (by decide) (by decide) (fun X => ⟨zg_RX2 X, zp_RX2 X, zl1_RX2 X, zl2_RX2 X, nilz, (List.forall_mem_cons.mpr ⟨zq_RX2_122 X (zM_335 hw hm) (by decide) rfl rfl, nilz⟩)⟩)
set_option maxRecDepth 100000 in
theorem zk_360 : zmeth zKS zuq zNS zm_360 4000 = true := by decide +kernel
theorem zM_360 {l : Launch} {D : va_G} {cI cZ cB cJ cR : ClassId} {ks ad : List Nat} {Psi : va_W → Prop} (hw : zworld ks ad zuq zNS Psi) (hm : zMan l D cI cZ cB cJ cR ks ad Psi) : zMet l D cI cZ cB cJ cR zKS ks ad Psi yX4_takeNumber (.code yX4_takeNumber cX4_takeNumber 4 (some .boolean)) 2 zc_360 :=
  zmet_of hw 2 (by decide) 4000 zk_360 (by decide) (by decide) (fun X => ⟨zg_RX4 X, zp_RX4 X, zl1_RX4 X, zl2_RX4 X, nilz, (List.forall_mem_cons.mpr ⟨zq_RX4_33 X (zM_368 hw hm) (by decide) rfl rfl, (List.forall_mem_cons.mpr ⟨zq_RX4_109 X (zM_354 hw hm) (by decide) rfl rfl, (List.forall_mem_cons.mpr ⟨zq_RX4_144 X (zM_355 hw hm) (by decide) rfl rfl, nilz⟩)⟩)⟩)⟩)
set_option maxRecDepth 100000 in
theorem zk_361 : zmeth zKS zuq zNS zm_361 4000 = true := by decide +kernel
theorem zM_361 {l : Launch} {D : va_G} {cI cZ cB cJ cR : ClassId} {ks ad : List Nat} {Psi : va_W → Prop} (hw : zworld ks ad zuq zNS Psi) (hm : zMan l D cI cZ cB cJ cR ks ad Psi) : zMet l D cI cZ cB cJ cR zKS ks ad Psi yX4_takeNumber (.code yX4_takeNumber cX4_takeNumber 4 (some .boolean)) 2 zc_361 :=
  zmet_of hw 2 (by decide) 4000 zk_361 (by decide) (by decide) (fun X => ⟨zg_RX4 X, zp_RX4 X, zl1_RX4 X, zl2_RX4 X, nilz, (List.forall_mem_cons.mpr ⟨zq_RX4_33 X (zM_368 hw hm) (by decide) rfl rfl, (List.forall_mem_cons.mpr ⟨zq_RX4_109 X (zM_354 hw hm) (by decide) rfl rfl, (List.forall_mem_cons.mpr ⟨zq_RX4_144 X (zM_355 hw hm) (by decide) rfl rfl, nilz⟩)⟩)⟩)⟩)
set_option maxRecDepth 100000 in
theorem zk_362 : zmeth zKS zuq zNS zm_362 4000 = true := by decide +kernel
theorem zM_362 {l : Launch} {D : va_G} {cI cZ cB cJ cR : ClassId} {ks ad : List Nat} {Psi : va_W → Prop} (hw : zworld ks ad zuq zNS Psi) (hm : zMan l D cI cZ cB cJ cR ks ad Psi) : zMet l D cI cZ cB cJ cR zKS ks ad Psi yX4_takeNumber (.code yX4_takeNumber cX4_takeNumber 4 (some .boolean)) 2 zc_362 :=
  zmet_of hw 2 (by decide) 4000 zk_362 (by decide) (by decide) (fun X => ⟨zg_RX4 X, zp_RX4 X, zl1_RX4 X, zl2_RX4 X, nilz, (List.forall_mem_cons.mpr ⟨zq_RX4_33 X (zM_368 hw hm) (by decide) rfl rfl, (List.forall_mem_cons.mpr ⟨zq_RX4_109 X (zM_354 hw hm) (by decide) rfl rfl, (List.forall_mem_cons.mpr ⟨zq_RX4_144 X (zM_355 hw hm) (by decide) rfl rfl, nilz⟩)⟩)⟩)⟩)
set_option maxRecDepth 100000 in
theorem zk_363 : zmeth zKS zuq zNS zm_363 4000 = true := by decide +kernel
theorem zM_363 {l : Launch} {D : va_G} {cI cZ cB cJ cR : ClassId} {ks ad : List Nat} {Psi : va_W → Prop} (hw : zworld ks ad zuq zNS Psi) (hm : zMan l D cI cZ cB cJ cR ks ad Psi) : zMet l D cI cZ cB cJ cR zKS ks ad Psi yX4_takeNumber (.code yX4_takeNumber cX4_takeNumber 4 (some .boolean)) 2 zc_363 :=
  zmet_of hw 2 (by decide) 4000 zk_363 (by decide) (by decide) (fun X => ⟨zg_RX4 X, zp_RX4 X, zl1_RX4 X, zl2_RX4 X, nilz, (List.forall_mem_cons.mpr ⟨zq_RX4_33 X (zM_368 hw hm) (by decide) rfl rfl, (List.forall_mem_cons.mpr ⟨zq_RX4_109 X (zM_354 hw hm) (by decide) rfl rfl, (List.forall_mem_cons.mpr ⟨zq_RX4_144 X (zM_355 hw hm) (by decide) rfl rfl, nilz⟩)⟩)⟩)⟩)
set_option maxRecDepth 100000 in
theorem zk_365 : zmeth zKS zuq zNS zm_365 4000 = true := by decide +kernel
theorem zM_365 {l : Launch} {D : va_G} {cI cZ cB cJ cR : ClassId} {ks ad : List Nat} {Psi : va_W → Prop} (hw : zworld ks ad zuq zNS Psi) (hm : zMan l D cI cZ cB cJ cR ks ad Psi) : zMet l D cI cZ cB cJ cR zKS ks ad Psi yX4_takeStop (.code yX4_takeStop cX4_takeStop 1 (some .boolean)) 2 zc_365 :=
  zmet_of hw 2 (by decide) 4000 zk_365 (by decide) (by decide) (fun X => ⟨zg_RX4 X, zp_RX4 X, zl1_RX4 X, zl2_RX4 X, nilz, (List.forall_mem_cons.mpr ⟨zq_RX4_33 X (zM_368 hw hm) (by decide) rfl rfl, (List.forall_mem_cons.mpr ⟨zq_RX4_109 X (zM_354 hw hm) (by decide) rfl rfl, nilz⟩)⟩)⟩)
set_option maxRecDepth 100000 in
theorem zk_373 : zmeth zKS zuq zNS zm_373 4000 = true := by decide +kernel
theorem zM_373 {l : Launch} {D : va_G} {cI cZ cB cJ cR : ClassId} {ks ad : List Nat} {Psi : va_W → Prop} (hw : zworld ks ad zuq zNS Psi) (hm : zMan l D cI cZ cB cJ cR ks ad Psi) : zMet l D cI cZ cB cJ cR zKS ks ad Psi yX5_at (.code yX5_at cX5_at 3 (some .int)) 2 zc_373 :=
  zmet_of hw 2 (by decide) 4000 zk_373 (by decide) (by decide) (fun X => ⟨zg_RX5 X, zp_RX5 X, zl1_RX5 X, zl2_RX5 X, nilz, (List.forall_mem_cons.mpr ⟨zq_RX5_83 X (zM_293 hw hm) (by decide) rfl rfl, (List.forall_mem_cons.mpr ⟨zq_RX5_87 X (zM_291 hw hm) (by decide) rfl rfl, (List.forall_mem_cons.mpr ⟨zq_RX5_90 X (zM_302 hw hm) (by decide) rfl rfl, nilz⟩)⟩)⟩)⟩)
set_option maxRecDepth 100000 in
theorem zk_379 : zmeth zKS zuq zNS zm_379 4000 = true := by decide +kernel
theorem zM_379 {l : Launch} {D : va_G} {cI cZ cB cJ cR : ClassId} {ks ad : List Nat} {Psi : va_W → Prop} (hw : zworld ks ad zuq zNS Psi) (hm : zMan l D cI cZ cB cJ cR ks ad Psi) : zMet l D cI cZ cB cJ cR zKS ks ad Psi yX5_chain (.code yX5_chain cX5_chain 2 (some .int)) 2 zc_379 :=
  zmet_of hw 2 (by decide) 4000 zk_379 (by decide) (by decide) (fun X => ⟨zg_RX5 X, zp_RX5 X, zl1_RX5 X, zl2_RX5 X, nilz, (List.forall_mem_cons.mpr ⟨zq_RX5_83 X (zM_293 hw hm) (by decide) rfl rfl, (List.forall_mem_cons.mpr ⟨zq_RX5_146 X (zM_272 hw hm) (by decide) rfl rfl, (List.forall_mem_cons.mpr ⟨zq_RX5_149 X (zM_0 hw hm) (by decide) rfl, nilz⟩)⟩)⟩)⟩)
set_option maxRecDepth 100000 in
theorem zk_386 : zmeth zKS zuq zNS zm_386 4000 = true := by decide +kernel
theorem zM_386 {l : Launch} {D : va_G} {cI cZ cB cJ cR : ClassId} {ks ad : List Nat} {Psi : va_W → Prop} (hw : zworld ks ad zuq zNS Psi) (hm : zMan l D cI cZ cB cJ cR ks ad Psi) : zMet l D cI cZ cB cJ cR zKS ks ad Psi yX5_crowd (.code yX5_crowd cX5_crowd 6 (some .int)) 2 zc_386 :=
  zmet_of hw 2 (by decide) 4000 zk_386 (by decide) (by decide) (fun X => ⟨zg_RX5 X, zp_RX5 X, zl1_RX5 X, zl2_RX5 X, nilz, (List.forall_mem_cons.mpr ⟨zq_RX5_87 X (zM_291 hw hm) (by decide) rfl rfl, (List.forall_mem_cons.mpr ⟨zq_RX5_192 X (zM_303 hw hm) (by decide) rfl rfl, (List.forall_mem_cons.mpr ⟨zq_RX5_195 X (zM_299 hw hm) (by decide) rfl rfl, nilz⟩)⟩)⟩)⟩)
set_option maxRecDepth 100000 in
theorem zk_451 : zmeth zKS zuq zNS zm_451 4000 = true := by decide +kernel
theorem zM_451 {l : Launch} {D : va_G} {cI cZ cB cJ cR : ClassId} {ks ad : List Nat} {Psi : va_W → Prop} (hw : zworld ks ad zuq zNS Psi) (hm : zMan l D cI cZ cB cJ cR ks ad Psi) : zMet l D cI cZ cB cJ cR zKS ks ad Psi yX5_write (.code yX5_write cX5_write 5 (some .int)) 2 zc_451 :=
  zmet_of hw 2 (by decide) 4000 zk_451 (by decide) (by decide) (fun X => ⟨zg_RX5 X, zp_RX5 X, zl1_RX5 X, zl2_RX5 X, nilz, (List.forall_mem_cons.mpr ⟨zq_RX5_250 X (zM_349 hw hm) (by decide) rfl rfl, (List.forall_mem_cons.mpr ⟨zq_RX5_321 X (zM_344 hw hm) (by decide) rfl rfl, (List.forall_mem_cons.mpr ⟨zq_RX5_328 X (zM_342 hw hm) (by decide) rfl rfl, (List.forall_mem_cons.mpr ⟨zq_RX5_331 X (zM_348 hw hm) (by decide) rfl rfl, nilz⟩)⟩)⟩)⟩)⟩)
set_option maxRecDepth 100000 in
theorem zk_458 : zmeth zKS zuq zNS zm_458 4000 = true := by decide +kernel
theorem zM_458 {l : Launch} {D : va_G} {cI cZ cB cJ cR : ClassId} {ks ad : List Nat} {Psi : va_W → Prop} (hw : zworld ks ad zuq zNS Psi) (hm : zMan l D cI cZ cB cJ cR ks ad Psi) : zMet l D cI cZ cB cJ cR zKS ks ad Psi yX6_areTwo (.code yX6_areTwo cX6_areTwo 3 (some .boolean)) 2 zc_458 :=
  zmet_of hw 2 (by decide) 4000 zk_458 (by decide) (by decide) (fun X => ⟨zg_RX6 X, zp_RX6 X, zl1_RX6 X, zl2_RX6 X, nilz, (List.forall_mem_cons.mpr ⟨zq_RX6_234 X (zM_556 hw hm) (by decide) rfl rfl, nilz⟩)⟩)
