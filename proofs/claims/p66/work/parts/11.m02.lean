set_option maxRecDepth 100000 in
theorem zk_652 : zmeth zKS zuq zNS zm_652 4000 = true := by decide +kernel
theorem zM_652 {l : Launch} {D : va_G} {cI cZ cB cJ cR : ClassId} {ks ad : List Nat} {Psi : va_W → Prop} (hw : zworld ks ad zuq zNS Psi) (hm : zMan l D cI cZ cB cJ cR ks ad Psi) : zMet l D cI cZ cB cJ cR zKS ks ad Psi yX6_tells (.code yX6_tells cX6_tells 3 none) 0 zc_652 :=
  zmet_of hw 0 (by decide) 4000 zk_652 (by decide) (by decide) (fun X => ⟨zg_RX6 X, zp_RX6 X, zl1_RX6 X, zl2_RX6 X, nilz, nilz⟩)
set_option maxRecDepth 100000 in
theorem zk_653 : zmeth zKS zuq zNS zm_653 4000 = true := by decide +kernel
theorem zM_653 {l : Launch} {D : va_G} {cI cZ cB cJ cR : ClassId} {ks ad : List Nat} {Psi : va_W → Prop} (hw : zworld ks ad zuq zNS Psi) (hm : zMan l D cI cZ cB cJ cR ks ad Psi) : zMet l D cI cZ cB cJ cR zKS ks ad Psi yX6_tells (.code yX6_tells cX6_tells 3 none) 0 zc_653 :=
  zmet_of hw 0 (by decide) 4000 zk_653 (by decide) (by decide) (fun X => ⟨zg_RX6 X, zp_RX6 X, zl1_RX6 X, zl2_RX6 X, nilz, nilz⟩)
set_option maxRecDepth 100000 in
theorem zk_654 : zmeth zKS zuq zNS zm_654 4000 = true := by decide +kernel
theorem zM_654 {l : Launch} {D : va_G} {cI cZ cB cJ cR : ClassId} {ks ad : List Nat} {Psi : va_W → Prop} (hw : zworld ks ad zuq zNS Psi) (hm : zMan l D cI cZ cB cJ cR ks ad Psi) : zMet l D cI cZ cB cJ cR zKS ks ad Psi yX6_tells (.code yX6_tells cX6_tells 3 none) 0 zc_654 :=
  zmet_of hw 0 (by decide) 4000 zk_654 (by decide) (by decide) (fun X => ⟨zg_RX6 X, zp_RX6 X, zl1_RX6 X, zl2_RX6 X, nilz, nilz⟩)
set_option maxRecDepth 100000 in
theorem zk_655 : zmeth zKS zuq zNS zm_655 4000 = true := by decide +kernel
theorem zM_655 {l : Launch} {D : va_G} {cI cZ cB cJ cR : ClassId} {ks ad : List Nat} {Psi : va_W → Prop} (hw : zworld ks ad zuq zNS Psi) (hm : zMan l D cI cZ cB cJ cR ks ad Psi) : zMet l D cI cZ cB cJ cR zKS ks ad Psi yX6_tells (.code yX6_tells cX6_tells 3 none) 0 zc_655 :=
  zmet_of hw 0 (by decide) 4000 zk_655 (by decide) (by decide) (fun X => ⟨zg_RX6 X, zp_RX6 X, zl1_RX6 X, zl2_RX6 X, nilz, nilz⟩)
set_option maxRecDepth 100000 in
theorem zk_656 : zmeth zKS zuq zNS zm_656 4000 = true := by decide +kernel
theorem zM_656 {l : Launch} {D : va_G} {cI cZ cB cJ cR : ClassId} {ks ad : List Nat} {Psi : va_W → Prop} (hw : zworld ks ad zuq zNS Psi) (hm : zMan l D cI cZ cB cJ cR ks ad Psi) : zMet l D cI cZ cB cJ cR zKS ks ad Psi yX6_tells (.code yX6_tells cX6_tells 3 none) 0 zc_656 :=
  zmet_of hw 0 (by decide) 4000 zk_656 (by decide) (by decide) (fun X => ⟨zg_RX6 X, zp_RX6 X, zl1_RX6 X, zl2_RX6 X, nilz, nilz⟩)
set_option maxRecDepth 100000 in
theorem zk_657 : zmeth zKS zuq zNS zm_657 4000 = true := by decide +kernel
theorem zM_657 {l : Launch} {D : va_G} {cI cZ cB cJ cR : ClassId} {ks ad : List Nat} {Psi : va_W → Prop} (hw : zworld ks ad zuq zNS Psi) (hm : zMan l D cI cZ cB cJ cR ks ad Psi) : zMet l D cI cZ cB cJ cR zKS ks ad Psi yX6_tells (.code yX6_tells cX6_tells 3 none) 0 zc_657 :=
  zmet_of hw 0 (by decide) 4000 zk_657 (by decide) (by decide) (fun X => ⟨zg_RX6 X, zp_RX6 X, zl1_RX6 X, zl2_RX6 X, nilz, nilz⟩)
set_option maxRecDepth 100000 in
theorem zk_658 : zmeth zKS zuq zNS zm_658 4000 = true := by decide +kernel
theorem zM_658 {l : Launch} {D : va_G} {cI cZ cB cJ cR : ClassId} {ks ad : List Nat} {Psi : va_W → Prop} (hw : zworld ks ad zuq zNS Psi) (hm : zMan l D cI cZ cB cJ cR ks ad Psi) : zMet l D cI cZ cB cJ cR zKS ks ad Psi yX6_tells (.code yX6_tells cX6_tells 3 none) 0 zc_658 :=
  zmet_of hw 0 (by decide) 4000 zk_658 (by decide) (by decide) (fun X => ⟨zg_RX6 X, zp_RX6 X, zl1_RX6 X, zl2_RX6 X, nilz, nilz⟩)
set_option maxRecDepth 100000 in
theorem zk_659 : zmeth zKS zuq zNS zm_659 4000 = true := by decide +kernel
theorem zM_659 {l : Launch} {D : va_G} {cI cZ cB cJ cR : ClassId} {ks ad : List Nat} {Psi : va_W → Prop} (hw : zworld ks ad zuq zNS Psi) (hm : zMan l D cI cZ cB cJ cR ks ad Psi) : zMet l D cI cZ cB cJ cR zKS ks ad Psi yX6_tells (.code yX6_tells cX6_tells 3 none) 0 zc_659 :=
  zmet_of hw 0 (by decide) 4000 zk_659 (by decide) (by decide) (fun X => ⟨zg_RX6 X, zp_RX6 X, zl1_RX6 X, zl2_RX6 X, nilz, nilz⟩)
set_option maxRecDepth 100000 in
theorem zk_660 : zmeth zKS zuq zNS zm_660 4000 = true := by decide +kernel
theorem zM_660 {l : Launch} {D : va_G} {cI cZ cB cJ cR : ClassId} {ks ad : List Nat} {Psi : va_W → Prop} (hw : zworld ks ad zuq zNS Psi) (hm : zMan l D cI cZ cB cJ cR ks ad Psi) : zMet l D cI cZ cB cJ cR zKS ks ad Psi yX6_tells (.code yX6_tells cX6_tells 3 none) 0 zc_660 :=
  zmet_of hw 0 (by decide) 4000 zk_660 (by decide) (by decide) (fun X => ⟨zg_RX6 X, zp_RX6 X, zl1_RX6 X, zl2_RX6 X, nilz, nilz⟩)
set_option maxRecDepth 100000 in
theorem zk_661 : zmeth zKS zuq zNS zm_661 4000 = true := by decide +kernel
theorem zM_661 {l : Launch} {D : va_G} {cI cZ cB cJ cR : ClassId} {ks ad : List Nat} {Psi : va_W → Prop} (hw : zworld ks ad zuq zNS Psi) (hm : zMan l D cI cZ cB cJ cR ks ad Psi) : zMet l D cI cZ cB cJ cR zKS ks ad Psi yX6_tells (.code yX6_tells cX6_tells 3 none) 0 zc_661 :=
  zmet_of hw 0 (by decide) 4000 zk_661 (by decide) (by decide) (fun X => ⟨zg_RX6 X, zp_RX6 X, zl1_RX6 X, zl2_RX6 X, nilz, nilz⟩)
set_option maxRecDepth 100000 in
theorem zk_662 : zmeth zKS zuq zNS zm_662 4000 = true := by decide +kernel
theorem zM_662 {l : Launch} {D : va_G} {cI cZ cB cJ cR : ClassId} {ks ad : List Nat} {Psi : va_W → Prop} (hw : zworld ks ad zuq zNS Psi) (hm : zMan l D cI cZ cB cJ cR ks ad Psi) : zMet l D cI cZ cB cJ cR zKS ks ad Psi yX6_tells (.code yX6_tells cX6_tells 3 none) 0 zc_662 :=
  zmet_of hw 0 (by decide) 4000 zk_662 (by decide) (by decide) (fun X => ⟨zg_RX6 X, zp_RX6 X, zl1_RX6 X, zl2_RX6 X, nilz, nilz⟩)
set_option maxRecDepth 100000 in
theorem zk_663 : zmeth zKS zuq zNS zm_663 4000 = true := by decide +kernel
theorem zM_663 {l : Launch} {D : va_G} {cI cZ cB cJ cR : ClassId} {ks ad : List Nat} {Psi : va_W → Prop} (hw : zworld ks ad zuq zNS Psi) (hm : zMan l D cI cZ cB cJ cR ks ad Psi) : zMet l D cI cZ cB cJ cR zKS ks ad Psi yX6_tells (.code yX6_tells cX6_tells 3 none) 0 zc_663 :=
  zmet_of hw 0 (by decide) 4000 zk_663 (by decide) (by decide) (fun X => ⟨zg_RX6 X, zp_RX6 X, zl1_RX6 X, zl2_RX6 X, nilz, nilz⟩)
set_option maxRecDepth 100000 in
theorem zk_270 : zmeth zKS zuq zNS zm_270 4000 = true := by decide +kernel
theorem zM_270 {l : Launch} {D : va_G} {cI cZ cB cJ cR : ClassId} {ks ad : List Nat} {Psi : va_W → Prop} (hw : zworld ks ad zuq zNS Psi) (hm : zMan l D cI cZ cB cJ cR ks ad Psi) : zMet l D cI cZ cB cJ cR zKS ks ad Psi yX0_allHours (.code yX0_allHours cX0_allHours 1 (some .int)) 1 zc_270 :=
  zmet_of hw 1 (by decide) 4000 zk_270 (by decide) (by decide) (fun X => ⟨zg_RX0 X, zp_RX0 X, zl1_RX0 X, zl2_RX0 X, nilz, (List.forall_mem_cons.mpr ⟨zq_RX0_76 X (zM_288 hw hm) (by decide) rfl rfl, nilz⟩)⟩)
set_option maxRecDepth 100000 in
theorem zk_272 : zmeth zKS zuq zNS zm_272 4000 = true := by decide +kernel
theorem zM_272 {l : Launch} {D : va_G} {cI cZ cB cJ cR : ClassId} {ks ad : List Nat} {Psi : va_W → Prop} (hw : zworld ks ad zuq zNS Psi) (hm : zMan l D cI cZ cB cJ cR ks ad Psi) : zMet l D cI cZ cB cJ cR zKS ks ad Psi yX0_chainFrom (.code yX0_chainFrom cX0_chainFrom 5 (some .int)) 1 zc_272 :=
  zmet_of hw 1 (by decide) 4000 zk_272 (by decide) (by decide) (fun X => ⟨zg_RX0 X, zp_RX0 X, zl1_RX0 X, zl2_RX0 X, nilz, (List.forall_mem_cons.mpr ⟨zq_RX0_72 X (zM_293 hw hm) (by decide) rfl rfl, (List.forall_mem_cons.mpr ⟨zq_RX0_98 X (zM_404 hw hm) (by decide) rfl, nilz⟩)⟩)⟩)
set_option maxRecDepth 100000 in
theorem zk_279 : zmeth zKS zuq zNS zm_279 4000 = true := by decide +kernel
theorem zM_279 {l : Launch} {D : va_G} {cI cZ cB cJ cR : ClassId} {ks ad : List Nat} {Psi : va_W → Prop} (hw : zworld ks ad zuq zNS Psi) (hm : zMan l D cI cZ cB cJ cR ks ad Psi) : zMet l D cI cZ cB cJ cR zKS ks ad Psi yX0_fogFrom (.code yX0_fogFrom cX0_fogFrom 6 (some .int)) 1 zc_279 :=
  zmet_of hw 1 (by decide) 4000 zk_279 (by decide) (by decide) (fun X => ⟨zg_RX0 X, zp_RX0 X, zl1_RX0 X, zl2_RX0 X, nilz, (List.forall_mem_cons.mpr ⟨zq_RX0_76 X (zM_288 hw hm) (by decide) rfl rfl, nilz⟩)⟩)
set_option maxRecDepth 100000 in
theorem zk_291 : zmeth zKS zuq zNS zm_291 4000 = true := by decide +kernel
theorem zM_291 {l : Launch} {D : va_G} {cI cZ cB cJ cR : ClassId} {ks ad : List Nat} {Psi : va_W → Prop} (hw : zworld ks ad zuq zNS Psi) (hm : zMan l D cI cZ cB cJ cR ks ad Psi) : zMet l D cI cZ cB cJ cR zKS ks ad Psi yX0_isHour (.code yX0_isHour cX0_isHour 3 (some .boolean)) 1 zc_291 :=
  zmet_of hw 1 (by decide) 4000 zk_291 (by decide) (by decide) (fun X => ⟨zg_RX0 X, zp_RX0 X, zl1_RX0 X, zl2_RX0 X, nilz, (List.forall_mem_cons.mpr ⟨zq_RX0_76 X (zM_288 hw hm) (by decide) rfl rfl, nilz⟩)⟩)
set_option maxRecDepth 100000 in
theorem zk_292 : zmeth zKS zuq zNS zm_292 4000 = true := by decide +kernel
theorem zM_292 {l : Launch} {D : va_G} {cI cZ cB cJ cR : ClassId} {ks ad : List Nat} {Psi : va_W → Prop} (hw : zworld ks ad zuq zNS Psi) (hm : zMan l D cI cZ cB cJ cR ks ad Psi) : zMet l D cI cZ cB cJ cR zKS ks ad Psi yX0_isPair (.code yX0_isPair cX0_isPair 5 (some .boolean)) 1 zc_292 :=
  zmet_of hw 1 (by decide) 4000 zk_292 (by decide) (by decide) (fun X => ⟨zg_RX0 X, zp_RX0 X, zl1_RX0 X, zl2_RX0 X, nilz, (List.forall_mem_cons.mpr ⟨zq_RX0_72 X (zM_293 hw hm) (by decide) rfl rfl, nilz⟩)⟩)
set_option maxRecDepth 100000 in
theorem zk_294 : zmeth zKS zuq zNS zm_294 4000 = true := by decide +kernel
theorem zM_294 {l : Launch} {D : va_G} {cI cZ cB cJ cR : ClassId} {ks ad : List Nat} {Psi : va_W → Prop} (hw : zworld ks ad zuq zNS Psi) (hm : zMan l D cI cZ cB cJ cR ks ad Psi) : zMet l D cI cZ cB cJ cR zKS ks ad Psi yX0_isPlace (.code yX0_isPlace cX0_isPlace 3 (some .boolean)) 1 zc_294 :=
  zmet_of hw 1 (by decide) 4000 zk_294 (by decide) (by decide) (fun X => ⟨zg_RX0 X, zp_RX0 X, zl1_RX0 X, zl2_RX0 X, nilz, (List.forall_mem_cons.mpr ⟨zq_RX0_80 X (zM_303 hw hm) (by decide) rfl rfl, nilz⟩)⟩)
set_option maxRecDepth 100000 in
theorem zk_299 : zmeth zKS zuq zNS zm_299 4000 = true := by decide +kernel
theorem zM_299 {l : Launch} {D : va_G} {cI cZ cB cJ cR : ClassId} {ks ad : List Nat} {Psi : va_W → Prop} (hw : zworld ks ad zuq zNS Psi) (hm : zMan l D cI cZ cB cJ cR ks ad Psi) : zMet l D cI cZ cB cJ cR zKS ks ad Psi yX0_manyIn (.code yX0_manyIn cX0_manyIn 5 (some .int)) 1 zc_299 :=
  zmet_of hw 1 (by decide) 4000 zk_299 (by decide) (by decide) (fun X => ⟨zg_RX0 X, zp_RX0 X, zl1_RX0 X, zl2_RX0 X, nilz, (List.forall_mem_cons.mpr ⟨zq_RX0_65 X (zM_302 hw hm) (by decide) rfl rfl, nilz⟩)⟩)
set_option maxRecDepth 100000 in
theorem zk_301 : zmeth zKS zuq zNS zm_301 4000 = true := by decide +kernel
theorem zM_301 {l : Launch} {D : va_G} {cI cZ cB cJ cR : ClassId} {ks ad : List Nat} {Psi : va_W → Prop} (hw : zworld ks ad zuq zNS Psi) (hm : zMan l D cI cZ cB cJ cR ks ad Psi) : zMet l D cI cZ cB cJ cR zKS ks ad Psi yX0_nearBits (.code yX0_nearBits cX0_nearBits 5 (some .int)) 1 zc_301 :=
  zmet_of hw 1 (by decide) 4000 zk_301 (by decide) (by decide) (fun X => ⟨zg_RX0 X, zp_RX0 X, zl1_RX0 X, zl2_RX0 X, nilz, (List.forall_mem_cons.mpr ⟨zq_RX0_65 X (zM_302 hw hm) (by decide) rfl rfl, (List.forall_mem_cons.mpr ⟨zq_RX0_76 X (zM_288 hw hm) (by decide) rfl rfl, (List.forall_mem_cons.mpr ⟨zq_abs X (by decide) lm_43_0 lm_40_12 lm_11_7 lm_40_13 (by decide), nilz⟩)⟩)⟩)⟩)
set_option maxRecDepth 100000 in
theorem zk_304 : zmeth zKS zuq zNS zm_304 4000 = true := by decide +kernel
theorem zM_304 {l : Launch} {D : va_G} {cI cZ cB cJ cR : ClassId} {ks ad : List Nat} {Psi : va_W → Prop} (hw : zworld ks ad zuq zNS Psi) (hm : zMan l D cI cZ cB cJ cR ks ad Psi) : zMet l D cI cZ cB cJ cR zKS ks ad Psi yX0_reaches (.code yX0_reaches cX0_reaches 6 (some .boolean)) 1 zc_304 :=
  zmet_of hw 1 (by decide) 4000 zk_304 (by decide) (by decide) (fun X => ⟨zg_RX0 X, zp_RX0 X, zl1_RX0 X, zl2_RX0 X, nilz, (List.forall_mem_cons.mpr ⟨zq_min X (by decide) lm_13_8 lm_11_6 lm_11_7 lm_11_8 (by decide) (by decide), (List.forall_mem_cons.mpr ⟨zq_max X (by decide) lm_13_9 lm_13_10 lm_11_7 lm_13_11 (by decide) (by decide), nilz⟩)⟩)⟩)
set_option maxRecDepth 100000 in
theorem zk_318 : zmeth zKS zuq zNS zm_318 4000 = true := by decide +kernel
theorem zM_318 {l : Launch} {D : va_G} {cI cZ cB cJ cR : ClassId} {ks ad : List Nat} {Psi : va_W → Prop} (hw : zworld ks ad zuq zNS Psi) (hm : zMan l D cI cZ cB cJ cR ks ad Psi) : zMet l D cI cZ cB cJ cR zKS ks ad Psi yX1_firstFrom (.code yX1_firstFrom cX1_firstFrom 6 (some .int)) 1 zc_318 :=
  zmet_of hw 1 (by decide) 4000 zk_318 (by decide) (by decide) (fun X => ⟨zg_RX1 X, zp_RX1 X, zl1_RX1 X, zl2_RX1 X, nilz, (List.forall_mem_cons.mpr ⟨zq_abs X (by decide) lm_40_11 lm_40_12 lm_11_7 lm_40_13 (by decide), nilz⟩)⟩)
set_option maxRecDepth 100000 in
theorem zk_320 : zmeth zKS zuq zNS zm_320 4000 = true := by decide +kernel
theorem zM_320 {l : Launch} {D : va_G} {cI cZ cB cJ cR : ClassId} {ks ad : List Nat} {Psi : va_W → Prop} (hw : zworld ks ad zuq zNS Psi) (hm : zMan l D cI cZ cB cJ cR ks ad Psi) : zMet l D cI cZ cB cJ cR zKS ks ad Psi yX1_most (.code yX1_most cX1_most 3 (some .int)) 1 zc_320 :=
  zmet_of hw 1 (by decide) 4000 zk_320 (by decide) (by decide) (fun X => ⟨zg_RX1 X, zp_RX1 X, zl1_RX1 X, zl2_RX1 X, nilz, (List.forall_mem_cons.mpr ⟨zq_max X (by decide) lm_40_21 lm_13_10 lm_11_7 lm_13_11 (by decide) (by decide), nilz⟩)⟩)
set_option maxRecDepth 100000 in
theorem zk_322 : zmeth zKS zuq zNS zm_322 4000 = true := by decide +kernel
theorem zM_322 {l : Launch} {D : va_G} {cI cZ cB cJ cR : ClassId} {ks ad : List Nat} {Psi : va_W → Prop} (hw : zworld ks ad zuq zNS Psi) (hm : zMan l D cI cZ cB cJ cR ks ad Psi) : zMet l D cI cZ cB cJ cR zKS ks ad Psi yX1_planFrom (.code yX1_planFrom cX1_planFrom 7 none) 1 zc_322 :=
  zmet_of hw 1 (by decide) 4000 zk_322 (by decide) (by decide) (fun X => ⟨zg_RX1 X, zp_RX1 X, zl1_RX1 X, zl2_RX1 X, nilz, (List.forall_mem_cons.mpr ⟨zq_abs X (by decide) lm_40_11 lm_40_12 lm_11_7 lm_40_13 (by decide), (List.forall_mem_cons.mpr ⟨zq_RX1_69 X (zM_319 hw hm) (by decide) rfl rfl, nilz⟩)⟩)⟩)
set_option maxRecDepth 100000 in
theorem zk_335 : zmeth zKS zuq zNS zm_335 4000 = true := by decide +kernel
theorem zM_335 {l : Launch} {D : va_G} {cI cZ cB cJ cR : ClassId} {ks ad : List Nat} {Psi : va_W → Prop} (hw : zworld ks ad zuq zNS Psi) (hm : zMan l D cI cZ cB cJ cR ks ad Psi) : zMet l D cI cZ cB cJ cR zKS ks ad Psi yX2_fits (.code yX2_fits cX2_fits 3 (some .boolean)) 1 zc_335 :=
  zmet_of hw 1 (by decide) 4000 zk_335 (by decide) (by decide) (fun X => ⟨zg_RX2 X, zp_RX2 X, zl1_RX2 X, zl2_RX2 X, nilz, (List.forall_mem_cons.mpr ⟨zq_RX2_125 X (zM_404 hw hm) (by decide) rfl, nilz⟩)⟩)
set_option maxRecDepth 100000 in
theorem zk_339 : zmeth zKS zuq zNS zm_339 4000 = true := by decide +kernel
theorem zM_339 {l : Launch} {D : va_G} {cI cZ cB cJ cR : ClassId} {ks ad : List Nat} {Psi : va_W → Prop} (hw : zworld ks ad zuq zNS Psi) (hm : zMan l D cI cZ cB cJ cR ks ad Psi) : zMet l D cI cZ cB cJ cR zKS ks ad Psi yX2_weigh (.code yX2_weigh cX2_weigh 5 none) 1 zc_339 :=
  zmet_of hw 1 (by decide) 4000 zk_339 (by decide) (by decide) (fun X => ⟨zg_RX2 X, zp_RX2 X, zl1_RX2 X, zl2_RX2 X, nilz, (List.forall_mem_cons.mpr ⟨zq_max X (by decide) lm_31_11 lm_13_10 lm_11_7 lm_13_11 (by decide) (by decide), (List.forall_mem_cons.mpr ⟨zq_copy (k0 := 21) (k1 := 26) (fun ws i k a e e9 h1 h2 => hw.2.2.2 ws i k a e e9 h1 (by rw [h2]; decide)) X (by decide) lm_31_12 lm_31_13 lm_31_14 lm_31_15 rfl rfl (by decide) (by decide) (by decide), nilz⟩)⟩)⟩)
set_option maxRecDepth 100000 in
theorem zk_348 : zmeth zKS zuq zNS zm_348 4000 = true := by decide +kernel
theorem zM_348 {l : Launch} {D : va_G} {cI cZ cB cJ cR : ClassId} {ks ad : List Nat} {Psi : va_W → Prop} (hw : zworld ks ad zuq zNS Psi) (hm : zMan l D cI cZ cB cJ cR ks ad Psi) : zMet l D cI cZ cB cJ cR zKS ks ad Psi yX3_put (.code yX3_put cX3_put 5 none) 1 zc_348 :=
  zmet_of hw 1 (by decide) 4000 zk_348 (by decide) (by decide) (fun X => ⟨zg_RX3 X, zp_RX3 X, zl1_RX3 X, zl2_RX3 X, nilz, (List.forall_mem_cons.mpr ⟨zq_RX3_24 X (zM_341 hw hm) (by decide) rfl, nilz⟩)⟩)
set_option maxRecDepth 100000 in
theorem zk_355 : zmeth zKS zuq zNS zm_355 4000 = true := by decide +kernel
theorem zM_355 {l : Launch} {D : va_G} {cI cZ cB cJ cR : ClassId} {ks ad : List Nat} {Psi : va_W → Prop} (hw : zworld ks ad zuq zNS Psi) (hm : zMan l D cI cZ cB cJ cR ks ad Psi) : zMet l D cI cZ cB cJ cR zKS ks ad Psi yX4_numberLookedAt (.code yX4_numberLookedAt cX4_numberLookedAt 3 (some .int)) 1 zc_355 :=
  zmet_of hw 1 (by decide) 4000 zk_355 (by decide) (by decide) (fun X => ⟨zg_RX4 X, zp_RX4 X, zl1_RX4 X, zl2_RX4 X, nilz, (List.forall_mem_cons.mpr ⟨zq_min X (by decide) lm_11_5 lm_11_6 lm_11_7 lm_11_8 (by decide) (by decide), nilz⟩)⟩)
set_option maxRecDepth 100000 in
theorem zk_368 : zmeth zKS zuq zNS zm_368 4000 = true := by decide +kernel
theorem zM_368 {l : Launch} {D : va_G} {cI cZ cB cJ cR : ClassId} {ks ad : List Nat} {Psi : va_W → Prop} (hw : zworld ks ad zuq zNS Psi) (hm : zMan l D cI cZ cB cJ cR ks ad Psi) : zMet l D cI cZ cB cJ cR zKS ks ad Psi yX4_toNextToken (.code yX4_toNextToken cX4_toNextToken 1 none) 1 zc_368 :=
  zmet_of hw 1 (by decide) 4000 zk_368 (by decide) (by decide) (fun X => ⟨zg_RX4 X, zp_RX4 X, zl1_RX4 X, zl2_RX4 X, nilz, (List.forall_mem_cons.mpr ⟨zq_RX4_165 X (zM_353 hw hm) (by decide) rfl, nilz⟩)⟩)
set_option maxRecDepth 100000 in
theorem zk_385 : zmeth zKS zuq zNS zm_385 4000 = true := by decide +kernel
theorem zM_385 {l : Launch} {D : va_G} {cI cZ cB cJ cR : ClassId} {ks ad : List Nat} {Psi : va_W → Prop} (hw : zworld ks ad zuq zNS Psi) (hm : zMan l D cI cZ cB cJ cR ks ad Psi) : zMet l D cI cZ cB cJ cR zKS ks ad Psi yX5_count (.code yX5_count cX5_count 2 (some .int)) 1 zc_385 :=
  zmet_of hw 1 (by decide) 4000 zk_385 (by decide) (by decide) (fun X => ⟨zg_RX5 X, zp_RX5 X, zl1_RX5 X, zl2_RX5 X, nilz, (List.forall_mem_cons.mpr ⟨zq_RX5_314 X (zM_346 hw hm) (by decide) rfl rfl, nilz⟩)⟩)
set_option maxRecDepth 100000 in
theorem zk_396 : zmeth zKS zuq zNS zm_396 4000 = true := by decide +kernel
theorem zM_396 {l : Launch} {D : va_G} {cI cZ cB cJ cR : ClassId} {ks ad : List Nat} {Psi : va_W → Prop} (hw : zworld ks ad zuq zNS Psi) (hm : zMan l D cI cZ cB cJ cR ks ad Psi) : zMet l D cI cZ cB cJ cR zKS ks ad Psi yX5_feed (.code yX5_feed cX5_feed 6 (some .int)) 1 zc_396 :=
  zmet_of hw 1 (by decide) 4000 zk_396 (by decide) (by decide) (fun X => ⟨zg_RX5 X, zp_RX5 X, zl1_RX5 X, zl2_RX5 X, nilz, (List.forall_mem_cons.mpr ⟨zq_RX5_55 X (zM_351 hw hm) (by decide) rfl rfl, (List.forall_mem_cons.mpr ⟨zq_RX5_59 X (zM_350 hw hm) (by decide) rfl rfl, nilz⟩)⟩)⟩)
set_option maxRecDepth 100000 in
theorem zk_399 : zmeth zKS zuq zNS zm_399 4000 = true := by decide +kernel
theorem zM_399 {l : Launch} {D : va_G} {cI cZ cB cJ cR : ClassId} {ks ad : List Nat} {Psi : va_W → Prop} (hw : zworld ks ad zuq zNS Psi) (hm : zMan l D cI cZ cB cJ cR ks ad Psi) : zMet l D cI cZ cB cJ cR zKS ks ad Psi yX5_gapOdds (.code yX5_gapOdds cX5_gapOdds 4 (some .int)) 1 zc_399 :=
  zmet_of hw 1 (by decide) 4000 zk_399 (by decide) (by decide) (fun X => ⟨zg_RX5 X, zp_RX5 X, zl1_RX5 X, zl2_RX5 X, nilz, (List.forall_mem_cons.mpr ⟨zq_RX5_128 X (zM_404 hw hm) (by decide) rfl, nilz⟩)⟩)
set_option maxRecDepth 100000 in
theorem zk_418 : zmeth zKS zuq zNS zm_418 4000 = true := by decide +kernel
theorem zM_418 {l : Launch} {D : va_G} {cI cZ cB cJ cR : ClassId} {ks ad : List Nat} {Psi : va_W → Prop} (hw : zworld ks ad zuq zNS Psi) (hm : zMan l D cI cZ cB cJ cR ks ad Psi) : zMet l D cI cZ cB cJ cR zKS ks ad Psi yX5_mutual (.code yX5_mutual cX5_mutual 4 (some .int)) 1 zc_418 :=
  zmet_of hw 1 (by decide) 4000 zk_418 (by decide) (by decide) (fun X => ⟨zg_RX5 X, zp_RX5 X, zl1_RX5 X, zl2_RX5 X, nilz, (List.forall_mem_cons.mpr ⟨zq_RX5_115 X (zM_277 hw hm) (by decide) rfl rfl, nilz⟩)⟩)
set_option maxRecDepth 100000 in
theorem zk_420 : zmeth zKS zuq zNS zm_420 4000 = true := by decide +kernel
theorem zM_420 {l : Launch} {D : va_G} {cI cZ cB cJ cR : ClassId} {ks ad : List Nat} {Psi : va_W → Prop} (hw : zworld ks ad zuq zNS Psi) (hm : zMan l D cI cZ cB cJ cR ks ad Psi) : zMet l D cI cZ cB cJ cR zKS ks ad Psi yX5_paste (.code yX5_paste cX5_paste 6 (some .int)) 1 zc_420 :=
  zmet_of hw 1 (by decide) 4000 zk_420 (by decide) (by decide) (fun X => ⟨zg_RX5 X, zp_RX5 X, zl1_RX5 X, zl2_RX5 X, nilz, (List.forall_mem_cons.mpr ⟨zq_RX5_321 X (zM_344 hw hm) (by decide) rfl rfl, (List.forall_mem_cons.mpr ⟨zq_RX5_328 X (zM_342 hw hm) (by decide) rfl rfl, (List.forall_mem_cons.mpr ⟨zq_RX5_335 X (zM_340 hw hm) (by decide) rfl rfl, (List.forall_mem_cons.mpr ⟨zq_RX5_338 X (zM_343 hw hm) (by decide) rfl rfl, nilz⟩)⟩)⟩)⟩)⟩)
set_option maxRecDepth 100000 in
theorem zk_423 : zmeth zKS zuq zNS zm_423 4000 = true := by decide +kernel
theorem zM_423 {l : Launch} {D : va_G} {cI cZ cB cJ cR : ClassId} {ks ad : List Nat} {Psi : va_W → Prop} (hw : zworld ks ad zuq zNS Psi) (hm : zMan l D cI cZ cB cJ cR ks ad Psi) : zMet l D cI cZ cB cJ cR zKS ks ad Psi yX5_refuseRow (.code yX5_refuseRow cX5_refuseRow 3 (some .int)) 1 zc_423 :=
  zmet_of hw 1 (by decide) 4000 zk_423 (by decide) (by decide) (fun X => ⟨zg_RX5 X, zp_RX5 X, zl1_RX5 X, zl2_RX5 X, nilz, (List.forall_mem_cons.mpr ⟨zq_RX5_115 X (zM_277 hw hm) (by decide) rfl rfl, (List.forall_mem_cons.mpr ⟨zq_RX5_250 X (zM_349 hw hm) (by decide) rfl rfl, (List.forall_mem_cons.mpr ⟨zq_RX5_321 X (zM_344 hw hm) (by decide) rfl rfl, (List.forall_mem_cons.mpr ⟨zq_RX5_328 X (zM_342 hw hm) (by decide) rfl rfl, nilz⟩)⟩)⟩)⟩)⟩)
set_option maxRecDepth 100000 in
theorem zk_428 : zmeth zKS zuq zNS zm_428 4000 = true := by decide +kernel
theorem zM_428 {l : Launch} {D : va_G} {cI cZ cB cJ cR : ClassId} {ks ad : List Nat} {Psi : va_W → Prop} (hw : zworld ks ad zuq zNS Psi) (hm : zMan l D cI cZ cB cJ cR ks ad Psi) : zMet l D cI cZ cB cJ cR zKS ks ad Psi yX5_row (.code yX5_row cX5_row 4 (some .int)) 1 zc_428 :=
  zmet_of hw 1 (by decide) 4000 zk_428 (by decide) (by decide) (fun X => ⟨zg_RX5 X, zp_RX5 X, zl1_RX5 X, zl2_RX5 X, nilz, (List.forall_mem_cons.mpr ⟨zq_RX5_321 X (zM_344 hw hm) (by decide) rfl rfl, (List.forall_mem_cons.mpr ⟨zq_RX5_324 X (zM_345 hw hm) (by decide) rfl rfl, nilz⟩)⟩)⟩)
set_option maxRecDepth 100000 in
theorem zk_437 : zmeth zKS zuq zNS zm_437 4000 = true := by decide +kernel
theorem zM_437 {l : Launch} {D : va_G} {cI cZ cB cJ cR : ClassId} {ks ad : List Nat} {Psi : va_W → Prop} (hw : zworld ks ad zuq zNS Psi) (hm : zMan l D cI cZ cB cJ cR ks ad Psi) : zMet l D cI cZ cB cJ cR zKS ks ad Psi yX5_swears (.code yX5_swears cX5_swears 2 (some .int)) 1 zc_437 :=
  zmet_of hw 1 (by decide) 4000 zk_437 (by decide) (by decide) (fun X => ⟨zg_RX5 X, zp_RX5 X, zl1_RX5 X, zl2_RX5 X, nilz, (List.forall_mem_cons.mpr ⟨zq_RX5_83 X (zM_293 hw hm) (by decide) rfl rfl, nilz⟩)⟩)
set_option maxRecDepth 100000 in
theorem zk_438 : zmeth zKS zuq zNS zm_438 4000 = true := by decide +kernel
theorem zM_438 {l : Launch} {D : va_G} {cI cZ cB cJ cR : ClassId} {ks ad : List Nat} {Psi : va_W → Prop} (hw : zworld ks ad zuq zNS Psi) (hm : zMan l D cI cZ cB cJ cR ks ad Psi) : zMet l D cI cZ cB cJ cR zKS ks ad Psi yX5_sworn (.code yX5_sworn cX5_sworn 2 (some .int)) 1 zc_438 :=
  zmet_of hw 1 (by decide) 4000 zk_438 (by decide) (by decide) (fun X => ⟨zg_RX5 X, zp_RX5 X, zl1_RX5 X, zl2_RX5 X, nilz, (List.forall_mem_cons.mpr ⟨zq_RX5_83 X (zM_293 hw hm) (by decide) rfl rfl, (List.forall_mem_cons.mpr ⟨zq_RX5_105 X (zM_313 hw hm) (by decide) rfl rfl, nilz⟩)⟩)⟩)
set_option maxRecDepth 100000 in
theorem zk_444 : zmeth zKS zuq zNS zm_444 4000 = true := by decide +kernel
theorem zM_444 {l : Launch} {D : va_G} {cI cZ cB cJ cR : ClassId} {ks ad : List Nat} {Psi : va_W → Prop} (hw : zworld ks ad zuq zNS Psi) (hm : zMan l D cI cZ cB cJ cR ks ad Psi) : zMet l D cI cZ cB cJ cR zKS ks ad Psi yX5_unsworn (.code yX5_unsworn cX5_unsworn 3 (some .int)) 1 zc_444 :=
  zmet_of hw 1 (by decide) 4000 zk_444 (by decide) (by decide) (fun X => ⟨zg_RX5 X, zp_RX5 X, zl1_RX5 X, zl2_RX5 X, nilz, (List.forall_mem_cons.mpr ⟨zq_RX5_105 X (zM_313 hw hm) (by decide) rfl rfl, (List.forall_mem_cons.mpr ⟨zq_RX5_115 X (zM_277 hw hm) (by decide) rfl rfl, nilz⟩)⟩)⟩)
set_option maxRecDepth 100000 in
theorem zk_457 : zmeth zKS zuq zNS zm_457 4000 = true := by decide +kernel
theorem zM_457 {l : Launch} {D : va_G} {cI cZ cB cJ cR : ClassId} {ks ad : List Nat} {Psi : va_W → Prop} (hw : zworld ks ad zuq zNS Psi) (hm : zMan l D cI cZ cB cJ cR ks ad Psi) : zMet l D cI cZ cB cJ cR zKS ks ad Psi yX6_anew (.code yX6_anew cX6_anew 2 (some .int)) 1 zc_457 :=
  zmet_of hw 1 (by decide) 4000 zk_457 (by decide) (by decide) (fun X => ⟨zg_RX6 X, zp_RX6 X, zl1_RX6 X, zl2_RX6 X, nilz, (List.forall_mem_cons.mpr ⟨zq_RX6_276 X (zM_549 hw hm) (by decide) rfl rfl, nilz⟩)⟩)
