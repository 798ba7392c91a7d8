set_option maxRecDepth 100000 in
theorem zk_319 : zmeth zKS zuq zNS zm_319 4000 = true := zqF (zdt0 _) (by decide +kernel)
theorem zM_319 {l : Launch} {D : va_G} {cI cZ cB cJ cR : ClassId} {ks ad : List Nat} {Psi : va_W → Prop} (hw : zworld ks ad zuq zNS Psi) (hm : zMan l D cI cZ cB cJ cR ks ad Psi) : zMet l D cI cZ cB cJ cR zKS ks ad Psi yX0_seesIn (.code yX0_seesIn cX0_seesIn 4 (some .boolean)) 1 zc_319 :=
  zmet_of hw 1 (by decide) 4000 zk_319 (by decide) (by decide) (fun X => ⟨zg_RX0 X, zp_RX0 X, zl1_RX0 X, zl2_RX0 X, nilz, (List.forall_mem_cons.mpr ⟨zq_RX0_95 X (zM_316 hw hm) (by decide) rfl rfl, (List.forall_mem_cons.mpr ⟨zq_RX0_98 X (zM_674 hw hm) (by decide) rfl, nilz⟩)⟩)⟩)
set_option maxRecDepth 100000 in
theorem zk_329 : zmeth zKS zuq zNS zm_329 4000 = true := zqF (zdt0 _) (by decide +kernel)
theorem zM_329 {l : Launch} {D : va_G} {cI cZ cB cJ cR : ClassId} {ks ad : List Nat} {Psi : va_W → Prop} (hw : zworld ks ad zuq zNS Psi) (hm : zMan l D cI cZ cB cJ cR ks ad Psi) : zMet l D cI cZ cB cJ cR zKS ks ad Psi yX1_firstFrom (.code yX1_firstFrom cX1_firstFrom 6 (some .int)) 1 zc_329 :=
  zmet_of hw 1 (by decide) 4000 zk_329 (by decide) (by decide) (fun X => ⟨zg_RX1 X, zp_RX1 X, zl1_RX1 X, zl2_RX1 X, nilz, (List.forall_mem_cons.mpr ⟨zq_abs X (by decide) lm_40_11 lm_40_12 lm_11_7 lm_40_13 (by decide), nilz⟩)⟩)
set_option maxRecDepth 100000 in
theorem zk_331 : zmeth zKS zuq zNS zm_331 4000 = true := zqF (zdt0 _) (by decide +kernel)
theorem zM_331 {l : Launch} {D : va_G} {cI cZ cB cJ cR : ClassId} {ks ad : List Nat} {Psi : va_W → Prop} (hw : zworld ks ad zuq zNS Psi) (hm : zMan l D cI cZ cB cJ cR ks ad Psi) : zMet l D cI cZ cB cJ cR zKS ks ad Psi yX1_most (.code yX1_most cX1_most 3 (some .int)) 1 zc_331 :=
  zmet_of hw 1 (by decide) 4000 zk_331 (by decide) (by decide) (fun X => ⟨zg_RX1 X, zp_RX1 X, zl1_RX1 X, zl2_RX1 X, nilz, (List.forall_mem_cons.mpr ⟨zq_max X (by decide) lm_40_21 lm_13_10 lm_11_7 lm_13_11 (by decide) (by decide), nilz⟩)⟩)
set_option maxRecDepth 100000 in
theorem zk_333 : zmeth zKS zuq zNS zm_333 4000 = true := zqF (zdt0 _) (by decide +kernel)
theorem zM_333 {l : Launch} {D : va_G} {cI cZ cB cJ cR : ClassId} {ks ad : List Nat} {Psi : va_W → Prop} (hw : zworld ks ad zuq zNS Psi) (hm : zMan l D cI cZ cB cJ cR ks ad Psi) : zMet l D cI cZ cB cJ cR zKS ks ad Psi yX1_planFrom (.code yX1_planFrom cX1_planFrom 7 none) 1 zc_333 :=
  zmet_of hw 1 (by decide) 4000 zk_333 (by decide) (by decide) (fun X => ⟨zg_RX1 X, zp_RX1 X, zl1_RX1 X, zl2_RX1 X, nilz, (List.forall_mem_cons.mpr ⟨zq_abs X (by decide) lm_40_11 lm_40_12 lm_11_7 lm_40_13 (by decide), (List.forall_mem_cons.mpr ⟨zq_RX1_69 X (zM_330 hw hm) (by decide) rfl rfl, nilz⟩)⟩)⟩)
set_option maxRecDepth 100000 in
theorem zk_341 : zmeth zKS zuq zNS zm_341 4000 = true := zqF (zdt0 _) (by decide +kernel)
theorem zM_341 {l : Launch} {D : va_G} {cI cZ cB cJ cR : ClassId} {ks ad : List Nat} {Psi : va_W → Prop} (hw : zworld ks ad zuq zNS Psi) (hm : zMan l D cI cZ cB cJ cR ks ad Psi) : zMet l D cI cZ cB cJ cR zKS ks ad Psi yX2_begin (.code yX2_begin cX2_begin 4 none) 1 zc_341 :=
  zmet_of hw 1 (by decide) 4000 zk_341 (by decide) (by decide) (fun X => ⟨zg_RX2 X, zp_RX2 X, zl1_RX2 X, zl2_RX2 X, nilz, (List.forall_mem_cons.mpr ⟨zq_RX2_111 X (zM_316 hw hm) (by decide) rfl rfl, (List.forall_mem_cons.mpr ⟨zq_RX2_114 X (zM_348 hw hm) (by decide) rfl rfl, nilz⟩)⟩)⟩)
set_option maxRecDepth 100000 in
theorem zk_346 : zmeth zKS zuq zNS zm_346 4000 = true := zqF (zdt0 _) (by decide +kernel)
theorem zM_346 {l : Launch} {D : va_G} {cI cZ cB cJ cR : ClassId} {ks ad : List Nat} {Psi : va_W → Prop} (hw : zworld ks ad zuq zNS Psi) (hm : zMan l D cI cZ cB cJ cR ks ad Psi) : zMet l D cI cZ cB cJ cR zKS ks ad Psi yX2_fits (.code yX2_fits cX2_fits 3 (some .boolean)) 1 zc_346 :=
  zmet_of hw 1 (by decide) 4000 zk_346 (by decide) (by decide) (fun X => ⟨zg_RX2 X, zp_RX2 X, zl1_RX2 X, zl2_RX2 X, nilz, (List.forall_mem_cons.mpr ⟨zq_RX2_125 X (zM_674 hw hm) (by decide) rfl, nilz⟩)⟩)
set_option maxRecDepth 100000 in
theorem zk_350 : zmeth zKS zuq zNS zm_350 4000 = true := zqF (zdt0 _) (by decide +kernel)
theorem zM_350 {l : Launch} {D : va_G} {cI cZ cB cJ cR : ClassId} {ks ad : List Nat} {Psi : va_W → Prop} (hw : zworld ks ad zuq zNS Psi) (hm : zMan l D cI cZ cB cJ cR ks ad Psi) : zMet l D cI cZ cB cJ cR zKS ks ad Psi yX2_weigh (.code yX2_weigh cX2_weigh 5 none) 1 zc_350 :=
  zmet_of hw 1 (by decide) 4000 zk_350 (by decide) (by decide) (fun X => ⟨zg_RX2 X, zp_RX2 X, zl1_RX2 X, zl2_RX2 X, nilz, (List.forall_mem_cons.mpr ⟨zq_max X (by decide) lm_31_11 lm_13_10 lm_11_7 lm_13_11 (by decide) (by decide), (List.forall_mem_cons.mpr ⟨zq_copy (k0 := 21) (k1 := 26) (fun ws i k a e e9 h1 h2 h3 => hw.2.2.2 ws i k a e e9 h1 (by rw [h2]; decide) h3) X (by decide) lm_31_12 lm_31_13 lm_31_14 lm_31_15 rfl rfl (by decide) (by decide) (by decide), nilz⟩)⟩)⟩)
set_option maxRecDepth 100000 in
theorem zk_600 : zmeth zKS zuq zNS zm_600 4000 = true := zqF (zdt0 _) (by decide +kernel)
theorem zM_600 {l : Launch} {D : va_G} {cI cZ cB cJ cR : ClassId} {ks ad : List Nat} {Psi : va_W → Prop} (hw : zworld ks ad zuq zNS Psi) (hm : zMan l D cI cZ cB cJ cR ks ad Psi) : zMet l D cI cZ cB cJ cR zKS ks ad Psi yX3_put (.code yX3_put cX3_put 5 none) 1 zc_600 :=
  zmet_of hw 1 (by decide) 4000 zk_600 (by decide) (by decide) (fun X => ⟨zg_RX3 X, zp_RX3 X, zl1_RX3 X, zl2_RX3 X, nilz, (List.forall_mem_cons.mpr ⟨zq_RX3_24 X (zM_351 hw hm) (by decide) rfl, nilz⟩)⟩)
set_option maxRecDepth 100000 in
theorem zk_612 : zmeth zKS zuq zNS zm_612 4000 = true := zqF (zdt0 _) (by decide +kernel)
theorem zM_612 {l : Launch} {D : va_G} {cI cZ cB cJ cR : ClassId} {ks ad : List Nat} {Psi : va_W → Prop} (hw : zworld ks ad zuq zNS Psi) (hm : zMan l D cI cZ cB cJ cR ks ad Psi) : zMet l D cI cZ cB cJ cR zKS ks ad Psi yX4_numberLookedAt (.code yX4_numberLookedAt cX4_numberLookedAt 3 (some .int)) 1 zc_612 :=
  zmet_of hw 1 (by decide) 4000 zk_612 (by decide) (by decide) (fun X => ⟨zg_RX4 X, zp_RX4 X, zl1_RX4 X, zl2_RX4 X, nilz, (List.forall_mem_cons.mpr ⟨zq_min X (by decide) lm_11_5 lm_11_6 lm_11_7 lm_11_8 (by decide) (by decide), nilz⟩)⟩)
set_option maxRecDepth 100000 in
theorem zk_632 : zmeth zKS zuq zNS zm_632 4000 = true := zqF (zdt0 _) (by decide +kernel)
theorem zM_632 {l : Launch} {D : va_G} {cI cZ cB cJ cR : ClassId} {ks ad : List Nat} {Psi : va_W → Prop} (hw : zworld ks ad zuq zNS Psi) (hm : zMan l D cI cZ cB cJ cR ks ad Psi) : zMet l D cI cZ cB cJ cR zKS ks ad Psi yX4_toNextToken (.code yX4_toNextToken cX4_toNextToken 1 none) 1 zc_632 :=
  zmet_of hw 1 (by decide) 4000 zk_632 (by decide) (by decide) (fun X => ⟨zg_RX4 X, zp_RX4 X, zl1_RX4 X, zl2_RX4 X, nilz, (List.forall_mem_cons.mpr ⟨zq_RX4_165 X (zM_609 hw hm) (by decide) rfl, nilz⟩)⟩)
set_option maxRecDepth 100000 in
theorem zk_652 : zmeth zKS zuq zNS zm_652 4000 = true := zqF (zdt0 _) (by decide +kernel)
theorem zM_652 {l : Launch} {D : va_G} {cI cZ cB cJ cR : ClassId} {ks ad : List Nat} {Psi : va_W → Prop} (hw : zworld ks ad zuq zNS Psi) (hm : zMan l D cI cZ cB cJ cR ks ad Psi) : zMet l D cI cZ cB cJ cR zKS ks ad Psi yX5_count (.code yX5_count cX5_count 2 (some .int)) 1 zc_652 :=
  zmet_of hw 1 (by decide) 4000 zk_652 (by decide) (by decide) (fun X => ⟨zg_RX5 X, zp_RX5 X, zl1_RX5 X, zl2_RX5 X, nilz, (List.forall_mem_cons.mpr ⟨zq_RX5_314 X (zM_359 hw hm) (by decide) rfl rfl, nilz⟩)⟩)
set_option maxRecDepth 100000 in
theorem zk_666 : zmeth zKS zuq zNS zm_666 4000 = true := zqF (zdt0 _) (by decide +kernel)
theorem zM_666 {l : Launch} {D : va_G} {cI cZ cB cJ cR : ClassId} {ks ad : List Nat} {Psi : va_W → Prop} (hw : zworld ks ad zuq zNS Psi) (hm : zMan l D cI cZ cB cJ cR ks ad Psi) : zMet l D cI cZ cB cJ cR zKS ks ad Psi yX5_feed (.code yX5_feed cX5_feed 6 (some .int)) 1 zc_666 :=
  zmet_of hw 1 (by decide) 4000 zk_666 (by decide) (by decide) (fun X => ⟨zg_RX5 X, zp_RX5 X, zl1_RX5 X, zl2_RX5 X, nilz, (List.forall_mem_cons.mpr ⟨zq_RX5_55 X (zM_607 hw hm) (by decide) rfl rfl, (List.forall_mem_cons.mpr ⟨zq_RX5_59 X (zM_606 hw hm) (by decide) rfl rfl, nilz⟩)⟩)⟩)
set_option maxRecDepth 100000 in
theorem zk_669 : zmeth zKS zuq zNS zm_669 4000 = true := zqF (zdt0 _) (by decide +kernel)
theorem zM_669 {l : Launch} {D : va_G} {cI cZ cB cJ cR : ClassId} {ks ad : List Nat} {Psi : va_W → Prop} (hw : zworld ks ad zuq zNS Psi) (hm : zMan l D cI cZ cB cJ cR ks ad Psi) : zMet l D cI cZ cB cJ cR zKS ks ad Psi yX5_gapOdds (.code yX5_gapOdds cX5_gapOdds 4 (some .int)) 1 zc_669 :=
  zmet_of hw 1 (by decide) 4000 zk_669 (by decide) (by decide) (fun X => ⟨zg_RX5 X, zp_RX5 X, zl1_RX5 X, zl2_RX5 X, nilz, (List.forall_mem_cons.mpr ⟨zq_RX5_128 X (zM_674 hw hm) (by decide) rfl, nilz⟩)⟩)
set_option maxRecDepth 100000 in
theorem zk_767 : zmeth zKS zuq zNS zm_767 4000 = true := zqF (zdt0 _) (by decide +kernel)
theorem zM_767 {l : Launch} {D : va_G} {cI cZ cB cJ cR : ClassId} {ks ad : List Nat} {Psi : va_W → Prop} (hw : zworld ks ad zuq zNS Psi) (hm : zMan l D cI cZ cB cJ cR ks ad Psi) : zMet l D cI cZ cB cJ cR zKS ks ad Psi yX5_mutual (.code yX5_mutual cX5_mutual 4 (some .int)) 1 zc_767 :=
  zmet_of hw 1 (by decide) 4000 zk_767 (by decide) (by decide) (fun X => ⟨zg_RX5 X, zp_RX5 X, zl1_RX5 X, zl2_RX5 X, nilz, (List.forall_mem_cons.mpr ⟨zq_RX5_115 X (zM_287 hw hm) (by decide) rfl rfl, nilz⟩)⟩)
set_option maxRecDepth 100000 in
theorem zk_782 : zmeth zKS zuq zNS zm_782 4000 = true := zqF (zdt_X5_refuseRow) (by decide +kernel)
theorem zM_782 {l : Launch} {D : va_G} {cI cZ cB cJ cR : ClassId} {ks ad : List Nat} {Psi : va_W → Prop} (hw : zworld ks ad zuq zNS Psi) (hm : zMan l D cI cZ cB cJ cR ks ad Psi) : zMet l D cI cZ cB cJ cR zKS ks ad Psi yX5_refuseRow (.code yX5_refuseRow cX5_refuseRow 3 (some .int)) 1 zc_782 :=
  zmet_of hw 1 (by decide) 4000 zk_782 (by decide) (by decide) (fun X => ⟨zg_RX5 X, zp_RX5 X, zl1_RX5 X, zl2_RX5 X, nilz, (List.forall_mem_cons.mpr ⟨zq_RX5_321 X (zM_357 hw hm) (by decide) rfl rfl, nilz⟩)⟩)
set_option maxRecDepth 100000 in
theorem zk_783 : zmeth zKS zuq zNS zm_783 4000 = true := zqF (zdt_X5_refuseRow) (by decide +kernel)
theorem zM_783 {l : Launch} {D : va_G} {cI cZ cB cJ cR : ClassId} {ks ad : List Nat} {Psi : va_W → Prop} (hw : zworld ks ad zuq zNS Psi) (hm : zMan l D cI cZ cB cJ cR ks ad Psi) : zMet l D cI cZ cB cJ cR zKS ks ad Psi yX5_refuseRow (.code yX5_refuseRow cX5_refuseRow 3 (some .int)) 1 zc_783 :=
  zmet_of hw 1 (by decide) 4000 zk_783 (by decide) (by decide) (fun X => ⟨zg_RX5 X, zp_RX5 X, zl1_RX5 X, zl2_RX5 X, nilz, (List.forall_mem_cons.mpr ⟨zq_RX5_321 X (zM_357 hw hm) (by decide) rfl rfl, nilz⟩)⟩)
set_option maxRecDepth 100000 in
theorem zk_784 : zmeth zKS zuq zNS zm_784 4000 = true := zqF (zdt_X5_refuseRow) (by decide +kernel)
theorem zM_784 {l : Launch} {D : va_G} {cI cZ cB cJ cR : ClassId} {ks ad : List Nat} {Psi : va_W → Prop} (hw : zworld ks ad zuq zNS Psi) (hm : zMan l D cI cZ cB cJ cR ks ad Psi) : zMet l D cI cZ cB cJ cR zKS ks ad Psi yX5_refuseRow (.code yX5_refuseRow cX5_refuseRow 3 (some .int)) 1 zc_784 :=
  zmet_of hw 1 (by decide) 4000 zk_784 (by decide) (by decide) (fun X => ⟨zg_RX5 X, zp_RX5 X, zl1_RX5 X, zl2_RX5 X, nilz, (List.forall_mem_cons.mpr ⟨zq_RX5_115 X (zM_287 hw hm) (by decide) rfl rfl, (List.forall_mem_cons.mpr ⟨zq_RX5_250 X (zM_601 hw hm) (by decide) rfl rfl, (List.forall_mem_cons.mpr ⟨zq_RX5_321 X (zM_357 hw hm) (by decide) rfl rfl, (List.forall_mem_cons.mpr ⟨zq_RX5_328 X (zM_352 hw hm) (by decide) rfl rfl, nilz⟩)⟩)⟩)⟩)⟩)
set_option maxRecDepth 100000 in
theorem zk_785 : zmeth zKS zuq zNS zm_785 4000 = true := zqF (zdt_X5_refuseRow) (by decide +kernel)
theorem zM_785 {l : Launch} {D : va_G} {cI cZ cB cJ cR : ClassId} {ks ad : List Nat} {Psi : va_W → Prop} (hw : zworld ks ad zuq zNS Psi) (hm : zMan l D cI cZ cB cJ cR ks ad Psi) : zMet l D cI cZ cB cJ cR zKS ks ad Psi yX5_refuseRow (.code yX5_refuseRow cX5_refuseRow 3 (some .int)) 1 zc_785 :=
  zmet_of hw 1 (by decide) 4000 zk_785 (by decide) (by decide) (fun X => ⟨zg_RX5 X, zp_RX5 X, zl1_RX5 X, zl2_RX5 X, nilz, (List.forall_mem_cons.mpr ⟨zq_RX5_115 X (zM_287 hw hm) (by decide) rfl rfl, (List.forall_mem_cons.mpr ⟨zq_RX5_250 X (zM_601 hw hm) (by decide) rfl rfl, (List.forall_mem_cons.mpr ⟨zq_RX5_321 X (zM_357 hw hm) (by decide) rfl rfl, (List.forall_mem_cons.mpr ⟨zq_RX5_328 X (zM_352 hw hm) (by decide) rfl rfl, nilz⟩)⟩)⟩)⟩)⟩)
set_option maxRecDepth 100000 in
theorem zk_786 : zmeth zKS zuq zNS zm_786 4000 = true := zqF (zdt_X5_refuseRow) (by decide +kernel)
theorem zM_786 {l : Launch} {D : va_G} {cI cZ cB cJ cR : ClassId} {ks ad : List Nat} {Psi : va_W → Prop} (hw : zworld ks ad zuq zNS Psi) (hm : zMan l D cI cZ cB cJ cR ks ad Psi) : zMet l D cI cZ cB cJ cR zKS ks ad Psi yX5_refuseRow (.code yX5_refuseRow cX5_refuseRow 3 (some .int)) 1 zc_786 :=
  zmet_of hw 1 (by decide) 4000 zk_786 (by decide) (by decide) (fun X => ⟨zg_RX5 X, zp_RX5 X, zl1_RX5 X, zl2_RX5 X, nilz, (List.forall_mem_cons.mpr ⟨zq_RX5_115 X (zM_287 hw hm) (by decide) rfl rfl, (List.forall_mem_cons.mpr ⟨zq_RX5_250 X (zM_603 hw hm) (by decide) rfl rfl, (List.forall_mem_cons.mpr ⟨zq_RX5_321 X (zM_357 hw hm) (by decide) rfl rfl, (List.forall_mem_cons.mpr ⟨zq_RX5_328 X (zM_354 hw hm) (by decide) rfl rfl, nilz⟩)⟩)⟩)⟩)⟩)
set_option maxRecDepth 100000 in
theorem zk_787 : zmeth zKS zuq zNS zm_787 4000 = true := zqF (zdt_X5_refuseRow) (by decide +kernel)
theorem zM_787 {l : Launch} {D : va_G} {cI cZ cB cJ cR : ClassId} {ks ad : List Nat} {Psi : va_W → Prop} (hw : zworld ks ad zuq zNS Psi) (hm : zMan l D cI cZ cB cJ cR ks ad Psi) : zMet l D cI cZ cB cJ cR zKS ks ad Psi yX5_refuseRow (.code yX5_refuseRow cX5_refuseRow 3 (some .int)) 1 zc_787 :=
  zmet_of hw 1 (by decide) 4000 zk_787 (by decide) (by decide) (fun X => ⟨zg_RX5 X, zp_RX5 X, zl1_RX5 X, zl2_RX5 X, nilz, (List.forall_mem_cons.mpr ⟨zq_RX5_115 X (zM_287 hw hm) (by decide) rfl rfl, (List.forall_mem_cons.mpr ⟨zq_RX5_250 X (zM_603 hw hm) (by decide) rfl rfl, (List.forall_mem_cons.mpr ⟨zq_RX5_321 X (zM_357 hw hm) (by decide) rfl rfl, (List.forall_mem_cons.mpr ⟨zq_RX5_328 X (zM_354 hw hm) (by decide) rfl rfl, nilz⟩)⟩)⟩)⟩)⟩)
set_option maxRecDepth 100000 in
theorem zk_788 : zmeth zKS zuq zNS zm_788 4000 = true := zqF (zdt_X5_refuseRow) (by decide +kernel)
theorem zM_788 {l : Launch} {D : va_G} {cI cZ cB cJ cR : ClassId} {ks ad : List Nat} {Psi : va_W → Prop} (hw : zworld ks ad zuq zNS Psi) (hm : zMan l D cI cZ cB cJ cR ks ad Psi) : zMet l D cI cZ cB cJ cR zKS ks ad Psi yX5_refuseRow (.code yX5_refuseRow cX5_refuseRow 3 (some .int)) 1 zc_788 :=
  zmet_of hw 1 (by decide) 4000 zk_788 (by decide) (by decide) (fun X => ⟨zg_RX5 X, zp_RX5 X, zl1_RX5 X, zl2_RX5 X, nilz, (List.forall_mem_cons.mpr ⟨zq_RX5_115 X (zM_287 hw hm) (by decide) rfl rfl, (List.forall_mem_cons.mpr ⟨zq_RX5_250 X (zM_604 hw hm) (by decide) rfl rfl, (List.forall_mem_cons.mpr ⟨zq_RX5_321 X (zM_357 hw hm) (by decide) rfl rfl, (List.forall_mem_cons.mpr ⟨zq_RX5_328 X (zM_355 hw hm) (by decide) rfl rfl, nilz⟩)⟩)⟩)⟩)⟩)
set_option maxRecDepth 100000 in
theorem zk_789 : zmeth zKS zuq zNS zm_789 4000 = true := zqF (zdt_X5_refuseRow) (by decide +kernel)
theorem zM_789 {l : Launch} {D : va_G} {cI cZ cB cJ cR : ClassId} {ks ad : List Nat} {Psi : va_W → Prop} (hw : zworld ks ad zuq zNS Psi) (hm : zMan l D cI cZ cB cJ cR ks ad Psi) : zMet l D cI cZ cB cJ cR zKS ks ad Psi yX5_refuseRow (.code yX5_refuseRow cX5_refuseRow 3 (some .int)) 1 zc_789 :=
  zmet_of hw 1 (by decide) 4000 zk_789 (by decide) (by decide) (fun X => ⟨zg_RX5 X, zp_RX5 X, zl1_RX5 X, zl2_RX5 X, nilz, (List.forall_mem_cons.mpr ⟨zq_RX5_115 X (zM_287 hw hm) (by decide) rfl rfl, (List.forall_mem_cons.mpr ⟨zq_RX5_250 X (zM_604 hw hm) (by decide) rfl rfl, (List.forall_mem_cons.mpr ⟨zq_RX5_321 X (zM_357 hw hm) (by decide) rfl rfl, (List.forall_mem_cons.mpr ⟨zq_RX5_328 X (zM_355 hw hm) (by decide) rfl rfl, nilz⟩)⟩)⟩)⟩)⟩)
set_option maxRecDepth 100000 in
theorem zk_790 : zmeth zKS zuq zNS zm_790 4000 = true := zqF (zdt_X5_refuseRow) (by decide +kernel)
theorem zM_790 {l : Launch} {D : va_G} {cI cZ cB cJ cR : ClassId} {ks ad : List Nat} {Psi : va_W → Prop} (hw : zworld ks ad zuq zNS Psi) (hm : zMan l D cI cZ cB cJ cR ks ad Psi) : zMet l D cI cZ cB cJ cR zKS ks ad Psi yX5_refuseRow (.code yX5_refuseRow cX5_refuseRow 3 (some .int)) 1 zc_790 :=
  zmet_of hw 1 (by decide) 4000 zk_790 (by decide) (by decide) (fun X => ⟨zg_RX5 X, zp_RX5 X, zl1_RX5 X, zl2_RX5 X, nilz, (List.forall_mem_cons.mpr ⟨zq_RX5_115 X (zM_287 hw hm) (by decide) rfl rfl, (List.forall_mem_cons.mpr ⟨zq_RX5_250 X (zM_605 hw hm) (by decide) rfl rfl, (List.forall_mem_cons.mpr ⟨zq_RX5_321 X (zM_357 hw hm) (by decide) rfl rfl, (List.forall_mem_cons.mpr ⟨zq_RX5_328 X (zM_356 hw hm) (by decide) rfl rfl, nilz⟩)⟩)⟩)⟩)⟩)
set_option maxRecDepth 100000 in
theorem zk_791 : zmeth zKS zuq zNS zm_791 4000 = true := zqF (zdt_X5_refuseRow) (by decide +kernel)
theorem zM_791 {l : Launch} {D : va_G} {cI cZ cB cJ cR : ClassId} {ks ad : List Nat} {Psi : va_W → Prop} (hw : zworld ks ad zuq zNS Psi) (hm : zMan l D cI cZ cB cJ cR ks ad Psi) : zMet l D cI cZ cB cJ cR zKS ks ad Psi yX5_refuseRow (.code yX5_refuseRow cX5_refuseRow 3 (some .int)) 1 zc_791 :=
  zmet_of hw 1 (by decide) 4000 zk_791 (by decide) (by decide) (fun X => ⟨zg_RX5 X, zp_RX5 X, zl1_RX5 X, zl2_RX5 X, nilz, (List.forall_mem_cons.mpr ⟨zq_RX5_115 X (zM_287 hw hm) (by decide) rfl rfl, (List.forall_mem_cons.mpr ⟨zq_RX5_250 X (zM_605 hw hm) (by decide) rfl rfl, (List.forall_mem_cons.mpr ⟨zq_RX5_321 X (zM_357 hw hm) (by decide) rfl rfl, (List.forall_mem_cons.mpr ⟨zq_RX5_328 X (zM_356 hw hm) (by decide) rfl rfl, nilz⟩)⟩)⟩)⟩)⟩)
set_option maxRecDepth 100000 in
theorem zk_792 : zmeth zKS zuq zNS zm_792 4000 = true := zqF (zdt_X5_refuseRow) (by decide +kernel)
theorem zM_792 {l : Launch} {D : va_G} {cI cZ cB cJ cR : ClassId} {ks ad : List Nat} {Psi : va_W → Prop} (hw : zworld ks ad zuq zNS Psi) (hm : zMan l D cI cZ cB cJ cR ks ad Psi) : zMet l D cI cZ cB cJ cR zKS ks ad Psi yX5_refuseRow (.code yX5_refuseRow cX5_refuseRow 3 (some .int)) 1 zc_792 :=
  zmet_of hw 1 (by decide) 4000 zk_792 (by decide) (by decide) (fun X => ⟨zg_RX5 X, zp_RX5 X, zl1_RX5 X, zl2_RX5 X, nilz, (List.forall_mem_cons.mpr ⟨zq_RX5_321 X (zM_357 hw hm) (by decide) rfl rfl, nilz⟩)⟩)
set_option maxRecDepth 100000 in
theorem zk_793 : zmeth zKS zuq zNS zm_793 4000 = true := zqF (zdt_X5_refuseRow) (by decide +kernel)
theorem zM_793 {l : Launch} {D : va_G} {cI cZ cB cJ cR : ClassId} {ks ad : List Nat} {Psi : va_W → Prop} (hw : zworld ks ad zuq zNS Psi) (hm : zMan l D cI cZ cB cJ cR ks ad Psi) : zMet l D cI cZ cB cJ cR zKS ks ad Psi yX5_refuseRow (.code yX5_refuseRow cX5_refuseRow 3 (some .int)) 1 zc_793 :=
  zmet_of hw 1 (by decide) 4000 zk_793 (by decide) (by decide) (fun X => ⟨zg_RX5 X, zp_RX5 X, zl1_RX5 X, zl2_RX5 X, nilz, (List.forall_mem_cons.mpr ⟨zq_RX5_321 X (zM_357 hw hm) (by decide) rfl rfl, nilz⟩)⟩)
set_option maxRecDepth 100000 in
theorem zk_803 : zmeth zKS zuq zNS zm_803 4000 = true := zqF (zdt_X5_row) (by decide +kernel)
theorem zM_803 {l : Launch} {D : va_G} {cI cZ cB cJ cR : ClassId} {ks ad : List Nat} {Psi : va_W → Prop} (hw : zworld ks ad zuq zNS Psi) (hm : zMan l D cI cZ cB cJ cR ks ad Psi) : zMet l D cI cZ cB cJ cR zKS ks ad Psi yX5_row (.code yX5_row cX5_row 4 (some .int)) 1 zc_803 :=
  zmet_of hw 1 (by decide) 4000 zk_803 (by decide) (by decide) (fun X => ⟨zg_RX5 X, zp_RX5 X, zl1_RX5 X, zl2_RX5 X, nilz, (List.forall_mem_cons.mpr ⟨zq_RX5_321 X (zM_357 hw hm) (by decide) rfl rfl, (List.forall_mem_cons.mpr ⟨zq_RX5_324 X (zM_358 hw hm) (by decide) rfl rfl, nilz⟩)⟩)⟩)
set_option maxRecDepth 100000 in
theorem zk_815 : zmeth zKS zuq zNS zm_815 4000 = true := zqF (zdt0 _) (by decide +kernel)
theorem zM_815 {l : Launch} {D : va_G} {cI cZ cB cJ cR : ClassId} {ks ad : List Nat} {Psi : va_W → Prop} (hw : zworld ks ad zuq zNS Psi) (hm : zMan l D cI cZ cB cJ cR ks ad Psi) : zMet l D cI cZ cB cJ cR zKS ks ad Psi yX5_swears (.code yX5_swears cX5_swears 2 (some .int)) 1 zc_815 :=
  zmet_of hw 1 (by decide) 4000 zk_815 (by decide) (by decide) (fun X => ⟨zg_RX5 X, zp_RX5 X, zl1_RX5 X, zl2_RX5 X, nilz, (List.forall_mem_cons.mpr ⟨zq_RX5_83 X (zM_303 hw hm) (by decide) rfl rfl, nilz⟩)⟩)
set_option maxRecDepth 100000 in
theorem zk_816 : zmeth zKS zuq zNS zm_816 4000 = true := zqF (zdt0 _) (by decide +kernel)
theorem zM_816 {l : Launch} {D : va_G} {cI cZ cB cJ cR : ClassId} {ks ad : List Nat} {Psi : va_W → Prop} (hw : zworld ks ad zuq zNS Psi) (hm : zMan l D cI cZ cB cJ cR ks ad Psi) : zMet l D cI cZ cB cJ cR zKS ks ad Psi yX5_sworn (.code yX5_sworn cX5_sworn 2 (some .int)) 1 zc_816 :=
  zmet_of hw 1 (by decide) 4000 zk_816 (by decide) (by decide) (fun X => ⟨zg_RX5 X, zp_RX5 X, zl1_RX5 X, zl2_RX5 X, nilz, (List.forall_mem_cons.mpr ⟨zq_RX5_83 X (zM_303 hw hm) (by decide) rfl rfl, (List.forall_mem_cons.mpr ⟨zq_RX5_105 X (zM_324 hw hm) (by decide) rfl rfl, nilz⟩)⟩)⟩)
set_option maxRecDepth 100000 in
theorem zk_822 : zmeth zKS zuq zNS zm_822 4000 = true := zqF (zdt0 _) (by decide +kernel)
theorem zM_822 {l : Launch} {D : va_G} {cI cZ cB cJ cR : ClassId} {ks ad : List Nat} {Psi : va_W → Prop} (hw : zworld ks ad zuq zNS Psi) (hm : zMan l D cI cZ cB cJ cR ks ad Psi) : zMet l D cI cZ cB cJ cR zKS ks ad Psi yX5_unsworn (.code yX5_unsworn cX5_unsworn 3 (some .int)) 1 zc_822 :=
  zmet_of hw 1 (by decide) 4000 zk_822 (by decide) (by decide) (fun X => ⟨zg_RX5 X, zp_RX5 X, zl1_RX5 X, zl2_RX5 X, nilz, (List.forall_mem_cons.mpr ⟨zq_RX5_105 X (zM_324 hw hm) (by decide) rfl rfl, (List.forall_mem_cons.mpr ⟨zq_RX5_115 X (zM_287 hw hm) (by decide) rfl rfl, nilz⟩)⟩)⟩)
set_option maxRecDepth 100000 in
theorem zk_835 : zmeth zKS zuq zNS zm_835 4000 = true := zqF (zdt0 _) (by decide +kernel)
theorem zM_835 {l : Launch} {D : va_G} {cI cZ cB cJ cR : ClassId} {ks ad : List Nat} {Psi : va_W → Prop} (hw : zworld ks ad zuq zNS Psi) (hm : zMan l D cI cZ cB cJ cR ks ad Psi) : zMet l D cI cZ cB cJ cR zKS ks ad Psi yX6_anew (.code yX6_anew cX6_anew 2 (some .int)) 1 zc_835 :=
  zmet_of hw 1 (by decide) 4000 zk_835 (by decide) (by decide) (fun X => ⟨zg_RX6 X, zp_RX6 X, zl1_RX6 X, zl2_RX6 X, nilz, (List.forall_mem_cons.mpr ⟨zq_RX6_276 X (zM_927 hw hm) (by decide) rfl rfl, nilz⟩)⟩)
set_option maxRecDepth 100000 in
theorem zk_853 : zmeth zKS zuq zNS zm_853 4000 = true := zqF (zdt0 _) (by decide +kernel)
theorem zM_853 {l : Launch} {D : va_G} {cI cZ cB cJ cR : ClassId} {ks ad : List Nat} {Psi : va_W → Prop} (hw : zworld ks ad zuq zNS Psi) (hm : zMan l D cI cZ cB cJ cR ks ad Psi) : zMet l D cI cZ cB cJ cR zKS ks ad Psi yX6_clears (.code yX6_clears cX6_clears 2 none) 1 zc_853 :=
  zmet_of hw 1 (by decide) 4000 zk_853 (by decide) (by decide) (fun X => ⟨zg_RX6 X, zp_RX6 X, zl1_RX6 X, zl2_RX6 X, nilz, (List.forall_mem_cons.mpr ⟨zq_RX6_164 X (zM_1143 hw hm) (by decide) rfl rfl, nilz⟩)⟩)
set_option maxRecDepth 100000 in
theorem zk_867 : zmeth zKS zuq zNS zm_867 4000 = true := zqF (zdt0 _) (by decide +kernel)
theorem zM_867 {l : Launch} {D : va_G} {cI cZ cB cJ cR : ClassId} {ks ad : List Nat} {Psi : va_W → Prop} (hw : zworld ks ad zuq zNS Psi) (hm : zMan l D cI cZ cB cJ cR ks ad Psi) : zMet l D cI cZ cB cJ cR zKS ks ad Psi yX6_count (.code yX6_count cX6_count 4 (some .int)) 1 zc_867 :=
  zmet_of hw 1 (by decide) 4000 zk_867 (by decide) (by decide) (fun X => ⟨zg_RX6 X, zp_RX6 X, zl1_RX6 X, zl2_RX6 X, nilz, (List.forall_mem_cons.mpr ⟨zq_RX6_76 X (zM_912 hw hm) (by decide) rfl, nilz⟩)⟩)
set_option maxRecDepth 100000 in
theorem zk_874 : zmeth zKS zuq zNS zm_874 4000 = true := zqF (zdt0 _) (by decide +kernel)
theorem zM_874 {l : Launch} {D : va_G} {cI cZ cB cJ cR : ClassId} {ks ad : List Nat} {Psi : va_W → Prop} (hw : zworld ks ad zuq zNS Psi) (hm : zMan l D cI cZ cB cJ cR ks ad Psi) : zMet l D cI cZ cB cJ cR zKS ks ad Psi yX6_draws (.code yX6_draws cX6_draws 7 (some .int)) 1 zc_874 :=
  zmet_of hw 1 (by decide) 4000 zk_874 (by decide) (by decide) (fun X => ⟨zg_RX6 X, zp_RX6 X, zl1_RX6 X, zl2_RX6 X, nilz, (List.forall_mem_cons.mpr ⟨zq_RX6_231 X (zM_902 hw hm) (by decide) rfl rfl, nilz⟩)⟩)
set_option maxRecDepth 100000 in
theorem zk_875 : zmeth zKS zuq zNS zm_875 4000 = true := zqF (zdt0 _) (by decide +kernel)
theorem zM_875 {l : Launch} {D : va_G} {cI cZ cB cJ cR : ClassId} {ks ad : List Nat} {Psi : va_W → Prop} (hw : zworld ks ad zuq zNS Psi) (hm : zMan l D cI cZ cB cJ cR ks ad Psi) : zMet l D cI cZ cB cJ cR zKS ks ad Psi yX6_end (.code yX6_end cX6_end 2 (some .int)) 1 zc_875 :=
  zmet_of hw 1 (by decide) 4000 zk_875 (by decide) (by decide) (fun X => ⟨zg_RX6 X, zp_RX6 X, zl1_RX6 X, zl2_RX6 X, nilz, (List.forall_mem_cons.mpr ⟨zq_RX6_76 X (zM_906 hw hm) (by decide) rfl, nilz⟩)⟩)
set_option maxRecDepth 100000 in
theorem zk_884 : zmeth zKS zuq zNS zm_884 4000 = true := zqF (zdt0 _) (by decide +kernel)
theorem zM_884 {l : Launch} {D : va_G} {cI cZ cB cJ cR : ClassId} {ks ad : List Nat} {Psi : va_W → Prop} (hw : zworld ks ad zuq zNS Psi) (hm : zMan l D cI cZ cB cJ cR ks ad Psi) : zMet l D cI cZ cB cJ cR zKS ks ad Psi yX6_feed (.code yX6_feed cX6_feed 6 (some .int)) 1 zc_884 :=
  zmet_of hw 1 (by decide) 4000 zk_884 (by decide) (by decide) (fun X => ⟨zg_RX6 X, zp_RX6 X, zl1_RX6 X, zl2_RX6 X, nilz, (List.forall_mem_cons.mpr ⟨zq_RX6_91 X (zM_887 hw hm) (by decide) rfl rfl, nilz⟩)⟩)
set_option maxRecDepth 100000 in
theorem zk_931 : zmeth zKS zuq zNS zm_931 4000 = true := zqF (zdt0 _) (by decide +kernel)
theorem zM_931 {l : Launch} {D : va_G} {cI cZ cB cJ cR : ClassId} {ks ad : List Nat} {Psi : va_W → Prop} (hw : zworld ks ad zuq zNS Psi) (hm : zMan l D cI cZ cB cJ cR ks ad Psi) : zMet l D cI cZ cB cJ cR zKS ks ad Psi yX6_isHalf (.code yX6_isHalf cX6_isHalf 1 (some .boolean)) 1 zc_931 :=
  zmet_of hw 1 (by decide) 4000 zk_931 (by decide) (by decide) (fun X => ⟨zg_RX6 X, zp_RX6 X, zl1_RX6 X, zl2_RX6 X, nilz, (List.forall_mem_cons.mpr ⟨zq_RX6_76 X (zM_923 hw hm) (by decide) rfl, nilz⟩)⟩)
set_option maxRecDepth 100000 in
theorem zk_932 : zmeth zKS zuq zNS zm_932 4000 = true := zqF (zdt0 _) (by decide +kernel)
theorem zM_932 {l : Launch} {D : va_G} {cI cZ cB cJ cR : ClassId} {ks ad : List Nat} {Psi : va_W → Prop} (hw : zworld ks ad zuq zNS Psi) (hm : zMan l D cI cZ cB cJ cR ks ad Psi) : zMet l D cI cZ cB cJ cR zKS ks ad Psi yX6_isHour (.code yX6_isHour cX6_isHour 3 (some .boolean)) 1 zc_932 :=
  zmet_of hw 1 (by decide) 4000 zk_932 (by decide) (by decide) (fun X => ⟨zg_RX6 X, zp_RX6 X, zl1_RX6 X, zl2_RX6 X, nilz, (List.forall_mem_cons.mpr ⟨zq_RX6_76 X (zM_920 hw hm) (by decide) rfl, (List.forall_mem_cons.mpr ⟨zq_RX6_231 X (zM_902 hw hm) (by decide) rfl rfl, nilz⟩)⟩)⟩)
set_option maxRecDepth 100000 in
theorem zk_934 : zmeth zKS zuq zNS zm_934 4000 = true := zqF (zdt0 _) (by decide +kernel)
theorem zM_934 {l : Launch} {D : va_G} {cI cZ cB cJ cR : ClassId} {ks ad : List Nat} {Psi : va_W → Prop} (hw : zworld ks ad zuq zNS Psi) (hm : zMan l D cI cZ cB cJ cR ks ad Psi) : zMet l D cI cZ cB cJ cR zKS ks ad Psi yX6_isPerson (.code yX6_isPerson cX6_isPerson 3 (some .boolean)) 1 zc_934 :=
  zmet_of hw 1 (by decide) 4000 zk_934 (by decide) (by decide) (fun X => ⟨zg_RX6 X, zp_RX6 X, zl1_RX6 X, zl2_RX6 X, nilz, (List.forall_mem_cons.mpr ⟨zq_RX6_76 X (zM_921 hw hm) (by decide) rfl, (List.forall_mem_cons.mpr ⟨zq_RX6_227 X (zM_1065 hw hm) (by decide) rfl rfl, nilz⟩)⟩)⟩)
set_option maxRecDepth 100000 in
theorem zk_935 : zmeth zKS zuq zNS zm_935 4000 = true := zqF (zdt0 _) (by decide +kernel)
theorem zM_935 {l : Launch} {D : va_G} {cI cZ cB cJ cR : ClassId} {ks ad : List Nat} {Psi : va_W → Prop} (hw : zworld ks ad zuq zNS Psi) (hm : zMan l D cI cZ cB cJ cR ks ad Psi) : zMet l D cI cZ cB cJ cR zKS ks ad Psi yX6_isPlace (.code yX6_isPlace cX6_isPlace 3 (some .boolean)) 1 zc_935 :=
  zmet_of hw 1 (by decide) 4000 zk_935 (by decide) (by decide) (fun X => ⟨zg_RX6 X, zp_RX6 X, zl1_RX6 X, zl2_RX6 X, nilz, (List.forall_mem_cons.mpr ⟨zq_RX6_76 X (zM_922 hw hm) (by decide) rfl, nilz⟩)⟩)
