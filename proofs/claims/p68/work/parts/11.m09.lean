set_option maxRecDepth 100000 in
theorem zk_341 : zmeth zKS zuq zNS zm_341 4000 = true := zqF (zdt0 _) (by decide +kernel)
theorem zM_341 {l : Launch} {D : va_G} {cI cZ cB cJ cR : ClassId} {ks ad : List Nat} {Psi : va_W → Prop} (hw : zworld ks ad zuq zNS Psi) (hm : zMan l D cI cZ cB cJ cR ks ad Psi) : zMet l D cI cZ cB cJ cR zKS ks ad Psi yX2_begin (.code yX2_begin cX2_begin 4 none) 1 zc_341 :=
  zmet_of hw 1 (by decide) 4000 zk_341 (by decide) (by decide) (fun X => ⟨zg_RX2 X, zp_RX2 X, zl1_RX2 X, zl2_RX2 X, nilz, (List.forall_mem_cons.mpr ⟨zq_RX2_111 X (zM_316 hw hm) (by decide) rfl rfl, (List.forall_mem_cons.mpr ⟨zq_RX2_114 X (zM_348 hw hm) (by decide) rfl rfl, nilz⟩)⟩)⟩)
set_option maxRecDepth 100000 in
theorem zk_346 : zmeth zKS zuq zNS zm_346 4000 = true := zqF (zdt0 _) (by decide +kernel)
theorem zM_346 {l : Launch} {D : va_G} {cI cZ cB cJ cR : ClassId} {ks ad : List Nat} {Psi : va_W → Prop} (hw : zworld ks ad zuq zNS Psi) (hm : zMan l D cI cZ cB cJ cR ks ad Psi) : zMet l D cI cZ cB cJ cR zKS ks ad Psi yX2_fits (.code yX2_fits cX2_fits 3 (some .boolean)) 1 zc_346 :=
  zmet_of hw 1 (by decide) 4000 zk_346 (by decide) (by decide) (fun X => ⟨zg_RX2 X, zp_RX2 X, zl1_RX2 X, zl2_RX2 X, nilz, (List.forall_mem_cons.mpr ⟨zq_RX2_125 X (zM_670 hw hm) (by decide) rfl, nilz⟩)⟩)
set_option maxRecDepth 100000 in
theorem zk_350 : zmeth zKS zuq zNS zm_350 4000 = true := zqF (zdt0 _) (by decide +kernel)
theorem zM_350 {l : Launch} {D : va_G} {cI cZ cB cJ cR : ClassId} {ks ad : List Nat} {Psi : va_W → Prop} (hw : zworld ks ad zuq zNS Psi) (hm : zMan l D cI cZ cB cJ cR ks ad Psi) : zMet l D cI cZ cB cJ cR zKS ks ad Psi yX2_weigh (.code yX2_weigh cX2_weigh 5 none) 1 zc_350 :=
  zmet_of hw 1 (by decide) 4000 zk_350 (by decide) (by decide) (fun X => ⟨zg_RX2 X, zp_RX2 X, zl1_RX2 X, zl2_RX2 X, nilz, (List.forall_mem_cons.mpr ⟨zq_max X (by decide) lm_31_11 lm_13_10 lm_11_7 lm_13_11 (by decide) (by decide), (List.forall_mem_cons.mpr ⟨zq_copy (k0 := 21) (k1 := 26) (fun ws i k a e e9 h1 h2 h3 => hw.2.2.2 ws i k a e e9 h1 (by rw [h2]; decide) h3) X (by decide) lm_31_12 lm_31_13 lm_31_14 lm_31_15 rfl rfl (by decide) (by decide) (by decide), nilz⟩)⟩)⟩)
set_option maxRecDepth 100000 in
theorem zk_596 : zmeth zKS zuq zNS zm_596 4000 = true := zqF (zdt0 _) (by decide +kernel)
theorem zM_596 {l : Launch} {D : va_G} {cI cZ cB cJ cR : ClassId} {ks ad : List Nat} {Psi : va_W → Prop} (hw : zworld ks ad zuq zNS Psi) (hm : zMan l D cI cZ cB cJ cR ks ad Psi) : zMet l D cI cZ cB cJ cR zKS ks ad Psi yX3_put (.code yX3_put cX3_put 5 none) 1 zc_596 :=
  zmet_of hw 1 (by decide) 4000 zk_596 (by decide) (by decide) (fun X => ⟨zg_RX3 X, zp_RX3 X, zl1_RX3 X, zl2_RX3 X, nilz, (List.forall_mem_cons.mpr ⟨zq_RX3_24 X (zM_351 hw hm) (by decide) rfl, nilz⟩)⟩)
set_option maxRecDepth 100000 in
theorem zk_608 : zmeth zKS zuq zNS zm_608 4000 = true := zqF (zdt0 _) (by decide +kernel)
theorem zM_608 {l : Launch} {D : va_G} {cI cZ cB cJ cR : ClassId} {ks ad : List Nat} {Psi : va_W → Prop} (hw : zworld ks ad zuq zNS Psi) (hm : zMan l D cI cZ cB cJ cR ks ad Psi) : zMet l D cI cZ cB cJ cR zKS ks ad Psi yX4_numberLookedAt (.code yX4_numberLookedAt cX4_numberLookedAt 3 (some .int)) 1 zc_608 :=
  zmet_of hw 1 (by decide) 4000 zk_608 (by decide) (by decide) (fun X => ⟨zg_RX4 X, zp_RX4 X, zl1_RX4 X, zl2_RX4 X, nilz, (List.forall_mem_cons.mpr ⟨zq_min X (by decide) lm_11_5 lm_11_6 lm_11_7 lm_11_8 (by decide) (by decide), nilz⟩)⟩)
set_option maxRecDepth 100000 in
theorem zk_628 : zmeth zKS zuq zNS zm_628 4000 = true := zqF (zdt0 _) (by decide +kernel)
theorem zM_628 {l : Launch} {D : va_G} {cI cZ cB cJ cR : ClassId} {ks ad : List Nat} {Psi : va_W → Prop} (hw : zworld ks ad zuq zNS Psi) (hm : zMan l D cI cZ cB cJ cR ks ad Psi) : zMet l D cI cZ cB cJ cR zKS ks ad Psi yX4_toNextToken (.code yX4_toNextToken cX4_toNextToken 1 none) 1 zc_628 :=
  zmet_of hw 1 (by decide) 4000 zk_628 (by decide) (by decide) (fun X => ⟨zg_RX4 X, zp_RX4 X, zl1_RX4 X, zl2_RX4 X, nilz, (List.forall_mem_cons.mpr ⟨zq_RX4_165 X (zM_605 hw hm) (by decide) rfl, nilz⟩)⟩)
set_option maxRecDepth 100000 in
theorem zk_648 : zmeth zKS zuq zNS zm_648 4000 = true := zqF (zdt0 _) (by decide +kernel)
theorem zM_648 {l : Launch} {D : va_G} {cI cZ cB cJ cR : ClassId} {ks ad : List Nat} {Psi : va_W → Prop} (hw : zworld ks ad zuq zNS Psi) (hm : zMan l D cI cZ cB cJ cR ks ad Psi) : zMet l D cI cZ cB cJ cR zKS ks ad Psi yX5_count (.code yX5_count cX5_count 2 (some .int)) 1 zc_648 :=
  zmet_of hw 1 (by decide) 4000 zk_648 (by decide) (by decide) (fun X => ⟨zg_RX5 X, zp_RX5 X, zl1_RX5 X, zl2_RX5 X, nilz, (List.forall_mem_cons.mpr ⟨zq_RX5_314 X (zM_355 hw hm) (by decide) rfl rfl, nilz⟩)⟩)
set_option maxRecDepth 100000 in
theorem zk_662 : zmeth zKS zuq zNS zm_662 4000 = true := zqF (zdt0 _) (by decide +kernel)
theorem zM_662 {l : Launch} {D : va_G} {cI cZ cB cJ cR : ClassId} {ks ad : List Nat} {Psi : va_W → Prop} (hw : zworld ks ad zuq zNS Psi) (hm : zMan l D cI cZ cB cJ cR ks ad Psi) : zMet l D cI cZ cB cJ cR zKS ks ad Psi yX5_feed (.code yX5_feed cX5_feed 6 (some .int)) 1 zc_662 :=
  zmet_of hw 1 (by decide) 4000 zk_662 (by decide) (by decide) (fun X => ⟨zg_RX5 X, zp_RX5 X, zl1_RX5 X, zl2_RX5 X, nilz, (List.forall_mem_cons.mpr ⟨zq_RX5_55 X (zM_603 hw hm) (by decide) rfl rfl, (List.forall_mem_cons.mpr ⟨zq_RX5_59 X (zM_602 hw hm) (by decide) rfl rfl, nilz⟩)⟩)⟩)
set_option maxRecDepth 100000 in
theorem zk_665 : zmeth zKS zuq zNS zm_665 4000 = true := zqF (zdt0 _) (by decide +kernel)
theorem zM_665 {l : Launch} {D : va_G} {cI cZ cB cJ cR : ClassId} {ks ad : List Nat} {Psi : va_W → Prop} (hw : zworld ks ad zuq zNS Psi) (hm : zMan l D cI cZ cB cJ cR ks ad Psi) : zMet l D cI cZ cB cJ cR zKS ks ad Psi yX5_gapOdds (.code yX5_gapOdds cX5_gapOdds 4 (some .int)) 1 zc_665 :=
  zmet_of hw 1 (by decide) 4000 zk_665 (by decide) (by decide) (fun X => ⟨zg_RX5 X, zp_RX5 X, zl1_RX5 X, zl2_RX5 X, nilz, (List.forall_mem_cons.mpr ⟨zq_RX5_128 X (zM_670 hw hm) (by decide) rfl, nilz⟩)⟩)
set_option maxRecDepth 100000 in
theorem zk_763 : zmeth zKS zuq zNS zm_763 4000 = true := zqF (zdt0 _) (by decide +kernel)
theorem zM_763 {l : Launch} {D : va_G} {cI cZ cB cJ cR : ClassId} {ks ad : List Nat} {Psi : va_W → Prop} (hw : zworld ks ad zuq zNS Psi) (hm : zMan l D cI cZ cB cJ cR ks ad Psi) : zMet l D cI cZ cB cJ cR zKS ks ad Psi yX5_mutual (.code yX5_mutual cX5_mutual 4 (some .int)) 1 zc_763 :=
  zmet_of hw 1 (by decide) 4000 zk_763 (by decide) (by decide) (fun X => ⟨zg_RX5 X, zp_RX5 X, zl1_RX5 X, zl2_RX5 X, nilz, (List.forall_mem_cons.mpr ⟨zq_RX5_115 X (zM_287 hw hm) (by decide) rfl rfl, nilz⟩)⟩)
set_option maxRecDepth 100000 in
theorem zk_778 : zmeth zKS zuq zNS zm_778 4000 = true := zqF (zdt_X5_refuseRow) (by decide +kernel)
theorem zM_778 {l : Launch} {D : va_G} {cI cZ cB cJ cR : ClassId} {ks ad : List Nat} {Psi : va_W → Prop} (hw : zworld ks ad zuq zNS Psi) (hm : zMan l D cI cZ cB cJ cR ks ad Psi) : zMet l D cI cZ cB cJ cR zKS ks ad Psi yX5_refuseRow (.code yX5_refuseRow cX5_refuseRow 3 (some .int)) 1 zc_778 :=
  zmet_of hw 1 (by decide) 4000 zk_778 (by decide) (by decide) (fun X => ⟨zg_RX5 X, zp_RX5 X, zl1_RX5 X, zl2_RX5 X, nilz, (List.forall_mem_cons.mpr ⟨zq_RX5_321 X (zM_353 hw hm) (by decide) rfl rfl, nilz⟩)⟩)
set_option maxRecDepth 100000 in
theorem zk_779 : zmeth zKS zuq zNS zm_779 4000 = true := zqF (zdt_X5_refuseRow) (by decide +kernel)
theorem zM_779 {l : Launch} {D : va_G} {cI cZ cB cJ cR : ClassId} {ks ad : List Nat} {Psi : va_W → Prop} (hw : zworld ks ad zuq zNS Psi) (hm : zMan l D cI cZ cB cJ cR ks ad Psi) : zMet l D cI cZ cB cJ cR zKS ks ad Psi yX5_refuseRow (.code yX5_refuseRow cX5_refuseRow 3 (some .int)) 1 zc_779 :=
  zmet_of hw 1 (by decide) 4000 zk_779 (by decide) (by decide) (fun X => ⟨zg_RX5 X, zp_RX5 X, zl1_RX5 X, zl2_RX5 X, nilz, (List.forall_mem_cons.mpr ⟨zq_RX5_321 X (zM_353 hw hm) (by decide) rfl rfl, nilz⟩)⟩)
set_option maxRecDepth 100000 in
theorem zk_780 : zmeth zKS zuq zNS zm_780 4000 = true := zqF (zdt_X5_refuseRow) (by decide +kernel)
theorem zM_780 {l : Launch} {D : va_G} {cI cZ cB cJ cR : ClassId} {ks ad : List Nat} {Psi : va_W → Prop} (hw : zworld ks ad zuq zNS Psi) (hm : zMan l D cI cZ cB cJ cR ks ad Psi) : zMet l D cI cZ cB cJ cR zKS ks ad Psi yX5_refuseRow (.code yX5_refuseRow cX5_refuseRow 3 (some .int)) 1 zc_780 :=
  zmet_of hw 1 (by decide) 4000 zk_780 (by decide) (by decide) (fun X => ⟨zg_RX5 X, zp_RX5 X, zl1_RX5 X, zl2_RX5 X, nilz, (List.forall_mem_cons.mpr ⟨zq_RX5_115 X (zM_287 hw hm) (by decide) rfl rfl, (List.forall_mem_cons.mpr ⟨zq_RX5_250 X (zM_597 hw hm) (by decide) rfl rfl, (List.forall_mem_cons.mpr ⟨zq_RX5_321 X (zM_353 hw hm) (by decide) rfl rfl, (List.forall_mem_cons.mpr ⟨zq_RX5_328 X (zM_352 hw hm) (by decide) rfl rfl, nilz⟩)⟩)⟩)⟩)⟩)
set_option maxRecDepth 100000 in
theorem zk_781 : zmeth zKS zuq zNS zm_781 4000 = true := zqF (zdt_X5_refuseRow) (by decide +kernel)
theorem zM_781 {l : Launch} {D : va_G} {cI cZ cB cJ cR : ClassId} {ks ad : List Nat} {Psi : va_W → Prop} (hw : zworld ks ad zuq zNS Psi) (hm : zMan l D cI cZ cB cJ cR ks ad Psi) : zMet l D cI cZ cB cJ cR zKS ks ad Psi yX5_refuseRow (.code yX5_refuseRow cX5_refuseRow 3 (some .int)) 1 zc_781 :=
  zmet_of hw 1 (by decide) 4000 zk_781 (by decide) (by decide) (fun X => ⟨zg_RX5 X, zp_RX5 X, zl1_RX5 X, zl2_RX5 X, nilz, (List.forall_mem_cons.mpr ⟨zq_RX5_115 X (zM_287 hw hm) (by decide) rfl rfl, (List.forall_mem_cons.mpr ⟨zq_RX5_250 X (zM_597 hw hm) (by decide) rfl rfl, (List.forall_mem_cons.mpr ⟨zq_RX5_321 X (zM_353 hw hm) (by decide) rfl rfl, (List.forall_mem_cons.mpr ⟨zq_RX5_328 X (zM_352 hw hm) (by decide) rfl rfl, nilz⟩)⟩)⟩)⟩)⟩)
set_option maxRecDepth 100000 in
theorem zk_782 : zmeth zKS zuq zNS zm_782 4000 = true := zqF (zdt_X5_refuseRow) (by decide +kernel)
theorem zM_782 {l : Launch} {D : va_G} {cI cZ cB cJ cR : ClassId} {ks ad : List Nat} {Psi : va_W → Prop} (hw : zworld ks ad zuq zNS Psi) (hm : zMan l D cI cZ cB cJ cR ks ad Psi) : zMet l D cI cZ cB cJ cR zKS ks ad Psi yX5_refuseRow (.code yX5_refuseRow cX5_refuseRow 3 (some .int)) 1 zc_782 :=
  zmet_of hw 1 (by decide) 4000 zk_782 (by decide) (by decide) (fun X => ⟨zg_RX5 X, zp_RX5 X, zl1_RX5 X, zl2_RX5 X, nilz, (List.forall_mem_cons.mpr ⟨zq_RX5_115 X (zM_287 hw hm) (by decide) rfl rfl, (List.forall_mem_cons.mpr ⟨zq_RX5_250 X (zM_599 hw hm) (by decide) rfl rfl, (List.forall_mem_cons.mpr ⟨zq_RX5_321 X (zM_353 hw hm) (by decide) rfl rfl, (List.forall_mem_cons.mpr ⟨zq_RX5_328 X (zM_352 hw hm) (by decide) rfl rfl, nilz⟩)⟩)⟩)⟩)⟩)
set_option maxRecDepth 100000 in
theorem zk_783 : zmeth zKS zuq zNS zm_783 4000 = true := zqF (zdt_X5_refuseRow) (by decide +kernel)
theorem zM_783 {l : Launch} {D : va_G} {cI cZ cB cJ cR : ClassId} {ks ad : List Nat} {Psi : va_W → Prop} (hw : zworld ks ad zuq zNS Psi) (hm : zMan l D cI cZ cB cJ cR ks ad Psi) : zMet l D cI cZ cB cJ cR zKS ks ad Psi yX5_refuseRow (.code yX5_refuseRow cX5_refuseRow 3 (some .int)) 1 zc_783 :=
  zmet_of hw 1 (by decide) 4000 zk_783 (by decide) (by decide) (fun X => ⟨zg_RX5 X, zp_RX5 X, zl1_RX5 X, zl2_RX5 X, nilz, (List.forall_mem_cons.mpr ⟨zq_RX5_115 X (zM_287 hw hm) (by decide) rfl rfl, (List.forall_mem_cons.mpr ⟨zq_RX5_250 X (zM_599 hw hm) (by decide) rfl rfl, (List.forall_mem_cons.mpr ⟨zq_RX5_321 X (zM_353 hw hm) (by decide) rfl rfl, (List.forall_mem_cons.mpr ⟨zq_RX5_328 X (zM_352 hw hm) (by decide) rfl rfl, nilz⟩)⟩)⟩)⟩)⟩)
set_option maxRecDepth 100000 in
theorem zk_784 : zmeth zKS zuq zNS zm_784 4000 = true := zqF (zdt_X5_refuseRow) (by decide +kernel)
theorem zM_784 {l : Launch} {D : va_G} {cI cZ cB cJ cR : ClassId} {ks ad : List Nat} {Psi : va_W → Prop} (hw : zworld ks ad zuq zNS Psi) (hm : zMan l D cI cZ cB cJ cR ks ad Psi) : zMet l D cI cZ cB cJ cR zKS ks ad Psi yX5_refuseRow (.code yX5_refuseRow cX5_refuseRow 3 (some .int)) 1 zc_784 :=
  zmet_of hw 1 (by decide) 4000 zk_784 (by decide) (by decide) (fun X => ⟨zg_RX5 X, zp_RX5 X, zl1_RX5 X, zl2_RX5 X, nilz, (List.forall_mem_cons.mpr ⟨zq_RX5_115 X (zM_287 hw hm) (by decide) rfl rfl, (List.forall_mem_cons.mpr ⟨zq_RX5_250 X (zM_600 hw hm) (by decide) rfl rfl, (List.forall_mem_cons.mpr ⟨zq_RX5_321 X (zM_353 hw hm) (by decide) rfl rfl, (List.forall_mem_cons.mpr ⟨zq_RX5_328 X (zM_352 hw hm) (by decide) rfl rfl, nilz⟩)⟩)⟩)⟩)⟩)
set_option maxRecDepth 100000 in
theorem zk_785 : zmeth zKS zuq zNS zm_785 4000 = true := zqF (zdt_X5_refuseRow) (by decide +kernel)
theorem zM_785 {l : Launch} {D : va_G} {cI cZ cB cJ cR : ClassId} {ks ad : List Nat} {Psi : va_W → Prop} (hw : zworld ks ad zuq zNS Psi) (hm : zMan l D cI cZ cB cJ cR ks ad Psi) : zMet l D cI cZ cB cJ cR zKS ks ad Psi yX5_refuseRow (.code yX5_refuseRow cX5_refuseRow 3 (some .int)) 1 zc_785 :=
  zmet_of hw 1 (by decide) 4000 zk_785 (by decide) (by decide) (fun X => ⟨zg_RX5 X, zp_RX5 X, zl1_RX5 X, zl2_RX5 X, nilz, (List.forall_mem_cons.mpr ⟨zq_RX5_115 X (zM_287 hw hm) (by decide) rfl rfl, (List.forall_mem_cons.mpr ⟨zq_RX5_250 X (zM_600 hw hm) (by decide) rfl rfl, (List.forall_mem_cons.mpr ⟨zq_RX5_321 X (zM_353 hw hm) (by decide) rfl rfl, (List.forall_mem_cons.mpr ⟨zq_RX5_328 X (zM_352 hw hm) (by decide) rfl rfl, nilz⟩)⟩)⟩)⟩)⟩)
set_option maxRecDepth 100000 in
theorem zk_786 : zmeth zKS zuq zNS zm_786 4000 = true := zqF (zdt_X5_refuseRow) (by decide +kernel)
theorem zM_786 {l : Launch} {D : va_G} {cI cZ cB cJ cR : ClassId} {ks ad : List Nat} {Psi : va_W → Prop} (hw : zworld ks ad zuq zNS Psi) (hm : zMan l D cI cZ cB cJ cR ks ad Psi) : zMet l D cI cZ cB cJ cR zKS ks ad Psi yX5_refuseRow (.code yX5_refuseRow cX5_refuseRow 3 (some .int)) 1 zc_786 :=
  zmet_of hw 1 (by decide) 4000 zk_786 (by decide) (by decide) (fun X => ⟨zg_RX5 X, zp_RX5 X, zl1_RX5 X, zl2_RX5 X, nilz, (List.forall_mem_cons.mpr ⟨zq_RX5_115 X (zM_287 hw hm) (by decide) rfl rfl, (List.forall_mem_cons.mpr ⟨zq_RX5_250 X (zM_601 hw hm) (by decide) rfl rfl, (List.forall_mem_cons.mpr ⟨zq_RX5_321 X (zM_353 hw hm) (by decide) rfl rfl, (List.forall_mem_cons.mpr ⟨zq_RX5_328 X (zM_352 hw hm) (by decide) rfl rfl, nilz⟩)⟩)⟩)⟩)⟩)
set_option maxRecDepth 100000 in
theorem zk_787 : zmeth zKS zuq zNS zm_787 4000 = true := zqF (zdt_X5_refuseRow) (by decide +kernel)
theorem zM_787 {l : Launch} {D : va_G} {cI cZ cB cJ cR : ClassId} {ks ad : List Nat} {Psi : va_W → Prop} (hw : zworld ks ad zuq zNS Psi) (hm : zMan l D cI cZ cB cJ cR ks ad Psi) : zMet l D cI cZ cB cJ cR zKS ks ad Psi yX5_refuseRow (.code yX5_refuseRow cX5_refuseRow 3 (some .int)) 1 zc_787 :=
  zmet_of hw 1 (by decide) 4000 zk_787 (by decide) (by decide) (fun X => ⟨zg_RX5 X, zp_RX5 X, zl1_RX5 X, zl2_RX5 X, nilz, (List.forall_mem_cons.mpr ⟨zq_RX5_115 X (zM_287 hw hm) (by decide) rfl rfl, (List.forall_mem_cons.mpr ⟨zq_RX5_250 X (zM_601 hw hm) (by decide) rfl rfl, (List.forall_mem_cons.mpr ⟨zq_RX5_321 X (zM_353 hw hm) (by decide) rfl rfl, (List.forall_mem_cons.mpr ⟨zq_RX5_328 X (zM_352 hw hm) (by decide) rfl rfl, nilz⟩)⟩)⟩)⟩)⟩)
set_option maxRecDepth 100000 in
theorem zk_788 : zmeth zKS zuq zNS zm_788 4000 = true := zqF (zdt_X5_refuseRow) (by decide +kernel)
theorem zM_788 {l : Launch} {D : va_G} {cI cZ cB cJ cR : ClassId} {ks ad : List Nat} {Psi : va_W → Prop} (hw : zworld ks ad zuq zNS Psi) (hm : zMan l D cI cZ cB cJ cR ks ad Psi) : zMet l D cI cZ cB cJ cR zKS ks ad Psi yX5_refuseRow (.code yX5_refuseRow cX5_refuseRow 3 (some .int)) 1 zc_788 :=
  zmet_of hw 1 (by decide) 4000 zk_788 (by decide) (by decide) (fun X => ⟨zg_RX5 X, zp_RX5 X, zl1_RX5 X, zl2_RX5 X, nilz, (List.forall_mem_cons.mpr ⟨zq_RX5_321 X (zM_353 hw hm) (by decide) rfl rfl, nilz⟩)⟩)
set_option maxRecDepth 100000 in
theorem zk_789 : zmeth zKS zuq zNS zm_789 4000 = true := zqF (zdt_X5_refuseRow) (by decide +kernel)
theorem zM_789 {l : Launch} {D : va_G} {cI cZ cB cJ cR : ClassId} {ks ad : List Nat} {Psi : va_W → Prop} (hw : zworld ks ad zuq zNS Psi) (hm : zMan l D cI cZ cB cJ cR ks ad Psi) : zMet l D cI cZ cB cJ cR zKS ks ad Psi yX5_refuseRow (.code yX5_refuseRow cX5_refuseRow 3 (some .int)) 1 zc_789 :=
  zmet_of hw 1 (by decide) 4000 zk_789 (by decide) (by decide) (fun X => ⟨zg_RX5 X, zp_RX5 X, zl1_RX5 X, zl2_RX5 X, nilz, (List.forall_mem_cons.mpr ⟨zq_RX5_321 X (zM_353 hw hm) (by decide) rfl rfl, nilz⟩)⟩)
set_option maxRecDepth 100000 in
theorem zk_799 : zmeth zKS zuq zNS zm_799 4000 = true := zqF (zdt_X5_row) (by decide +kernel)
theorem zM_799 {l : Launch} {D : va_G} {cI cZ cB cJ cR : ClassId} {ks ad : List Nat} {Psi : va_W → Prop} (hw : zworld ks ad zuq zNS Psi) (hm : zMan l D cI cZ cB cJ cR ks ad Psi) : zMet l D cI cZ cB cJ cR zKS ks ad Psi yX5_row (.code yX5_row cX5_row 4 (some .int)) 1 zc_799 :=
  zmet_of hw 1 (by decide) 4000 zk_799 (by decide) (by decide) (fun X => ⟨zg_RX5 X, zp_RX5 X, zl1_RX5 X, zl2_RX5 X, nilz, (List.forall_mem_cons.mpr ⟨zq_RX5_321 X (zM_353 hw hm) (by decide) rfl rfl, (List.forall_mem_cons.mpr ⟨zq_RX5_324 X (zM_354 hw hm) (by decide) rfl rfl, nilz⟩)⟩)⟩)
set_option maxRecDepth 100000 in
theorem zk_811 : zmeth zKS zuq zNS zm_811 4000 = true := zqF (zdt0 _) (by decide +kernel)
theorem zM_811 {l : Launch} {D : va_G} {cI cZ cB cJ cR : ClassId} {ks ad : List Nat} {Psi : va_W → Prop} (hw : zworld ks ad zuq zNS Psi) (hm : zMan l D cI cZ cB cJ cR ks ad Psi) : zMet l D cI cZ cB cJ cR zKS ks ad Psi yX5_swears (.code yX5_swears cX5_swears 2 (some .int)) 1 zc_811 :=
  zmet_of hw 1 (by decide) 4000 zk_811 (by decide) (by decide) (fun X => ⟨zg_RX5 X, zp_RX5 X, zl1_RX5 X, zl2_RX5 X, nilz, (List.forall_mem_cons.mpr ⟨zq_RX5_83 X (zM_303 hw hm) (by decide) rfl rfl, nilz⟩)⟩)
set_option maxRecDepth 100000 in
theorem zk_812 : zmeth zKS zuq zNS zm_812 4000 = true := zqF (zdt0 _) (by decide +kernel)
theorem zM_812 {l : Launch} {D : va_G} {cI cZ cB cJ cR : ClassId} {ks ad : List Nat} {Psi : va_W → Prop} (hw : zworld ks ad zuq zNS Psi) (hm : zMan l D cI cZ cB cJ cR ks ad Psi) : zMet l D cI cZ cB cJ cR zKS ks ad Psi yX5_sworn (.code yX5_sworn cX5_sworn 2 (some .int)) 1 zc_812 :=
  zmet_of hw 1 (by decide) 4000 zk_812 (by decide) (by decide) (fun X => ⟨zg_RX5 X, zp_RX5 X, zl1_RX5 X, zl2_RX5 X, nilz, (List.forall_mem_cons.mpr ⟨zq_RX5_83 X (zM_303 hw hm) (by decide) rfl rfl, (List.forall_mem_cons.mpr ⟨zq_RX5_105 X (zM_324 hw hm) (by decide) rfl rfl, nilz⟩)⟩)⟩)
set_option maxRecDepth 100000 in
theorem zk_818 : zmeth zKS zuq zNS zm_818 4000 = true := zqF (zdt0 _) (by decide +kernel)
theorem zM_818 {l : Launch} {D : va_G} {cI cZ cB cJ cR : ClassId} {ks ad : List Nat} {Psi : va_W → Prop} (hw : zworld ks ad zuq zNS Psi) (hm : zMan l D cI cZ cB cJ cR ks ad Psi) : zMet l D cI cZ cB cJ cR zKS ks ad Psi yX5_unsworn (.code yX5_unsworn cX5_unsworn 3 (some .int)) 1 zc_818 :=
  zmet_of hw 1 (by decide) 4000 zk_818 (by decide) (by decide) (fun X => ⟨zg_RX5 X, zp_RX5 X, zl1_RX5 X, zl2_RX5 X, nilz, (List.forall_mem_cons.mpr ⟨zq_RX5_105 X (zM_324 hw hm) (by decide) rfl rfl, (List.forall_mem_cons.mpr ⟨zq_RX5_115 X (zM_287 hw hm) (by decide) rfl rfl, nilz⟩)⟩)⟩)
set_option maxRecDepth 100000 in
theorem zk_831 : zmeth zKS zuq zNS zm_831 4000 = true := zqF (zdt0 _) (by decide +kernel)
theorem zM_831 {l : Launch} {D : va_G} {cI cZ cB cJ cR : ClassId} {ks ad : List Nat} {Psi : va_W → Prop} (hw : zworld ks ad zuq zNS Psi) (hm : zMan l D cI cZ cB cJ cR ks ad Psi) : zMet l D cI cZ cB cJ cR zKS ks ad Psi yX6_anew (.code yX6_anew cX6_anew 2 (some .int)) 1 zc_831 :=
  zmet_of hw 1 (by decide) 4000 zk_831 (by decide) (by decide) (fun X => ⟨zg_RX6 X, zp_RX6 X, zl1_RX6 X, zl2_RX6 X, nilz, (List.forall_mem_cons.mpr ⟨zq_RX6_276 X (zM_923 hw hm) (by decide) rfl rfl, nilz⟩)⟩)
set_option maxRecDepth 100000 in
theorem zk_849 : zmeth zKS zuq zNS zm_849 4000 = true := zqF (zdt0 _) (by decide +kernel)
theorem zM_849 {l : Launch} {D : va_G} {cI cZ cB cJ cR : ClassId} {ks ad : List Nat} {Psi : va_W → Prop} (hw : zworld ks ad zuq zNS Psi) (hm : zMan l D cI cZ cB cJ cR ks ad Psi) : zMet l D cI cZ cB cJ cR zKS ks ad Psi yX6_clears (.code yX6_clears cX6_clears 2 none) 1 zc_849 :=
  zmet_of hw 1 (by decide) 4000 zk_849 (by decide) (by decide) (fun X => ⟨zg_RX6 X, zp_RX6 X, zl1_RX6 X, zl2_RX6 X, nilz, (List.forall_mem_cons.mpr ⟨zq_RX6_164 X (zM_1139 hw hm) (by decide) rfl rfl, nilz⟩)⟩)
set_option maxRecDepth 100000 in
theorem zk_863 : zmeth zKS zuq zNS zm_863 4000 = true := zqF (zdt0 _) (by decide +kernel)
theorem zM_863 {l : Launch} {D : va_G} {cI cZ cB cJ cR : ClassId} {ks ad : List Nat} {Psi : va_W → Prop} (hw : zworld ks ad zuq zNS Psi) (hm : zMan l D cI cZ cB cJ cR ks ad Psi) : zMet l D cI cZ cB cJ cR zKS ks ad Psi yX6_count (.code yX6_count cX6_count 4 (some .int)) 1 zc_863 :=
  zmet_of hw 1 (by decide) 4000 zk_863 (by decide) (by decide) (fun X => ⟨zg_RX6 X, zp_RX6 X, zl1_RX6 X, zl2_RX6 X, nilz, (List.forall_mem_cons.mpr ⟨zq_RX6_76 X (zM_908 hw hm) (by decide) rfl, nilz⟩)⟩)
set_option maxRecDepth 100000 in
theorem zk_870 : zmeth zKS zuq zNS zm_870 4000 = true := zqF (zdt0 _) (by decide +kernel)
theorem zM_870 {l : Launch} {D : va_G} {cI cZ cB cJ cR : ClassId} {ks ad : List Nat} {Psi : va_W → Prop} (hw : zworld ks ad zuq zNS Psi) (hm : zMan l D cI cZ cB cJ cR ks ad Psi) : zMet l D cI cZ cB cJ cR zKS ks ad Psi yX6_draws (.code yX6_draws cX6_draws 7 (some .int)) 1 zc_870 :=
  zmet_of hw 1 (by decide) 4000 zk_870 (by decide) (by decide) (fun X => ⟨zg_RX6 X, zp_RX6 X, zl1_RX6 X, zl2_RX6 X, nilz, (List.forall_mem_cons.mpr ⟨zq_RX6_231 X (zM_898 hw hm) (by decide) rfl rfl, nilz⟩)⟩)
set_option maxRecDepth 100000 in
theorem zk_871 : zmeth zKS zuq zNS zm_871 4000 = true := zqF (zdt0 _) (by decide +kernel)
theorem zM_871 {l : Launch} {D : va_G} {cI cZ cB cJ cR : ClassId} {ks ad : List Nat} {Psi : va_W → Prop} (hw : zworld ks ad zuq zNS Psi) (hm : zMan l D cI cZ cB cJ cR ks ad Psi) : zMet l D cI cZ cB cJ cR zKS ks ad Psi yX6_end (.code yX6_end cX6_end 2 (some .int)) 1 zc_871 :=
  zmet_of hw 1 (by decide) 4000 zk_871 (by decide) (by decide) (fun X => ⟨zg_RX6 X, zp_RX6 X, zl1_RX6 X, zl2_RX6 X, nilz, (List.forall_mem_cons.mpr ⟨zq_RX6_76 X (zM_902 hw hm) (by decide) rfl, nilz⟩)⟩)
set_option maxRecDepth 100000 in
theorem zk_880 : zmeth zKS zuq zNS zm_880 4000 = true := zqF (zdt0 _) (by decide +kernel)
theorem zM_880 {l : Launch} {D : va_G} {cI cZ cB cJ cR : ClassId} {ks ad : List Nat} {Psi : va_W → Prop} (hw : zworld ks ad zuq zNS Psi) (hm : zMan l D cI cZ cB cJ cR ks ad Psi) : zMet l D cI cZ cB cJ cR zKS ks ad Psi yX6_feed (.code yX6_feed cX6_feed 6 (some .int)) 1 zc_880 :=
  zmet_of hw 1 (by decide) 4000 zk_880 (by decide) (by decide) (fun X => ⟨zg_RX6 X, zp_RX6 X, zl1_RX6 X, zl2_RX6 X, nilz, (List.forall_mem_cons.mpr ⟨zq_RX6_91 X (zM_883 hw hm) (by decide) rfl rfl, nilz⟩)⟩)
set_option maxRecDepth 100000 in
theorem zk_927 : zmeth zKS zuq zNS zm_927 4000 = true := zqF (zdt0 _) (by decide +kernel)
theorem zM_927 {l : Launch} {D : va_G} {cI cZ cB cJ cR : ClassId} {ks ad : List Nat} {Psi : va_W → Prop} (hw : zworld ks ad zuq zNS Psi) (hm : zMan l D cI cZ cB cJ cR ks ad Psi) : zMet l D cI cZ cB cJ cR zKS ks ad Psi yX6_isHalf (.code yX6_isHalf cX6_isHalf 1 (some .boolean)) 1 zc_927 :=
  zmet_of hw 1 (by decide) 4000 zk_927 (by decide) (by decide) (fun X => ⟨zg_RX6 X, zp_RX6 X, zl1_RX6 X, zl2_RX6 X, nilz, (List.forall_mem_cons.mpr ⟨zq_RX6_76 X (zM_919 hw hm) (by decide) rfl, nilz⟩)⟩)
set_option maxRecDepth 100000 in
theorem zk_928 : zmeth zKS zuq zNS zm_928 4000 = true := zqF (zdt0 _) (by decide +kernel)
theorem zM_928 {l : Launch} {D : va_G} {cI cZ cB cJ cR : ClassId} {ks ad : List Nat} {Psi : va_W → Prop} (hw : zworld ks ad zuq zNS Psi) (hm : zMan l D cI cZ cB cJ cR ks ad Psi) : zMet l D cI cZ cB cJ cR zKS ks ad Psi yX6_isHour (.code yX6_isHour cX6_isHour 3 (some .boolean)) 1 zc_928 :=
  zmet_of hw 1 (by decide) 4000 zk_928 (by decide) (by decide) (fun X => ⟨zg_RX6 X, zp_RX6 X, zl1_RX6 X, zl2_RX6 X, nilz, (List.forall_mem_cons.mpr ⟨zq_RX6_76 X (zM_916 hw hm) (by decide) rfl, (List.forall_mem_cons.mpr ⟨zq_RX6_231 X (zM_898 hw hm) (by decide) rfl rfl, nilz⟩)⟩)⟩)
set_option maxRecDepth 100000 in
theorem zk_930 : zmeth zKS zuq zNS zm_930 4000 = true := zqF (zdt0 _) (by decide +kernel)
theorem zM_930 {l : Launch} {D : va_G} {cI cZ cB cJ cR : ClassId} {ks ad : List Nat} {Psi : va_W → Prop} (hw : zworld ks ad zuq zNS Psi) (hm : zMan l D cI cZ cB cJ cR ks ad Psi) : zMet l D cI cZ cB cJ cR zKS ks ad Psi yX6_isPerson (.code yX6_isPerson cX6_isPerson 3 (some .boolean)) 1 zc_930 :=
  zmet_of hw 1 (by decide) 4000 zk_930 (by decide) (by decide) (fun X => ⟨zg_RX6 X, zp_RX6 X, zl1_RX6 X, zl2_RX6 X, nilz, (List.forall_mem_cons.mpr ⟨zq_RX6_76 X (zM_917 hw hm) (by decide) rfl, (List.forall_mem_cons.mpr ⟨zq_RX6_227 X (zM_1061 hw hm) (by decide) rfl rfl, nilz⟩)⟩)⟩)
set_option maxRecDepth 100000 in
theorem zk_931 : zmeth zKS zuq zNS zm_931 4000 = true := zqF (zdt0 _) (by decide +kernel)
theorem zM_931 {l : Launch} {D : va_G} {cI cZ cB cJ cR : ClassId} {ks ad : List Nat} {Psi : va_W → Prop} (hw : zworld ks ad zuq zNS Psi) (hm : zMan l D cI cZ cB cJ cR ks ad Psi) : zMet l D cI cZ cB cJ cR zKS ks ad Psi yX6_isPlace (.code yX6_isPlace cX6_isPlace 3 (some .boolean)) 1 zc_931 :=
  zmet_of hw 1 (by decide) 4000 zk_931 (by decide) (by decide) (fun X => ⟨zg_RX6 X, zp_RX6 X, zl1_RX6 X, zl2_RX6 X, nilz, (List.forall_mem_cons.mpr ⟨zq_RX6_76 X (zM_918 hw hm) (by decide) rfl, nilz⟩)⟩)
set_option maxRecDepth 100000 in
theorem zk_932 : zmeth zKS zuq zNS zm_932 4000 = true := zqF (zdt0 _) (by decide +kernel)
theorem zM_932 {l : Launch} {D : va_G} {cI cZ cB cJ cR : ClassId} {ks ad : List Nat} {Psi : va_W → Prop} (hw : zworld ks ad zuq zNS Psi) (hm : zMan l D cI cZ cB cJ cR ks ad Psi) : zMet l D cI cZ cB cJ cR zKS ks ad Psi yX6_isSeed (.code yX6_isSeed cX6_isSeed 2 (some .boolean)) 1 zc_932 :=
  zmet_of hw 1 (by decide) 4000 zk_932 (by decide) (by decide) (fun X => ⟨zg_RX6 X, zp_RX6 X, zl1_RX6 X, zl2_RX6 X, nilz, (List.forall_mem_cons.mpr ⟨zq_RX6_76 X (zM_905 hw hm) (by decide) rfl, (List.forall_mem_cons.mpr ⟨zq_RX6_276 X (zM_923 hw hm) (by decide) rfl rfl, nilz⟩)⟩)⟩)
set_option maxRecDepth 100000 in
theorem zk_935 : zmeth zKS zuq zNS zm_935 4000 = true := zqF (zdt0 _) (by decide +kernel)
theorem zM_935 {l : Launch} {D : va_G} {cI cZ cB cJ cR : ClassId} {ks ad : List Nat} {Psi : va_W → Prop} (hw : zworld ks ad zuq zNS Psi) (hm : zMan l D cI cZ cB cJ cR ks ad Psi) : zMet l D cI cZ cB cJ cR zKS ks ad Psi yX6_isSlot (.code yX6_isSlot cX6_isSlot 1 (some .boolean)) 1 zc_935 :=
  zmet_of hw 1 (by decide) 4000 zk_935 (by decide) (by decide) (fun X => ⟨zg_RX6 X, zp_RX6 X, zl1_RX6 X, zl2_RX6 X, nilz, (List.forall_mem_cons.mpr ⟨zq_RX6_76 X (zM_906 hw hm) (by decide) rfl, nilz⟩)⟩)
set_option maxRecDepth 100000 in
theorem zk_1038 : zmeth zKS zuq zNS zm_1038 4000 = true := zqF (zdt0 _) (by decide +kernel)
theorem zM_1038 {l : Launch} {D : va_G} {cI cZ cB cJ cR : ClassId} {ks ad : List Nat} {Psi : va_W → Prop} (hw : zworld ks ad zuq zNS Psi) (hm : zMan l D cI cZ cB cJ cR ks ad Psi) : zMet l D cI cZ cB cJ cR zKS ks ad Psi yX6_next (.code yX6_next cX6_next 2 none) 1 zc_1038 :=
  zmet_of hw 1 (by decide) 4000 zk_1038 (by decide) (by decide) (fun X => ⟨zg_RX6 X, zp_RX6 X, zl1_RX6 X, zl2_RX6 X, nilz, (List.forall_mem_cons.mpr ⟨zq_RX6_98 X (zM_922 hw hm) (by decide) rfl rfl, nilz⟩)⟩)
set_option maxRecDepth 100000 in
theorem zk_1117 : zmeth zKS zuq zNS zm_1117 4000 = true := zqF (zdt0 _) (by decide +kernel)
theorem zM_1117 {l : Launch} {D : va_G} {cI cZ cB cJ cR : ClassId} {ks ad : List Nat} {Psi : va_W → Prop} (hw : zworld ks ad zuq zNS Psi) (hm : zMan l D cI cZ cB cJ cR ks ad Psi) : zMet l D cI cZ cB cJ cR zKS ks ad Psi yX6_seesTo (.code yX6_seesTo cX6_seesTo 4 (some .boolean)) 1 zc_1117 :=
  zmet_of hw 1 (by decide) 4000 zk_1117 (by decide) (by decide) (fun X => ⟨zg_RX6 X, zp_RX6 X, zl1_RX6 X, zl2_RX6 X, nilz, (List.forall_mem_cons.mpr ⟨zq_RX6_237 X (zM_878 hw hm) (by decide) rfl, (List.forall_mem_cons.mpr ⟨zq_RX6_240 X (zM_921 hw hm) (by decide) rfl, nilz⟩)⟩)⟩)
