set_option maxRecDepth 100000 in
theorem zk_1003 : zmeth zKS zuq zNS zm_1003 4000 = true := zqF (zdt_X6_isTrue) (by decide +kernel)
theorem zM_1003 {l : Launch} {D : va_G} {cI cZ cB cJ cR : ClassId} {ks ad : List Nat} {Psi : va_W → Prop} (hw : zworld ks ad zuq zNS Psi) (hm : zMan l D cI cZ cB cJ cR ks ad Psi) : zMet l D cI cZ cB cJ cR zKS ks ad Psi yX6_isTrue (.code yX6_isTrue cX6_isTrue 4 (some .boolean)) 3 zc_1003 :=
  zmet_of hw 3 (by decide) 4000 zk_1003 (by decide) (by decide) (fun X => ⟨zg_RX6 X, zp_RX6 X, zl1_RX6 X, zl2_RX6 X, nilz, (List.forall_mem_cons.mpr ⟨zq_RX6_250 X (zM_933 hw hm) (by decide) rfl rfl, nilz⟩)⟩)
set_option maxRecDepth 100000 in
theorem zk_1004 : zmeth zKS zuq zNS zm_1004 4000 = true := zqF (zdt_X6_isTrue) (by decide +kernel)
theorem zM_1004 {l : Launch} {D : va_G} {cI cZ cB cJ cR : ClassId} {ks ad : List Nat} {Psi : va_W → Prop} (hw : zworld ks ad zuq zNS Psi) (hm : zMan l D cI cZ cB cJ cR ks ad Psi) : zMet l D cI cZ cB cJ cR zKS ks ad Psi yX6_isTrue (.code yX6_isTrue cX6_isTrue 4 (some .boolean)) 3 zc_1004 :=
  zmet_of hw 3 (by decide) 4000 zk_1004 (by decide) (by decide) (fun X => ⟨zg_RX6 X, zp_RX6 X, zl1_RX6 X, zl2_RX6 X, nilz, (List.forall_mem_cons.mpr ⟨zq_RX6_250 X (zM_933 hw hm) (by decide) rfl rfl, nilz⟩)⟩)
set_option maxRecDepth 100000 in
theorem zk_1005 : zmeth zKS zuq zNS zm_1005 4000 = true := zqF (zdt_X6_isTrue) (by decide +kernel)
theorem zM_1005 {l : Launch} {D : va_G} {cI cZ cB cJ cR : ClassId} {ks ad : List Nat} {Psi : va_W → Prop} (hw : zworld ks ad zuq zNS Psi) (hm : zMan l D cI cZ cB cJ cR ks ad Psi) : zMet l D cI cZ cB cJ cR zKS ks ad Psi yX6_isTrue (.code yX6_isTrue cX6_isTrue 4 (some .boolean)) 3 zc_1005 :=
  zmet_of hw 3 (by decide) 4000 zk_1005 (by decide) (by decide) (fun X => ⟨zg_RX6 X, zp_RX6 X, zl1_RX6 X, zl2_RX6 X, nilz, (List.forall_mem_cons.mpr ⟨zq_RX6_250 X (zM_933 hw hm) (by decide) rfl rfl, nilz⟩)⟩)
set_option maxRecDepth 100000 in
theorem zk_1006 : zmeth zKS zuq zNS zm_1006 4000 = true := zqF (zdt_X6_isTrue) (by decide +kernel)
theorem zM_1006 {l : Launch} {D : va_G} {cI cZ cB cJ cR : ClassId} {ks ad : List Nat} {Psi : va_W → Prop} (hw : zworld ks ad zuq zNS Psi) (hm : zMan l D cI cZ cB cJ cR ks ad Psi) : zMet l D cI cZ cB cJ cR zKS ks ad Psi yX6_isTrue (.code yX6_isTrue cX6_isTrue 4 (some .boolean)) 3 zc_1006 :=
  zmet_of hw 3 (by decide) 4000 zk_1006 (by decide) (by decide) (fun X => ⟨zg_RX6 X, zp_RX6 X, zl1_RX6 X, zl2_RX6 X, nilz, (List.forall_mem_cons.mpr ⟨zq_RX6_250 X (zM_933 hw hm) (by decide) rfl rfl, nilz⟩)⟩)
set_option maxRecDepth 100000 in
theorem zk_1007 : zmeth zKS zuq zNS zm_1007 4000 = true := zqF (zdt_X6_isTrue) (by decide +kernel)
theorem zM_1007 {l : Launch} {D : va_G} {cI cZ cB cJ cR : ClassId} {ks ad : List Nat} {Psi : va_W → Prop} (hw : zworld ks ad zuq zNS Psi) (hm : zMan l D cI cZ cB cJ cR ks ad Psi) : zMet l D cI cZ cB cJ cR zKS ks ad Psi yX6_isTrue (.code yX6_isTrue cX6_isTrue 4 (some .boolean)) 3 zc_1007 :=
  zmet_of hw 3 (by decide) 4000 zk_1007 (by decide) (by decide) (fun X => ⟨zg_RX6 X, zp_RX6 X, zl1_RX6 X, zl2_RX6 X, nilz, (List.forall_mem_cons.mpr ⟨zq_RX6_250 X (zM_933 hw hm) (by decide) rfl rfl, nilz⟩)⟩)
set_option maxRecDepth 100000 in
theorem zk_1008 : zmeth zKS zuq zNS zm_1008 4000 = true := zqF (zdt_X6_isTrue) (by decide +kernel)
theorem zM_1008 {l : Launch} {D : va_G} {cI cZ cB cJ cR : ClassId} {ks ad : List Nat} {Psi : va_W → Prop} (hw : zworld ks ad zuq zNS Psi) (hm : zMan l D cI cZ cB cJ cR ks ad Psi) : zMet l D cI cZ cB cJ cR zKS ks ad Psi yX6_isTrue (.code yX6_isTrue cX6_isTrue 4 (some .boolean)) 3 zc_1008 :=
  zmet_of hw 3 (by decide) 4000 zk_1008 (by decide) (by decide) (fun X => ⟨zg_RX6 X, zp_RX6 X, zl1_RX6 X, zl2_RX6 X, nilz, (List.forall_mem_cons.mpr ⟨zq_RX6_250 X (zM_933 hw hm) (by decide) rfl rfl, nilz⟩)⟩)
set_option maxRecDepth 100000 in
theorem zk_1009 : zmeth zKS zuq zNS zm_1009 4000 = true := zqF (zdt_X6_isTrue) (by decide +kernel)
theorem zM_1009 {l : Launch} {D : va_G} {cI cZ cB cJ cR : ClassId} {ks ad : List Nat} {Psi : va_W → Prop} (hw : zworld ks ad zuq zNS Psi) (hm : zMan l D cI cZ cB cJ cR ks ad Psi) : zMet l D cI cZ cB cJ cR zKS ks ad Psi yX6_isTrue (.code yX6_isTrue cX6_isTrue 4 (some .boolean)) 3 zc_1009 :=
  zmet_of hw 3 (by decide) 4000 zk_1009 (by decide) (by decide) (fun X => ⟨zg_RX6 X, zp_RX6 X, zl1_RX6 X, zl2_RX6 X, nilz, (List.forall_mem_cons.mpr ⟨zq_RX6_250 X (zM_933 hw hm) (by decide) rfl rfl, nilz⟩)⟩)
set_option maxRecDepth 100000 in
theorem zk_1010 : zmeth zKS zuq zNS zm_1010 4000 = true := zqF (zdt_X6_isTrue) (by decide +kernel)
theorem zM_1010 {l : Launch} {D : va_G} {cI cZ cB cJ cR : ClassId} {ks ad : List Nat} {Psi : va_W → Prop} (hw : zworld ks ad zuq zNS Psi) (hm : zMan l D cI cZ cB cJ cR ks ad Psi) : zMet l D cI cZ cB cJ cR zKS ks ad Psi yX6_isTrue (.code yX6_isTrue cX6_isTrue 4 (some .boolean)) 3 zc_1010 :=
  zmet_of hw 3 (by decide) 4000 zk_1010 (by decide) (by decide) (fun X => ⟨zg_RX6 X, zp_RX6 X, zl1_RX6 X, zl2_RX6 X, nilz, (List.forall_mem_cons.mpr ⟨zq_RX6_250 X (zM_933 hw hm) (by decide) rfl rfl, nilz⟩)⟩)
set_option maxRecDepth 100000 in
theorem zk_1011 : zmeth zKS zuq zNS zm_1011 4000 = true := zqF (zdt_X6_isTrue) (by decide +kernel)
theorem zM_1011 {l : Launch} {D : va_G} {cI cZ cB cJ cR : ClassId} {ks ad : List Nat} {Psi : va_W → Prop} (hw : zworld ks ad zuq zNS Psi) (hm : zMan l D cI cZ cB cJ cR ks ad Psi) : zMet l D cI cZ cB cJ cR zKS ks ad Psi yX6_isTrue (.code yX6_isTrue cX6_isTrue 4 (some .boolean)) 3 zc_1011 :=
  zmet_of hw 3 (by decide) 4000 zk_1011 (by decide) (by decide) (fun X => ⟨zg_RX6 X, zp_RX6 X, zl1_RX6 X, zl2_RX6 X, nilz, (List.forall_mem_cons.mpr ⟨zq_RX6_250 X (zM_933 hw hm) (by decide) rfl rfl, nilz⟩)⟩)
set_option maxRecDepth 100000 in
theorem zk_1012 : zmeth zKS zuq zNS zm_1012 4000 = true := zqF (zdt_X6_isTrue) (by decide +kernel)
theorem zM_1012 {l : Launch} {D : va_G} {cI cZ cB cJ cR : ClassId} {ks ad : List Nat} {Psi : va_W → Prop} (hw : zworld ks ad zuq zNS Psi) (hm : zMan l D cI cZ cB cJ cR ks ad Psi) : zMet l D cI cZ cB cJ cR zKS ks ad Psi yX6_isTrue (.code yX6_isTrue cX6_isTrue 4 (some .boolean)) 3 zc_1012 :=
  zmet_of hw 3 (by decide) 4000 zk_1012 (by decide) (by decide) (fun X => ⟨zg_RX6 X, zp_RX6 X, zl1_RX6 X, zl2_RX6 X, nilz, (List.forall_mem_cons.mpr ⟨zq_RX6_250 X (zM_933 hw hm) (by decide) rfl rfl, nilz⟩)⟩)
set_option maxRecDepth 100000 in
theorem zk_1013 : zmeth zKS zuq zNS zm_1013 4000 = true := zqF (zdt_X6_isTrue) (by decide +kernel)
theorem zM_1013 {l : Launch} {D : va_G} {cI cZ cB cJ cR : ClassId} {ks ad : List Nat} {Psi : va_W → Prop} (hw : zworld ks ad zuq zNS Psi) (hm : zMan l D cI cZ cB cJ cR ks ad Psi) : zMet l D cI cZ cB cJ cR zKS ks ad Psi yX6_isTrue (.code yX6_isTrue cX6_isTrue 4 (some .boolean)) 3 zc_1013 :=
  zmet_of hw 3 (by decide) 4000 zk_1013 (by decide) (by decide) (fun X => ⟨zg_RX6 X, zp_RX6 X, zl1_RX6 X, zl2_RX6 X, nilz, (List.forall_mem_cons.mpr ⟨zq_RX6_250 X (zM_933 hw hm) (by decide) rfl rfl, nilz⟩)⟩)
set_option maxRecDepth 100000 in
theorem zk_1014 : zmeth zKS zuq zNS zm_1014 4000 = true := zqF (zdt_X6_isTrue) (by decide +kernel)
theorem zM_1014 {l : Launch} {D : va_G} {cI cZ cB cJ cR : ClassId} {ks ad : List Nat} {Psi : va_W → Prop} (hw : zworld ks ad zuq zNS Psi) (hm : zMan l D cI cZ cB cJ cR ks ad Psi) : zMet l D cI cZ cB cJ cR zKS ks ad Psi yX6_isTrue (.code yX6_isTrue cX6_isTrue 4 (some .boolean)) 3 zc_1014 :=
  zmet_of hw 3 (by decide) 4000 zk_1014 (by decide) (by decide) (fun X => ⟨zg_RX6 X, zp_RX6 X, zl1_RX6 X, zl2_RX6 X, nilz, (List.forall_mem_cons.mpr ⟨zq_RX6_250 X (zM_933 hw hm) (by decide) rfl rfl, nilz⟩)⟩)
set_option maxRecDepth 100000 in
theorem zk_1015 : zmeth zKS zuq zNS zm_1015 4000 = true := zqF (zdt_X6_isTrue) (by decide +kernel)
theorem zM_1015 {l : Launch} {D : va_G} {cI cZ cB cJ cR : ClassId} {ks ad : List Nat} {Psi : va_W → Prop} (hw : zworld ks ad zuq zNS Psi) (hm : zMan l D cI cZ cB cJ cR ks ad Psi) : zMet l D cI cZ cB cJ cR zKS ks ad Psi yX6_isTrue (.code yX6_isTrue cX6_isTrue 4 (some .boolean)) 3 zc_1015 :=
  zmet_of hw 3 (by decide) 4000 zk_1015 (by decide) (by decide) (fun X => ⟨zg_RX6 X, zp_RX6 X, zl1_RX6 X, zl2_RX6 X, nilz, (List.forall_mem_cons.mpr ⟨zq_RX6_250 X (zM_933 hw hm) (by decide) rfl rfl, nilz⟩)⟩)
set_option maxRecDepth 100000 in
theorem zk_1059 : zmeth zKS zuq zNS zm_1059 4000 = true := zqF (zdt0 _) (by decide +kernel)
theorem zM_1059 {l : Launch} {D : va_G} {cI cZ cB cJ cR : ClassId} {ks ad : List Nat} {Psi : va_W → Prop} (hw : zworld ks ad zuq zNS Psi) (hm : zMan l D cI cZ cB cJ cR ks ad Psi) : zMet l D cI cZ cB cJ cR zKS ks ad Psi yX6_oftenOf (.code yX6_oftenOf cX6_oftenOf 5 (some .int)) 3 zc_1059 :=
  zmet_of hw 3 (by decide) 4000 zk_1059 (by decide) (by decide) (fun X => ⟨zg_RX6 X, zp_RX6 X, zl1_RX6 X, zl2_RX6 X, nilz, (List.forall_mem_cons.mpr ⟨zq_RX6_231 X (zM_898 hw hm) (by decide) rfl rfl, (List.forall_mem_cons.mpr ⟨zq_RX6_250 X (zM_933 hw hm) (by decide) rfl rfl, nilz⟩)⟩)⟩)
set_option maxRecDepth 100000 in
theorem zk_1115 : zmeth zKS zuq zNS zm_1115 4000 = true := zqF (zdt0 _) (by decide +kernel)
theorem zM_1115 {l : Launch} {D : va_G} {cI cZ cB cJ cR : ClassId} {ks ad : List Nat} {Psi : va_W → Prop} (hw : zworld ks ad zuq zNS Psi) (hm : zMan l D cI cZ cB cJ cR ks ad Psi) : zMet l D cI cZ cB cJ cR zKS ks ad Psi yX6_seenIn (.code yX6_seenIn cX6_seenIn 5 (some .int)) 3 zc_1115 :=
  zmet_of hw 3 (by decide) 4000 zk_1115 (by decide) (by decide) (fun X => ⟨zg_RX6 X, zp_RX6 X, zl1_RX6 X, zl2_RX6 X, nilz, (List.forall_mem_cons.mpr ⟨zq_RX6_231 X (zM_898 hw hm) (by decide) rfl rfl, (List.forall_mem_cons.mpr ⟨zq_RX6_250 X (zM_933 hw hm) (by decide) rfl rfl, nilz⟩)⟩)⟩)
set_option maxRecDepth 100000 in
theorem zk_295 : zmeth zKS zuq zNS zm_295 4000 = true := zqF (zdt0 _) (by decide +kernel)
theorem zM_295 {l : Launch} {D : va_G} {cI cZ cB cJ cR : ClassId} {ks ad : List Nat} {Psi : va_W → Prop} (hw : zworld ks ad zuq zNS Psi) (hm : zMan l D cI cZ cB cJ cR ks ad Psi) : zMet l D cI cZ cB cJ cR zKS ks ad Psi yX0_gapsIfTraded (.code yX0_gapsIfTraded cX0_gapsIfTraded 4 (some .int)) 4 zc_295 :=
  zmet_of hw 4 (by decide) 4000 zk_295 (by decide) (by decide) (fun X => ⟨zg_RX0 X, zp_RX0 X, zl1_RX0 X, zl2_RX0 X, nilz, (List.forall_mem_cons.mpr ⟨zq_RX0_111 X (zM_280 hw hm) (by decide) rfl rfl, (List.forall_mem_cons.mpr ⟨zq_RX0_130 X (zM_322 hw hm) (by decide) rfl rfl, (List.forall_mem_cons.mpr ⟨zq_RX0_134 X (zM_296 hw hm) (by decide) rfl rfl, nilz⟩)⟩)⟩)⟩)
set_option maxRecDepth 100000 in
theorem zk_345 : zmeth zKS zuq zNS zm_345 4000 = true := zqF (zdt0 _) (by decide +kernel)
theorem zM_345 {l : Launch} {D : va_G} {cI cZ cB cJ cR : ClassId} {ks ad : List Nat} {Psi : va_W → Prop} (hw : zworld ks ad zuq zNS Psi) (hm : zMan l D cI cZ cB cJ cR ks ad Psi) : zMet l D cI cZ cB cJ cR zKS ks ad Psi yX2_explain (.code yX2_explain cX2_explain 4 none) 4 zc_345 :=
  zmet_of hw 4 (by decide) 4000 zk_345 (by decide) (by decide) (fun X => ⟨zg_RX2 X, zp_RX2 X, zl1_RX2 X, zl2_RX2 X, nilz, (List.forall_mem_cons.mpr ⟨zq_RX2_39 X (zM_341 hw hm) (by decide) rfl rfl, (List.forall_mem_cons.mpr ⟨zq_RX2_60 X (zM_347 hw hm) (by decide) rfl rfl, (List.forall_mem_cons.mpr ⟨zq_copy (k0 := 21) (k1 := 27) (fun ws i k a e e9 h1 h2 h3 => hw.2.2.2 ws i k a e e9 h1 (by rw [h2]; decide) h3) X (by decide) lm_31_12 lm_31_13 lm_31_14 lm_31_15 rfl rfl (by decide) (by decide) (by decide), nilz⟩)⟩)⟩)⟩)
set_option maxRecDepth 100000 in
theorem zk_349 : zmeth zKS zuq zNS zm_349 4000 = true := zqF (zdt0 _) (by decide +kernel)
theorem zM_349 {l : Launch} {D : va_G} {cI cZ cB cJ cR : ClassId} {ks ad : List Nat} {Psi : va_W → Prop} (hw : zworld ks ad zuq zNS Psi) (hm : zMan l D cI cZ cB cJ cR ks ad Psi) : zMet l D cI cZ cB cJ cR zKS ks ad Psi yX2_survey (.code yX2_survey cX2_survey 3 none) 4 zc_349 :=
  zmet_of hw 4 (by decide) 4000 zk_349 (by decide) (by decide) (fun X => ⟨zg_RX2 X, zp_RX2 X, zl1_RX2 X, zl2_RX2 X, nilz, (List.forall_mem_cons.mpr ⟨zq_RX2_36 X (zM_344 hw hm) (by decide) rfl rfl, (List.forall_mem_cons.mpr ⟨zq_RX2_39 X (zM_341 hw hm) (by decide) rfl rfl, (List.forall_mem_cons.mpr ⟨zq_RX2_43 X (zM_342 hw hm) (by decide) rfl rfl, (List.forall_mem_cons.mpr ⟨zq_RX2_60 X (zM_347 hw hm) (by decide) rfl rfl, (List.forall_mem_cons.mpr ⟨zq_RX2_64 X (zM_350 hw hm) (by decide) rfl rfl, nilz⟩)⟩)⟩)⟩)⟩)⟩)
set_option maxRecDepth 100000 in
theorem zk_629 : zmeth zKS zuq zNS zm_629 4000 = true := zqF (zdt0 _) (by decide +kernel)
theorem zM_629 {l : Launch} {D : va_G} {cI cZ cB cJ cR : ClassId} {ks ad : List Nat} {Psi : va_W → Prop} (hw : zworld ks ad zuq zNS Psi) (hm : zMan l D cI cZ cB cJ cR ks ad Psi) : zMet l D cI cZ cB cJ cR zKS ks ad Psi yX5_all (.code yX5_all cX5_all 1 (some .int)) 4 zc_629 :=
  zmet_of hw 4 (by decide) 4000 zk_629 (by decide) (by decide) (fun X => ⟨zg_RX5 X, zp_RX5 X, zl1_RX5 X, zl2_RX5 X, nilz, (List.forall_mem_cons.mpr ⟨zq_RX5_115 X (zM_287 hw hm) (by decide) rfl rfl, (List.forall_mem_cons.mpr ⟨zq_RX5_118 X (zM_280 hw hm) (by decide) rfl rfl, (List.forall_mem_cons.mpr ⟨zq_RX5_122 X (zM_296 hw hm) (by decide) rfl rfl, nilz⟩)⟩)⟩)⟩)
set_option maxRecDepth 100000 in
theorem zk_630 : zmeth zKS zuq zNS zm_630 4000 = true := zqF (zdt0 _) (by decide +kernel)
theorem zM_630 {l : Launch} {D : va_G} {cI cZ cB cJ cR : ClassId} {ks ad : List Nat} {Psi : va_W → Prop} (hw : zworld ks ad zuq zNS Psi) (hm : zMan l D cI cZ cB cJ cR ks ad Psi) : zMet l D cI cZ cB cJ cR zKS ks ad Psi yX5_alone (.code yX5_alone cX5_alone 2 (some .int)) 4 zc_630 :=
  zmet_of hw 4 (by decide) 4000 zk_630 (by decide) (by decide) (fun X => ⟨zg_RX5 X, zp_RX5 X, zl1_RX5 X, zl2_RX5 X, nilz, (List.forall_mem_cons.mpr ⟨zq_RX5_87 X (zM_301 hw hm) (by decide) rfl rfl, (List.forall_mem_cons.mpr ⟨zq_RX5_112 X (zM_281 hw hm) (by decide) rfl rfl, nilz⟩)⟩)⟩)
set_option maxRecDepth 100000 in
theorem zk_631 : zmeth zKS zuq zNS zm_631 4000 = true := zqF (zdt0 _) (by decide +kernel)
theorem zM_631 {l : Launch} {D : va_G} {cI cZ cB cJ cR : ClassId} {ks ad : List Nat} {Psi : va_W → Prop} (hw : zworld ks ad zuq zNS Psi) (hm : zMan l D cI cZ cB cJ cR ks ad Psi) : zMet l D cI cZ cB cJ cR zKS ks ad Psi yX5_anew (.code yX5_anew cX5_anew 3 (some .int)) 4 zc_631 :=
  zmet_of hw 4 (by decide) 4000 zk_631 (by decide) (by decide) (fun X => ⟨zg_RX5 X, zp_RX5 X, zl1_RX5 X, zl2_RX5 X, nilz, (List.forall_mem_cons.mpr ⟨zq_RX5_71 X (zM_760 hw hm) (by decide) rfl rfl, (List.forall_mem_cons.mpr ⟨zq_RX5_115 X (zM_287 hw hm) (by decide) rfl rfl, (List.forall_mem_cons.mpr ⟨zq_RX5_302 X (zman_325 hm) (by decide) rfl rfl, nilz⟩)⟩)⟩)⟩)
set_option maxRecDepth 100000 in
theorem zk_634 : zmeth zKS zuq zNS zm_634 4000 = true := zqF (zdt0 _) (by decide +kernel)
theorem zM_634 {l : Launch} {D : va_G} {cI cZ cB cJ cR : ClassId} {ks ad : List Nat} {Psi : va_W → Prop} (hw : zworld ks ad zuq zNS Psi) (hm : zMan l D cI cZ cB cJ cR ks ad Psi) : zMet l D cI cZ cB cJ cR zKS ks ad Psi yX5_back (.code yX5_back cX5_back 2 (some .int)) 4 zc_634 :=
  zmet_of hw 4 (by decide) 4000 zk_634 (by decide) (by decide) (fun X => ⟨zg_RX5 X, zp_RX5 X, zl1_RX5 X, zl2_RX5 X, nilz, (List.forall_mem_cons.mpr ⟨zq_RX5_71 X (zM_760 hw hm) (by decide) rfl rfl, (List.forall_mem_cons.mpr ⟨zq_RX5_317 X (zman_284 hm) (by decide) rfl rfl, nilz⟩)⟩)⟩)
set_option maxRecDepth 100000 in
theorem zk_640 : zmeth zKS zuq zNS zm_640 4000 = true := zqF (zdt0 _) (by decide +kernel)
theorem zM_640 {l : Launch} {D : va_G} {cI cZ cB cJ cR : ClassId} {ks ad : List Nat} {Psi : va_W → Prop} (hw : zworld ks ad zuq zNS Psi) (hm : zMan l D cI cZ cB cJ cR ks ad Psi) : zMet l D cI cZ cB cJ cR zKS ks ad Psi yX5_busiest (.code yX5_busiest cX5_busiest 5 (some .int)) 4 zc_640 :=
  zmet_of hw 4 (by decide) 4000 zk_640 (by decide) (by decide) (fun X => ⟨zg_RX5 X, zp_RX5 X, zl1_RX5 X, zl2_RX5 X, nilz, (List.forall_mem_cons.mpr ⟨zq_RX5_112 X (zM_281 hw hm) (by decide) rfl rfl, (List.forall_mem_cons.mpr ⟨zq_RX5_115 X (zM_287 hw hm) (by decide) rfl rfl, (List.forall_mem_cons.mpr ⟨zq_RX5_125 X (zM_298 hw hm) (by decide) rfl rfl, (List.forall_mem_cons.mpr ⟨zq_RX5_149 X (zM_0 hw hm) (by decide) rfl, nilz⟩)⟩)⟩)⟩)⟩)
set_option maxRecDepth 100000 in
theorem zk_641 : zmeth zKS zuq zNS zm_641 4000 = true := zqF (zdt0 _) (by decide +kernel)
theorem zM_641 {l : Launch} {D : va_G} {cI cZ cB cJ cR : ClassId} {ks ad : List Nat} {Psi : va_W → Prop} (hw : zworld ks ad zuq zNS Psi) (hm : zMan l D cI cZ cB cJ cR ks ad Psi) : zMet l D cI cZ cB cJ cR zKS ks ad Psi yX5_can (.code yX5_can cX5_can 3 (some .int)) 4 zc_641 :=
  zmet_of hw 4 (by decide) 4000 zk_641 (by decide) (by decide) (fun X => ⟨zg_RX5 X, zp_RX5 X, zl1_RX5 X, zl2_RX5 X, nilz, (List.forall_mem_cons.mpr ⟨zq_RX5_87 X (zM_301 hw hm) (by decide) rfl rfl, (List.forall_mem_cons.mpr ⟨zq_RX5_186 X (zM_304 hw hm) (by decide) rfl rfl, (List.forall_mem_cons.mpr ⟨zq_RX5_220 X (zM_285 hw hm) (by decide) rfl rfl, nilz⟩)⟩)⟩)⟩)
set_option maxRecDepth 100000 in
theorem zk_652 : zmeth zKS zuq zNS zm_652 4000 = true := zqF (zdt0 _) (by decide +kernel)
theorem zM_652 {l : Launch} {D : va_G} {cI cZ cB cJ cR : ClassId} {ks ad : List Nat} {Psi : va_W → Prop} (hw : zworld ks ad zuq zNS Psi) (hm : zMan l D cI cZ cB cJ cR ks ad Psi) : zMet l D cI cZ cB cJ cR zKS ks ad Psi yX5_drawn (.code yX5_drawn cX5_drawn 8 (some .int)) 4 zc_652 :=
  zmet_of hw 4 (by decide) 4000 zk_652 (by decide) (by decide) (fun X => ⟨zg_RX5 X, zp_RX5 X, zl1_RX5 X, zl2_RX5 X, nilz, (List.forall_mem_cons.mpr ⟨zq_RX5_115 X (zM_287 hw hm) (by decide) rfl rfl, (List.forall_mem_cons.mpr ⟨zq_RX5_149 X (zM_0 hw hm) (by decide) rfl, (List.forall_mem_cons.mpr ⟨zq_RX5_287 X (zM_289 hw hm) (by decide) rfl rfl, (List.forall_mem_cons.mpr ⟨zq_RX5_290 X (zM_293 hw hm) (by decide) rfl rfl, nilz⟩)⟩)⟩)⟩)⟩)
set_option maxRecDepth 100000 in
theorem zk_663 : zmeth zKS zuq zNS zm_663 4000 = true := zqF (zdt0 _) (by decide +kernel)
theorem zM_663 {l : Launch} {D : va_G} {cI cZ cB cJ cR : ClassId} {ks ad : List Nat} {Psi : va_W → Prop} (hw : zworld ks ad zuq zNS Psi) (hm : zMan l D cI cZ cB cJ cR ks ad Psi) : zMet l D cI cZ cB cJ cR zKS ks ad Psi yX5_fine (.code yX5_fine cX5_fine 2 (some .int)) 4 zc_663 :=
  zmet_of hw 4 (by decide) 4000 zk_663 (by decide) (by decide) (fun X => ⟨zg_RX5 X, zp_RX5 X, zl1_RX5 X, zl2_RX5 X, nilz, (List.forall_mem_cons.mpr ⟨zq_RX5_83 X (zM_303 hw hm) (by decide) rfl rfl, (List.forall_mem_cons.mpr ⟨zq_RX5_137 X (zM_288 hw hm) (by decide) rfl rfl, nilz⟩)⟩)⟩)
set_option maxRecDepth 100000 in
theorem zk_668 : zmeth zKS zuq zNS zm_668 4000 = true := zqF (zdt0 _) (by decide +kernel)
theorem zM_668 {l : Launch} {D : va_G} {cI cZ cB cJ cR : ClassId} {ks ad : List Nat} {Psi : va_W → Prop} (hw : zworld ks ad zuq zNS Psi) (hm : zMan l D cI cZ cB cJ cR ks ad Psi) : zMet l D cI cZ cB cJ cR zKS ks ad Psi yX5_guarded (.code yX5_guarded cX5_guarded 2 (some .int)) 4 zc_668 :=
  zmet_of hw 4 (by decide) 4000 zk_668 (by decide) (by decide) (fun X => ⟨zg_RX5 X, zp_RX5 X, zl1_RX5 X, zl2_RX5 X, nilz, (List.forall_mem_cons.mpr ⟨zq_RX5_83 X (zM_303 hw hm) (by decide) rfl rfl, (List.forall_mem_cons.mpr ⟨zq_RX5_227 X (zM_307 hw hm) (by decide) rfl rfl, nilz⟩)⟩)⟩)
set_option maxRecDepth 100000 in
theorem zk_669 : zmeth zKS zuq zNS zm_669 4000 = true := zqF (zdt0 _) (by decide +kernel)
theorem zM_669 {l : Launch} {D : va_G} {cI cZ cB cJ cR : ClassId} {ks ad : List Nat} {Psi : va_W → Prop} (hw : zworld ks ad zuq zNS Psi) (hm : zMan l D cI cZ cB cJ cR ks ad Psi) : zMet l D cI cZ cB cJ cR zKS ks ad Psi yX5_guards (.code yX5_guards cX5_guards 3 (some .int)) 4 zc_669 :=
  zmet_of hw 4 (by decide) 4000 zk_669 (by decide) (by decide) (fun X => ⟨zg_RX5 X, zp_RX5 X, zl1_RX5 X, zl2_RX5 X, nilz, (List.forall_mem_cons.mpr ⟨zq_RX5_83 X (zM_303 hw hm) (by decide) rfl rfl, (List.forall_mem_cons.mpr ⟨zq_RX5_149 X (zM_0 hw hm) (by decide) rfl, (List.forall_mem_cons.mpr ⟨zq_RX5_227 X (zM_307 hw hm) (by decide) rfl rfl, nilz⟩)⟩)⟩)⟩)
set_option maxRecDepth 100000 in
theorem zk_671 : zmeth zKS zuq zNS zm_671 4000 = true := zqF (zdt0 _) (by decide +kernel)
theorem zM_671 {l : Launch} {D : va_G} {cI cZ cB cJ cR : ClassId} {ks ad : List Nat} {Psi : va_W → Prop} (hw : zworld ks ad zuq zNS Psi) (hm : zMan l D cI cZ cB cJ cR ks ad Psi) : zMet l D cI cZ cB cJ cR zKS ks ad Psi yX5_homebody (.code yX5_homebody cX5_homebody 5 (some .int)) 4 zc_671 :=
  zmet_of hw 4 (by decide) 4000 zk_671 (by decide) (by decide) (fun X => ⟨zg_RX5 X, zp_RX5 X, zl1_RX5 X, zl2_RX5 X, nilz, (List.forall_mem_cons.mpr ⟨zq_RX5_115 X (zM_287 hw hm) (by decide) rfl rfl, (List.forall_mem_cons.mpr ⟨zq_RX5_118 X (zM_280 hw hm) (by decide) rfl rfl, (List.forall_mem_cons.mpr ⟨zq_RX5_122 X (zM_296 hw hm) (by decide) rfl rfl, (List.forall_mem_cons.mpr ⟨zq_RX5_198 X (zM_294 hw hm) (by decide) rfl rfl, nilz⟩)⟩)⟩)⟩)⟩)
set_option maxRecDepth 100000 in
theorem zk_753 : zmeth zKS zuq zNS zm_753 4000 = true := zqF (zdt0 _) (by decide +kernel)
theorem zM_753 {l : Launch} {D : va_G} {cI cZ cB cJ cR : ClassId} {ks ad : List Nat} {Psi : va_W → Prop} (hw : zworld ks ad zuq zNS Psi) (hm : zMan l D cI cZ cB cJ cR ks ad Psi) : zMet l D cI cZ cB cJ cR zKS ks ad Psi yX5_law (.code yX5_law cX5_law 4 (some .int)) 4 zc_753 :=
  zmet_of hw 4 (by decide) 4000 zk_753 (by decide) (by decide) (fun X => ⟨zg_RX5 X, zp_RX5 X, zl1_RX5 X, zl2_RX5 X, nilz, (List.forall_mem_cons.mpr ⟨zq_RX5_87 X (zM_301 hw hm) (by decide) rfl rfl, (List.forall_mem_cons.mpr ⟨zq_RX5_118 X (zM_280 hw hm) (by decide) rfl rfl, (List.forall_mem_cons.mpr ⟨zq_RX5_122 X (zM_296 hw hm) (by decide) rfl rfl, nilz⟩)⟩)⟩)⟩)
set_option maxRecDepth 100000 in
theorem zk_761 : zmeth zKS zuq zNS zm_761 4000 = true := zqF (zdt0 _) (by decide +kernel)
theorem zM_761 {l : Launch} {D : va_G} {cI cZ cB cJ cR : ClassId} {ks ad : List Nat} {Psi : va_W → Prop} (hw : zworld ks ad zuq zNS Psi) (hm : zMan l D cI cZ cB cJ cR ks ad Psi) : zMet l D cI cZ cB cJ cR zKS ks ad Psi yX5_luck (.code yX5_luck cX5_luck 6 (some .int)) 4 zc_761 :=
  zmet_of hw 4 (by decide) 4000 zk_761 (by decide) (by decide) (fun X => ⟨zg_RX5 X, zp_RX5 X, zl1_RX5 X, zl2_RX5 X, nilz, (List.forall_mem_cons.mpr ⟨zq_RX5_83 X (zM_303 hw hm) (by decide) rfl rfl, (List.forall_mem_cons.mpr ⟨zq_RX5_287 X (zM_289 hw hm) (by decide) rfl rfl, (List.forall_mem_cons.mpr ⟨zq_RX5_290 X (zM_293 hw hm) (by decide) rfl rfl, nilz⟩)⟩)⟩)⟩)
set_option maxRecDepth 100000 in
theorem zk_762 : zmeth zKS zuq zNS zm_762 4000 = true := zqF (zdt0 _) (by decide +kernel)
theorem zM_762 {l : Launch} {D : va_G} {cI cZ cB cJ cR : ClassId} {ks ad : List Nat} {Psi : va_W → Prop} (hw : zworld ks ad zuq zNS Psi) (hm : zMan l D cI cZ cB cJ cR ks ad Psi) : zMet l D cI cZ cB cJ cR zKS ks ad Psi yX5_move (.code yX5_move cX5_move 5 (some .int)) 4 zc_762 :=
  zmet_of hw 4 (by decide) 4000 zk_762 (by decide) (by decide) (fun X => ⟨zg_RX5 X, zp_RX5 X, zl1_RX5 X, zl2_RX5 X, nilz, (List.forall_mem_cons.mpr ⟨zq_RX5_71 X (zM_760 hw hm) (by decide) rfl rfl, (List.forall_mem_cons.mpr ⟨zq_RX5_83 X (zM_303 hw hm) (by decide) rfl rfl, (List.forall_mem_cons.mpr ⟨zq_RX5_87 X (zM_301 hw hm) (by decide) rfl rfl, (List.forall_mem_cons.mpr ⟨zq_RX5_186 X (zM_304 hw hm) (by decide) rfl rfl, (List.forall_mem_cons.mpr ⟨zq_RX5_299 X (zM_310 hw hm) (by decide) rfl rfl, nilz⟩)⟩)⟩)⟩)⟩)⟩)
set_option maxRecDepth 100000 in
theorem zk_800 : zmeth zKS zuq zNS zm_800 4000 = true := zqF (zdt0 _) (by decide +kernel)
theorem zM_800 {l : Launch} {D : va_G} {cI cZ cB cJ cR : ClassId} {ks ad : List Nat} {Psi : va_W → Prop} (hw : zworld ks ad zuq zNS Psi) (hm : zMan l D cI cZ cB cJ cR ks ad Psi) : zMet l D cI cZ cB cJ cR zKS ks ad Psi yX5_safe (.code yX5_safe cX5_safe 3 (some .int)) 4 zc_800 :=
  zmet_of hw 4 (by decide) 4000 zk_800 (by decide) (by decide) (fun X => ⟨zg_RX5 X, zp_RX5 X, zl1_RX5 X, zl2_RX5 X, nilz, (List.forall_mem_cons.mpr ⟨zq_RX5_115 X (zM_287 hw hm) (by decide) rfl rfl, (List.forall_mem_cons.mpr ⟨zq_RX5_192 X (zM_313 hw hm) (by decide) rfl rfl, (List.forall_mem_cons.mpr ⟨zq_RX5_223 X (zM_297 hw hm) (by decide) rfl rfl, nilz⟩)⟩)⟩)⟩)
