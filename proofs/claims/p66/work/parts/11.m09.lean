set_option maxRecDepth 100000 in
theorem zk_714 : zmeth zKS zuq zNS zm_714 4000 = true := by decide +kernel
theorem zM_714 {l : Launch} {D : va_G} {cI cZ cB cJ cR : ClassId} {ks ad : List Nat} {Psi : va_W → Prop} (hw : zworld ks ad zuq zNS Psi) (hm : zMan l D cI cZ cB cJ cR ks ad Psi) : zMet l D cI cZ cB cJ cR zKS ks ad Psi yX5_refuseRow (.code yX5_refuseRow cX5_refuseRow 3 (some .int)) 1 zc_714 :=
  zmet_of hw 1 (by decide) 4000 zk_714 (by decide) (by decide) (fun X => ⟨zg_RX5 X, zp_RX5 X, zl1_RX5 X, zl2_RX5 X, nilz, (List.forall_mem_cons.mpr ⟨zq_RX5_321 X (zM_296 hw hm) (by decide) rfl rfl, nilz⟩)⟩)
set_option maxRecDepth 100000 in
theorem zk_715 : zmeth zKS zuq zNS zm_715 4000 = true := by decide +kernel
theorem zM_715 {l : Launch} {D : va_G} {cI cZ cB cJ cR : ClassId} {ks ad : List Nat} {Psi : va_W → Prop} (hw : zworld ks ad zuq zNS Psi) (hm : zMan l D cI cZ cB cJ cR ks ad Psi) : zMet l D cI cZ cB cJ cR zKS ks ad Psi yX5_refuseRow (.code yX5_refuseRow cX5_refuseRow 3 (some .int)) 1 zc_715 :=
  zmet_of hw 1 (by decide) 4000 zk_715 (by decide) (by decide) (fun X => ⟨zg_RX5 X, zp_RX5 X, zl1_RX5 X, zl2_RX5 X, nilz, (List.forall_mem_cons.mpr ⟨zq_RX5_115 X (zM_231 hw hm) (by decide) rfl rfl, (List.forall_mem_cons.mpr ⟨zq_RX5_250 X (zM_540 hw hm) (by decide) rfl rfl, (List.forall_mem_cons.mpr ⟨zq_RX5_321 X (zM_296 hw hm) (by decide) rfl rfl, (List.forall_mem_cons.mpr ⟨zq_RX5_328 X (zM_295 hw hm) (by decide) rfl rfl, nilz⟩)⟩)⟩)⟩)⟩)
set_option maxRecDepth 100000 in
theorem zk_716 : zmeth zKS zuq zNS zm_716 4000 = true := by decide +kernel
theorem zM_716 {l : Launch} {D : va_G} {cI cZ cB cJ cR : ClassId} {ks ad : List Nat} {Psi : va_W → Prop} (hw : zworld ks ad zuq zNS Psi) (hm : zMan l D cI cZ cB cJ cR ks ad Psi) : zMet l D cI cZ cB cJ cR zKS ks ad Psi yX5_refuseRow (.code yX5_refuseRow cX5_refuseRow 3 (some .int)) 1 zc_716 :=
  zmet_of hw 1 (by decide) 4000 zk_716 (by decide) (by decide) (fun X => ⟨zg_RX5 X, zp_RX5 X, zl1_RX5 X, zl2_RX5 X, nilz, (List.forall_mem_cons.mpr ⟨zq_RX5_115 X (zM_231 hw hm) (by decide) rfl rfl, (List.forall_mem_cons.mpr ⟨zq_RX5_250 X (zM_540 hw hm) (by decide) rfl rfl, (List.forall_mem_cons.mpr ⟨zq_RX5_321 X (zM_296 hw hm) (by decide) rfl rfl, (List.forall_mem_cons.mpr ⟨zq_RX5_328 X (zM_295 hw hm) (by decide) rfl rfl, nilz⟩)⟩)⟩)⟩)⟩)
set_option maxRecDepth 100000 in
theorem zk_717 : zmeth zKS zuq zNS zm_717 4000 = true := by decide +kernel
theorem zM_717 {l : Launch} {D : va_G} {cI cZ cB cJ cR : ClassId} {ks ad : List Nat} {Psi : va_W → Prop} (hw : zworld ks ad zuq zNS Psi) (hm : zMan l D cI cZ cB cJ cR ks ad Psi) : zMet l D cI cZ cB cJ cR zKS ks ad Psi yX5_refuseRow (.code yX5_refuseRow cX5_refuseRow 3 (some .int)) 1 zc_717 :=
  zmet_of hw 1 (by decide) 4000 zk_717 (by decide) (by decide) (fun X => ⟨zg_RX5 X, zp_RX5 X, zl1_RX5 X, zl2_RX5 X, nilz, (List.forall_mem_cons.mpr ⟨zq_RX5_115 X (zM_231 hw hm) (by decide) rfl rfl, (List.forall_mem_cons.mpr ⟨zq_RX5_250 X (zM_542 hw hm) (by decide) rfl rfl, (List.forall_mem_cons.mpr ⟨zq_RX5_321 X (zM_296 hw hm) (by decide) rfl rfl, (List.forall_mem_cons.mpr ⟨zq_RX5_328 X (zM_295 hw hm) (by decide) rfl rfl, nilz⟩)⟩)⟩)⟩)⟩)
set_option maxRecDepth 100000 in
theorem zk_718 : zmeth zKS zuq zNS zm_718 4000 = true := by decide +kernel
theorem zM_718 {l : Launch} {D : va_G} {cI cZ cB cJ cR : ClassId} {ks ad : List Nat} {Psi : va_W → Prop} (hw : zworld ks ad zuq zNS Psi) (hm : zMan l D cI cZ cB cJ cR ks ad Psi) : zMet l D cI cZ cB cJ cR zKS ks ad Psi yX5_refuseRow (.code yX5_refuseRow cX5_refuseRow 3 (some .int)) 1 zc_718 :=
  zmet_of hw 1 (by decide) 4000 zk_718 (by decide) (by decide) (fun X => ⟨zg_RX5 X, zp_RX5 X, zl1_RX5 X, zl2_RX5 X, nilz, (List.forall_mem_cons.mpr ⟨zq_RX5_115 X (zM_231 hw hm) (by decide) rfl rfl, (List.forall_mem_cons.mpr ⟨zq_RX5_250 X (zM_542 hw hm) (by decide) rfl rfl, (List.forall_mem_cons.mpr ⟨zq_RX5_321 X (zM_296 hw hm) (by decide) rfl rfl, (List.forall_mem_cons.mpr ⟨zq_RX5_328 X (zM_295 hw hm) (by decide) rfl rfl, nilz⟩)⟩)⟩)⟩)⟩)
set_option maxRecDepth 100000 in
theorem zk_719 : zmeth zKS zuq zNS zm_719 4000 = true := by decide +kernel
theorem zM_719 {l : Launch} {D : va_G} {cI cZ cB cJ cR : ClassId} {ks ad : List Nat} {Psi : va_W → Prop} (hw : zworld ks ad zuq zNS Psi) (hm : zMan l D cI cZ cB cJ cR ks ad Psi) : zMet l D cI cZ cB cJ cR zKS ks ad Psi yX5_refuseRow (.code yX5_refuseRow cX5_refuseRow 3 (some .int)) 1 zc_719 :=
  zmet_of hw 1 (by decide) 4000 zk_719 (by decide) (by decide) (fun X => ⟨zg_RX5 X, zp_RX5 X, zl1_RX5 X, zl2_RX5 X, nilz, (List.forall_mem_cons.mpr ⟨zq_RX5_115 X (zM_231 hw hm) (by decide) rfl rfl, (List.forall_mem_cons.mpr ⟨zq_RX5_250 X (zM_543 hw hm) (by decide) rfl rfl, (List.forall_mem_cons.mpr ⟨zq_RX5_321 X (zM_296 hw hm) (by decide) rfl rfl, (List.forall_mem_cons.mpr ⟨zq_RX5_328 X (zM_295 hw hm) (by decide) rfl rfl, nilz⟩)⟩)⟩)⟩)⟩)
set_option maxRecDepth 100000 in
theorem zk_720 : zmeth zKS zuq zNS zm_720 4000 = true := by decide +kernel
theorem zM_720 {l : Launch} {D : va_G} {cI cZ cB cJ cR : ClassId} {ks ad : List Nat} {Psi : va_W → Prop} (hw : zworld ks ad zuq zNS Psi) (hm : zMan l D cI cZ cB cJ cR ks ad Psi) : zMet l D cI cZ cB cJ cR zKS ks ad Psi yX5_refuseRow (.code yX5_refuseRow cX5_refuseRow 3 (some .int)) 1 zc_720 :=
  zmet_of hw 1 (by decide) 4000 zk_720 (by decide) (by decide) (fun X => ⟨zg_RX5 X, zp_RX5 X, zl1_RX5 X, zl2_RX5 X, nilz, (List.forall_mem_cons.mpr ⟨zq_RX5_115 X (zM_231 hw hm) (by decide) rfl rfl, (List.forall_mem_cons.mpr ⟨zq_RX5_250 X (zM_543 hw hm) (by decide) rfl rfl, (List.forall_mem_cons.mpr ⟨zq_RX5_321 X (zM_296 hw hm) (by decide) rfl rfl, (List.forall_mem_cons.mpr ⟨zq_RX5_328 X (zM_295 hw hm) (by decide) rfl rfl, nilz⟩)⟩)⟩)⟩)⟩)
set_option maxRecDepth 100000 in
theorem zk_721 : zmeth zKS zuq zNS zm_721 4000 = true := by decide +kernel
theorem zM_721 {l : Launch} {D : va_G} {cI cZ cB cJ cR : ClassId} {ks ad : List Nat} {Psi : va_W → Prop} (hw : zworld ks ad zuq zNS Psi) (hm : zMan l D cI cZ cB cJ cR ks ad Psi) : zMet l D cI cZ cB cJ cR zKS ks ad Psi yX5_refuseRow (.code yX5_refuseRow cX5_refuseRow 3 (some .int)) 1 zc_721 :=
  zmet_of hw 1 (by decide) 4000 zk_721 (by decide) (by decide) (fun X => ⟨zg_RX5 X, zp_RX5 X, zl1_RX5 X, zl2_RX5 X, nilz, (List.forall_mem_cons.mpr ⟨zq_RX5_115 X (zM_231 hw hm) (by decide) rfl rfl, (List.forall_mem_cons.mpr ⟨zq_RX5_250 X (zM_544 hw hm) (by decide) rfl rfl, (List.forall_mem_cons.mpr ⟨zq_RX5_321 X (zM_296 hw hm) (by decide) rfl rfl, (List.forall_mem_cons.mpr ⟨zq_RX5_328 X (zM_295 hw hm) (by decide) rfl rfl, nilz⟩)⟩)⟩)⟩)⟩)
set_option maxRecDepth 100000 in
theorem zk_722 : zmeth zKS zuq zNS zm_722 4000 = true := by decide +kernel
theorem zM_722 {l : Launch} {D : va_G} {cI cZ cB cJ cR : ClassId} {ks ad : List Nat} {Psi : va_W → Prop} (hw : zworld ks ad zuq zNS Psi) (hm : zMan l D cI cZ cB cJ cR ks ad Psi) : zMet l D cI cZ cB cJ cR zKS ks ad Psi yX5_refuseRow (.code yX5_refuseRow cX5_refuseRow 3 (some .int)) 1 zc_722 :=
  zmet_of hw 1 (by decide) 4000 zk_722 (by decide) (by decide) (fun X => ⟨zg_RX5 X, zp_RX5 X, zl1_RX5 X, zl2_RX5 X, nilz, (List.forall_mem_cons.mpr ⟨zq_RX5_115 X (zM_231 hw hm) (by decide) rfl rfl, (List.forall_mem_cons.mpr ⟨zq_RX5_250 X (zM_544 hw hm) (by decide) rfl rfl, (List.forall_mem_cons.mpr ⟨zq_RX5_321 X (zM_296 hw hm) (by decide) rfl rfl, (List.forall_mem_cons.mpr ⟨zq_RX5_328 X (zM_295 hw hm) (by decide) rfl rfl, nilz⟩)⟩)⟩)⟩)⟩)
set_option maxRecDepth 100000 in
theorem zk_723 : zmeth zKS zuq zNS zm_723 4000 = true := by decide +kernel
theorem zM_723 {l : Launch} {D : va_G} {cI cZ cB cJ cR : ClassId} {ks ad : List Nat} {Psi : va_W → Prop} (hw : zworld ks ad zuq zNS Psi) (hm : zMan l D cI cZ cB cJ cR ks ad Psi) : zMet l D cI cZ cB cJ cR zKS ks ad Psi yX5_refuseRow (.code yX5_refuseRow cX5_refuseRow 3 (some .int)) 1 zc_723 :=
  zmet_of hw 1 (by decide) 4000 zk_723 (by decide) (by decide) (fun X => ⟨zg_RX5 X, zp_RX5 X, zl1_RX5 X, zl2_RX5 X, nilz, (List.forall_mem_cons.mpr ⟨zq_RX5_321 X (zM_296 hw hm) (by decide) rfl rfl, nilz⟩)⟩)
set_option maxRecDepth 100000 in
theorem zk_724 : zmeth zKS zuq zNS zm_724 4000 = true := by decide +kernel
theorem zM_724 {l : Launch} {D : va_G} {cI cZ cB cJ cR : ClassId} {ks ad : List Nat} {Psi : va_W → Prop} (hw : zworld ks ad zuq zNS Psi) (hm : zMan l D cI cZ cB cJ cR ks ad Psi) : zMet l D cI cZ cB cJ cR zKS ks ad Psi yX5_refuseRow (.code yX5_refuseRow cX5_refuseRow 3 (some .int)) 1 zc_724 :=
  zmet_of hw 1 (by decide) 4000 zk_724 (by decide) (by decide) (fun X => ⟨zg_RX5 X, zp_RX5 X, zl1_RX5 X, zl2_RX5 X, nilz, (List.forall_mem_cons.mpr ⟨zq_RX5_321 X (zM_296 hw hm) (by decide) rfl rfl, nilz⟩)⟩)
set_option maxRecDepth 100000 in
theorem zk_746 : zmeth zKS zuq zNS zm_746 4000 = true := by decide +kernel
theorem zM_746 {l : Launch} {D : va_G} {cI cZ cB cJ cR : ClassId} {ks ad : List Nat} {Psi : va_W → Prop} (hw : zworld ks ad zuq zNS Psi) (hm : zMan l D cI cZ cB cJ cR ks ad Psi) : zMet l D cI cZ cB cJ cR zKS ks ad Psi yX5_swears (.code yX5_swears cX5_swears 2 (some .int)) 1 zc_746 :=
  zmet_of hw 1 (by decide) 4000 zk_746 (by decide) (by decide) (fun X => ⟨zg_RX5 X, zp_RX5 X, zl1_RX5 X, zl2_RX5 X, nilz, (List.forall_mem_cons.mpr ⟨zq_RX5_83 X (zM_247 hw hm) (by decide) rfl rfl, nilz⟩)⟩)
set_option maxRecDepth 100000 in
theorem zk_747 : zmeth zKS zuq zNS zm_747 4000 = true := by decide +kernel
theorem zM_747 {l : Launch} {D : va_G} {cI cZ cB cJ cR : ClassId} {ks ad : List Nat} {Psi : va_W → Prop} (hw : zworld ks ad zuq zNS Psi) (hm : zMan l D cI cZ cB cJ cR ks ad Psi) : zMet l D cI cZ cB cJ cR zKS ks ad Psi yX5_sworn (.code yX5_sworn cX5_sworn 2 (some .int)) 1 zc_747 :=
  zmet_of hw 1 (by decide) 4000 zk_747 (by decide) (by decide) (fun X => ⟨zg_RX5 X, zp_RX5 X, zl1_RX5 X, zl2_RX5 X, nilz, (List.forall_mem_cons.mpr ⟨zq_RX5_83 X (zM_247 hw hm) (by decide) rfl rfl, (List.forall_mem_cons.mpr ⟨zq_RX5_105 X (zM_267 hw hm) (by decide) rfl rfl, nilz⟩)⟩)⟩)
set_option maxRecDepth 100000 in
theorem zk_753 : zmeth zKS zuq zNS zm_753 4000 = true := by decide +kernel
theorem zM_753 {l : Launch} {D : va_G} {cI cZ cB cJ cR : ClassId} {ks ad : List Nat} {Psi : va_W → Prop} (hw : zworld ks ad zuq zNS Psi) (hm : zMan l D cI cZ cB cJ cR ks ad Psi) : zMet l D cI cZ cB cJ cR zKS ks ad Psi yX5_unsworn (.code yX5_unsworn cX5_unsworn 3 (some .int)) 1 zc_753 :=
  zmet_of hw 1 (by decide) 4000 zk_753 (by decide) (by decide) (fun X => ⟨zg_RX5 X, zp_RX5 X, zl1_RX5 X, zl2_RX5 X, nilz, (List.forall_mem_cons.mpr ⟨zq_RX5_105 X (zM_267 hw hm) (by decide) rfl rfl, (List.forall_mem_cons.mpr ⟨zq_RX5_115 X (zM_231 hw hm) (by decide) rfl rfl, nilz⟩)⟩)⟩)
set_option maxRecDepth 100000 in
theorem zk_766 : zmeth zKS zuq zNS zm_766 4000 = true := by decide +kernel
theorem zM_766 {l : Launch} {D : va_G} {cI cZ cB cJ cR : ClassId} {ks ad : List Nat} {Psi : va_W → Prop} (hw : zworld ks ad zuq zNS Psi) (hm : zMan l D cI cZ cB cJ cR ks ad Psi) : zMet l D cI cZ cB cJ cR zKS ks ad Psi yX6_anew (.code yX6_anew cX6_anew 2 (some .int)) 1 zc_766 :=
  zmet_of hw 1 (by decide) 4000 zk_766 (by decide) (by decide) (fun X => ⟨zg_RX6 X, zp_RX6 X, zl1_RX6 X, zl2_RX6 X, nilz, (List.forall_mem_cons.mpr ⟨zq_RX6_276 X (zM_858 hw hm) (by decide) rfl rfl, nilz⟩)⟩)
set_option maxRecDepth 100000 in
theorem zk_784 : zmeth zKS zuq zNS zm_784 4000 = true := by decide +kernel
theorem zM_784 {l : Launch} {D : va_G} {cI cZ cB cJ cR : ClassId} {ks ad : List Nat} {Psi : va_W → Prop} (hw : zworld ks ad zuq zNS Psi) (hm : zMan l D cI cZ cB cJ cR ks ad Psi) : zMet l D cI cZ cB cJ cR zKS ks ad Psi yX6_clears (.code yX6_clears cX6_clears 2 none) 1 zc_784 :=
  zmet_of hw 1 (by decide) 4000 zk_784 (by decide) (by decide) (fun X => ⟨zg_RX6 X, zp_RX6 X, zl1_RX6 X, zl2_RX6 X, nilz, (List.forall_mem_cons.mpr ⟨zq_RX6_164 X (zM_1074 hw hm) (by decide) rfl rfl, nilz⟩)⟩)
set_option maxRecDepth 100000 in
theorem zk_798 : zmeth zKS zuq zNS zm_798 4000 = true := by decide +kernel
theorem zM_798 {l : Launch} {D : va_G} {cI cZ cB cJ cR : ClassId} {ks ad : List Nat} {Psi : va_W → Prop} (hw : zworld ks ad zuq zNS Psi) (hm : zMan l D cI cZ cB cJ cR ks ad Psi) : zMet l D cI cZ cB cJ cR zKS ks ad Psi yX6_count (.code yX6_count cX6_count 4 (some .int)) 1 zc_798 :=
  zmet_of hw 1 (by decide) 4000 zk_798 (by decide) (by decide) (fun X => ⟨zg_RX6 X, zp_RX6 X, zl1_RX6 X, zl2_RX6 X, nilz, (List.forall_mem_cons.mpr ⟨zq_RX6_76 X (zM_843 hw hm) (by decide) rfl, nilz⟩)⟩)
set_option maxRecDepth 100000 in
theorem zk_805 : zmeth zKS zuq zNS zm_805 4000 = true := by decide +kernel
theorem zM_805 {l : Launch} {D : va_G} {cI cZ cB cJ cR : ClassId} {ks ad : List Nat} {Psi : va_W → Prop} (hw : zworld ks ad zuq zNS Psi) (hm : zMan l D cI cZ cB cJ cR ks ad Psi) : zMet l D cI cZ cB cJ cR zKS ks ad Psi yX6_draws (.code yX6_draws cX6_draws 7 (some .int)) 1 zc_805 :=
  zmet_of hw 1 (by decide) 4000 zk_805 (by decide) (by decide) (fun X => ⟨zg_RX6 X, zp_RX6 X, zl1_RX6 X, zl2_RX6 X, nilz, (List.forall_mem_cons.mpr ⟨zq_RX6_231 X (zM_833 hw hm) (by decide) rfl rfl, nilz⟩)⟩)
set_option maxRecDepth 100000 in
theorem zk_806 : zmeth zKS zuq zNS zm_806 4000 = true := by decide +kernel
theorem zM_806 {l : Launch} {D : va_G} {cI cZ cB cJ cR : ClassId} {ks ad : List Nat} {Psi : va_W → Prop} (hw : zworld ks ad zuq zNS Psi) (hm : zMan l D cI cZ cB cJ cR ks ad Psi) : zMet l D cI cZ cB cJ cR zKS ks ad Psi yX6_end (.code yX6_end cX6_end 2 (some .int)) 1 zc_806 :=
  zmet_of hw 1 (by decide) 4000 zk_806 (by decide) (by decide) (fun X => ⟨zg_RX6 X, zp_RX6 X, zl1_RX6 X, zl2_RX6 X, nilz, (List.forall_mem_cons.mpr ⟨zq_RX6_76 X (zM_837 hw hm) (by decide) rfl, nilz⟩)⟩)
set_option maxRecDepth 100000 in
theorem zk_815 : zmeth zKS zuq zNS zm_815 4000 = true := by decide +kernel
theorem zM_815 {l : Launch} {D : va_G} {cI cZ cB cJ cR : ClassId} {ks ad : List Nat} {Psi : va_W → Prop} (hw : zworld ks ad zuq zNS Psi) (hm : zMan l D cI cZ cB cJ cR ks ad Psi) : zMet l D cI cZ cB cJ cR zKS ks ad Psi yX6_feed (.code yX6_feed cX6_feed 6 (some .int)) 1 zc_815 :=
  zmet_of hw 1 (by decide) 4000 zk_815 (by decide) (by decide) (fun X => ⟨zg_RX6 X, zp_RX6 X, zl1_RX6 X, zl2_RX6 X, nilz, (List.forall_mem_cons.mpr ⟨zq_RX6_91 X (zM_818 hw hm) (by decide) rfl rfl, nilz⟩)⟩)
set_option maxRecDepth 100000 in
theorem zk_862 : zmeth zKS zuq zNS zm_862 4000 = true := by decide +kernel
theorem zM_862 {l : Launch} {D : va_G} {cI cZ cB cJ cR : ClassId} {ks ad : List Nat} {Psi : va_W → Prop} (hw : zworld ks ad zuq zNS Psi) (hm : zMan l D cI cZ cB cJ cR ks ad Psi) : zMet l D cI cZ cB cJ cR zKS ks ad Psi yX6_isHalf (.code yX6_isHalf cX6_isHalf 1 (some .boolean)) 1 zc_862 :=
  zmet_of hw 1 (by decide) 4000 zk_862 (by decide) (by decide) (fun X => ⟨zg_RX6 X, zp_RX6 X, zl1_RX6 X, zl2_RX6 X, nilz, (List.forall_mem_cons.mpr ⟨zq_RX6_76 X (zM_854 hw hm) (by decide) rfl, nilz⟩)⟩)
set_option maxRecDepth 100000 in
theorem zk_863 : zmeth zKS zuq zNS zm_863 4000 = true := by decide +kernel
theorem zM_863 {l : Launch} {D : va_G} {cI cZ cB cJ cR : ClassId} {ks ad : List Nat} {Psi : va_W → Prop} (hw : zworld ks ad zuq zNS Psi) (hm : zMan l D cI cZ cB cJ cR ks ad Psi) : zMet l D cI cZ cB cJ cR zKS ks ad Psi yX6_isHour (.code yX6_isHour cX6_isHour 3 (some .boolean)) 1 zc_863 :=
  zmet_of hw 1 (by decide) 4000 zk_863 (by decide) (by decide) (fun X => ⟨zg_RX6 X, zp_RX6 X, zl1_RX6 X, zl2_RX6 X, nilz, (List.forall_mem_cons.mpr ⟨zq_RX6_76 X (zM_851 hw hm) (by decide) rfl, (List.forall_mem_cons.mpr ⟨zq_RX6_231 X (zM_833 hw hm) (by decide) rfl rfl, nilz⟩)⟩)⟩)
set_option maxRecDepth 100000 in
theorem zk_865 : zmeth zKS zuq zNS zm_865 4000 = true := by decide +kernel
theorem zM_865 {l : Launch} {D : va_G} {cI cZ cB cJ cR : ClassId} {ks ad : List Nat} {Psi : va_W → Prop} (hw : zworld ks ad zuq zNS Psi) (hm : zMan l D cI cZ cB cJ cR ks ad Psi) : zMet l D cI cZ cB cJ cR zKS ks ad Psi yX6_isPerson (.code yX6_isPerson cX6_isPerson 3 (some .boolean)) 1 zc_865 :=
  zmet_of hw 1 (by decide) 4000 zk_865 (by decide) (by decide) (fun X => ⟨zg_RX6 X, zp_RX6 X, zl1_RX6 X, zl2_RX6 X, nilz, (List.forall_mem_cons.mpr ⟨zq_RX6_76 X (zM_852 hw hm) (by decide) rfl, (List.forall_mem_cons.mpr ⟨zq_RX6_227 X (zM_996 hw hm) (by decide) rfl rfl, nilz⟩)⟩)⟩)
set_option maxRecDepth 100000 in
theorem zk_866 : zmeth zKS zuq zNS zm_866 4000 = true := by decide +kernel
theorem zM_866 {l : Launch} {D : va_G} {cI cZ cB cJ cR : ClassId} {ks ad : List Nat} {Psi : va_W → Prop} (hw : zworld ks ad zuq zNS Psi) (hm : zMan l D cI cZ cB cJ cR ks ad Psi) : zMet l D cI cZ cB cJ cR zKS ks ad Psi yX6_isPlace (.code yX6_isPlace cX6_isPlace 3 (some .boolean)) 1 zc_866 :=
  zmet_of hw 1 (by decide) 4000 zk_866 (by decide) (by decide) (fun X => ⟨zg_RX6 X, zp_RX6 X, zl1_RX6 X, zl2_RX6 X, nilz, (List.forall_mem_cons.mpr ⟨zq_RX6_76 X (zM_853 hw hm) (by decide) rfl, nilz⟩)⟩)
set_option maxRecDepth 100000 in
theorem zk_867 : zmeth zKS zuq zNS zm_867 4000 = true := by decide +kernel
theorem zM_867 {l : Launch} {D : va_G} {cI cZ cB cJ cR : ClassId} {ks ad : List Nat} {Psi : va_W → Prop} (hw : zworld ks ad zuq zNS Psi) (hm : zMan l D cI cZ cB cJ cR ks ad Psi) : zMet l D cI cZ cB cJ cR zKS ks ad Psi yX6_isSeed (.code yX6_isSeed cX6_isSeed 2 (some .boolean)) 1 zc_867 :=
  zmet_of hw 1 (by decide) 4000 zk_867 (by decide) (by decide) (fun X => ⟨zg_RX6 X, zp_RX6 X, zl1_RX6 X, zl2_RX6 X, nilz, (List.forall_mem_cons.mpr ⟨zq_RX6_76 X (zM_840 hw hm) (by decide) rfl, (List.forall_mem_cons.mpr ⟨zq_RX6_276 X (zM_858 hw hm) (by decide) rfl rfl, nilz⟩)⟩)⟩)
set_option maxRecDepth 100000 in
theorem zk_870 : zmeth zKS zuq zNS zm_870 4000 = true := by decide +kernel
theorem zM_870 {l : Launch} {D : va_G} {cI cZ cB cJ cR : ClassId} {ks ad : List Nat} {Psi : va_W → Prop} (hw : zworld ks ad zuq zNS Psi) (hm : zMan l D cI cZ cB cJ cR ks ad Psi) : zMet l D cI cZ cB cJ cR zKS ks ad Psi yX6_isSlot (.code yX6_isSlot cX6_isSlot 1 (some .boolean)) 1 zc_870 :=
  zmet_of hw 1 (by decide) 4000 zk_870 (by decide) (by decide) (fun X => ⟨zg_RX6 X, zp_RX6 X, zl1_RX6 X, zl2_RX6 X, nilz, (List.forall_mem_cons.mpr ⟨zq_RX6_76 X (zM_841 hw hm) (by decide) rfl, nilz⟩)⟩)
set_option maxRecDepth 100000 in
theorem zk_973 : zmeth zKS zuq zNS zm_973 4000 = true := by decide +kernel
theorem zM_973 {l : Launch} {D : va_G} {cI cZ cB cJ cR : ClassId} {ks ad : List Nat} {Psi : va_W → Prop} (hw : zworld ks ad zuq zNS Psi) (hm : zMan l D cI cZ cB cJ cR ks ad Psi) : zMet l D cI cZ cB cJ cR zKS ks ad Psi yX6_next (.code yX6_next cX6_next 2 none) 1 zc_973 :=
  zmet_of hw 1 (by decide) 4000 zk_973 (by decide) (by decide) (fun X => ⟨zg_RX6 X, zp_RX6 X, zl1_RX6 X, zl2_RX6 X, nilz, (List.forall_mem_cons.mpr ⟨zq_RX6_98 X (zM_857 hw hm) (by decide) rfl rfl, nilz⟩)⟩)
set_option maxRecDepth 100000 in
theorem zk_1052 : zmeth zKS zuq zNS zm_1052 4000 = true := by decide +kernel
theorem zM_1052 {l : Launch} {D : va_G} {cI cZ cB cJ cR : ClassId} {ks ad : List Nat} {Psi : va_W → Prop} (hw : zworld ks ad zuq zNS Psi) (hm : zMan l D cI cZ cB cJ cR ks ad Psi) : zMet l D cI cZ cB cJ cR zKS ks ad Psi yX6_seesTo (.code yX6_seesTo cX6_seesTo 4 (some .boolean)) 1 zc_1052 :=
  zmet_of hw 1 (by decide) 4000 zk_1052 (by decide) (by decide) (fun X => ⟨zg_RX6 X, zp_RX6 X, zl1_RX6 X, zl2_RX6 X, nilz, (List.forall_mem_cons.mpr ⟨zq_RX6_237 X (zM_813 hw hm) (by decide) rfl, (List.forall_mem_cons.mpr ⟨zq_RX6_240 X (zM_856 hw hm) (by decide) rfl, nilz⟩)⟩)⟩)
set_option maxRecDepth 100000 in
theorem zk_1060 : zmeth zKS zuq zNS zm_1060 4000 = true := by decide +kernel
theorem zM_1060 {l : Launch} {D : va_G} {cI cZ cB cJ cR : ClassId} {ks ad : List Nat} {Psi : va_W → Prop} (hw : zworld ks ad zuq zNS Psi) (hm : zMan l D cI cZ cB cJ cR ks ad Psi) : zMet l D cI cZ cB cJ cR zKS ks ad Psi yX6_swornTo (.code yX6_swornTo cX6_swornTo 4 (some .int)) 1 zc_1060 :=
  zmet_of hw 1 (by decide) 4000 zk_1060 (by decide) (by decide) (fun X => ⟨zg_RX6 X, zp_RX6 X, zl1_RX6 X, zl2_RX6 X, nilz, (List.forall_mem_cons.mpr ⟨zq_RX6_227 X (zM_996 hw hm) (by decide) rfl rfl, nilz⟩)⟩)
set_option maxRecDepth 100000 in
theorem zk_1062 : zmeth zKS zuq zNS zm_1062 4000 = true := by decide +kernel
theorem zM_1062 {l : Launch} {D : va_G} {cI cZ cB cJ cR : ClassId} {ks ad : List Nat} {Psi : va_W → Prop} (hw : zworld ks ad zuq zNS Psi) (hm : zMan l D cI cZ cB cJ cR ks ad Psi) : zMet l D cI cZ cB cJ cR zKS ks ad Psi yX6_tell (.code yX6_tell cX6_tell 4 (some .int)) 1 zc_1062 :=
  zmet_of hw 1 (by decide) 4000 zk_1062 (by decide) (by decide) (fun X => ⟨zg_RX6 X, zp_RX6 X, zl1_RX6 X, zl2_RX6 X, nilz, (List.forall_mem_cons.mpr ⟨zq_RX6_76 X (zM_841 hw hm) (by decide) rfl, (List.forall_mem_cons.mpr ⟨zq_RX6_76 X (zM_844 hw hm) (by decide) rfl, (List.forall_mem_cons.mpr ⟨zq_RX6_76 X (zM_845 hw hm) (by decide) rfl, (List.forall_mem_cons.mpr ⟨zq_RX6_76 X (zM_850 hw hm) (by decide) rfl, (List.forall_mem_cons.mpr ⟨zq_RX6_276 X (zM_858 hw hm) (by decide) rfl rfl, nilz⟩)⟩)⟩)⟩)⟩)⟩)
set_option maxRecDepth 100000 in
theorem zk_1088 : zmeth zKS zuq zNS zm_1088 4000 = true := by decide +kernel
theorem zM_1088 {l : Launch} {D : va_G} {cI cZ cB cJ cR : ClassId} {ks ad : List Nat} {Psi : va_W → Prop} (hw : zworld ks ad zuq zNS Psi) (hm : zMan l D cI cZ cB cJ cR ks ad Psi) : zMet l D cI cZ cB cJ cR zKS ks ad Psi yX6_undo (.code yX6_undo cX6_undo 1 (some .int)) 1 zc_1088 :=
  zmet_of hw 1 (by decide) 4000 zk_1088 (by decide) (by decide) (fun X => ⟨zg_RX6 X, zp_RX6 X, zl1_RX6 X, zl2_RX6 X, nilz, (List.forall_mem_cons.mpr ⟨zq_RX6_276 X (zM_858 hw hm) (by decide) rfl rfl, nilz⟩)⟩)
set_option maxRecDepth 100000 in
theorem zk_230 : zmeth zKS zuq zNS zm_230 4000 = true := by decide +kernel
theorem zM_230 {l : Launch} {D : va_G} {cI cZ cB cJ cR : ClassId} {ks ad : List Nat} {Psi : va_W → Prop} (hw : zworld ks ad zuq zNS Psi) (hm : zMan l D cI cZ cB cJ cR ks ad Psi) : zMet l D cI cZ cB cJ cR zKS ks ad Psi yX0_envies (.code yX0_envies cX0_envies 5 (some .boolean)) 2 zc_230 :=
  zmet_of hw 2 (by decide) 4000 zk_230 (by decide) (by decide) (fun X => ⟨zg_RX0 X, zp_RX0 X, zl1_RX0 X, zl2_RX0 X, nilz, (List.forall_mem_cons.mpr ⟨zq_RX0_144 X (zM_243 hw hm) (by decide) rfl rfl, nilz⟩)⟩)
set_option maxRecDepth 100000 in
theorem zk_234 : zmeth zKS zuq zNS zm_234 4000 = true := by decide +kernel
theorem zM_234 {l : Launch} {D : va_G} {cI cZ cB cJ cR : ClassId} {ks ad : List Nat} {Psi : va_W → Prop} (hw : zworld ks ad zuq zNS Psi) (hm : zMan l D cI cZ cB cJ cR ks ad Psi) : zMet l D cI cZ cB cJ cR zKS ks ad Psi yX0_fogGapBits (.code yX0_fogGapBits cX0_fogGapBits 5 (some .int)) 2 zc_234 :=
  zmet_of hw 2 (by decide) 4000 zk_234 (by decide) (by decide) (fun X => ⟨zg_RX0 X, zp_RX0 X, zl1_RX0 X, zl2_RX0 X, nilz, (List.forall_mem_cons.mpr ⟨zq_RX0_65 X (zM_256 hw hm) (by decide) rfl rfl, (List.forall_mem_cons.mpr ⟨zq_RX0_76 X (zM_242 hw hm) (by decide) rfl rfl, (List.forall_mem_cons.mpr ⟨zq_RX0_111 X (zM_224 hw hm) (by decide) rfl rfl, nilz⟩)⟩)⟩)⟩)
set_option maxRecDepth 100000 in
theorem zk_236 : zmeth zKS zuq zNS zm_236 4000 = true := by decide +kernel
theorem zM_236 {l : Launch} {D : va_G} {cI cZ cB cJ cR : ClassId} {ks ad : List Nat} {Psi : va_W → Prop} (hw : zworld ks ad zuq zNS Psi) (hm : zMan l D cI cZ cB cJ cR ks ad Psi) : zMet l D cI cZ cB cJ cR zKS ks ad Psi yX0_gapBits (.code yX0_gapBits cX0_gapBits 4 (some .int)) 2 zc_236 :=
  zmet_of hw 2 (by decide) 4000 zk_236 (by decide) (by decide) (fun X => ⟨zg_RX0 X, zp_RX0 X, zl1_RX0 X, zl2_RX0 X, nilz, (List.forall_mem_cons.mpr ⟨zq_RX0_95 X (zM_260 hw hm) (by decide) rfl rfl, (List.forall_mem_cons.mpr ⟨zq_RX0_111 X (zM_224 hw hm) (by decide) rfl rfl, nilz⟩)⟩)⟩)
set_option maxRecDepth 100000 in
theorem zk_244 : zmeth zKS zuq zNS zm_244 4000 = true := by decide +kernel
theorem zM_244 {l : Launch} {D : va_G} {cI cZ cB cJ cR : ClassId} {ks ad : List Nat} {Psi : va_W → Prop} (hw : zworld ks ad zuq zNS Psi) (hm : zMan l D cI cZ cB cJ cR ks ad Psi) : zMet l D cI cZ cB cJ cR zKS ks ad Psi yX0_inSight (.code yX0_inSight cX0_inSight 5 (some .int)) 2 zc_244 :=
  zmet_of hw 2 (by decide) 4000 zk_244 (by decide) (by decide) (fun X => ⟨zg_RX0 X, zp_RX0 X, zl1_RX0 X, zl2_RX0 X, nilz, (List.forall_mem_cons.mpr ⟨zq_RX0_107 X (zM_263 hw hm) (by decide) rfl rfl, nilz⟩)⟩)
set_option maxRecDepth 100000 in
theorem zk_252 : zmeth zKS zuq zNS zm_252 4000 = true := by decide +kernel
theorem zM_252 {l : Launch} {D : va_G} {cI cZ cB cJ cR : ClassId} {ks ad : List Nat} {Psi : va_W → Prop} (hw : zworld ks ad zuq zNS Psi) (hm : zMan l D cI cZ cB cJ cR ks ad Psi) : zMet l D cI cZ cB cJ cR zKS ks ad Psi yX0_look (.code yX0_look cX0_look 5 none) 2 zc_252 :=
  zmet_of hw 2 (by decide) 4000 zk_252 (by decide) (by decide) (fun X => ⟨zg_RX0 X, zp_RX0 X, zl1_RX0 X, zl2_RX0 X, nilz, (List.forall_mem_cons.mpr ⟨zq_RX0_65 X (zM_256 hw hm) (by decide) rfl rfl, (List.forall_mem_cons.mpr ⟨zq_RX0_76 X (zM_242 hw hm) (by decide) rfl rfl, (List.forall_mem_cons.mpr ⟨zq_RX0_91 X (zM_258 hw hm) (by decide) rfl rfl, nilz⟩)⟩)⟩)⟩)
set_option maxRecDepth 100000 in
theorem zk_259 : zmeth zKS zuq zNS zm_259 4000 = true := by decide +kernel
theorem zM_259 {l : Launch} {D : va_G} {cI cZ cB cJ cR : ClassId} {ks ad : List Nat} {Psi : va_W → Prop} (hw : zworld ks ad zuq zNS Psi) (hm : zMan l D cI cZ cB cJ cR ks ad Psi) : zMet l D cI cZ cB cJ cR zKS ks ad Psi yX0_ringOf (.code yX0_ringOf cX0_ringOf 4 (some .int)) 2 zc_259 :=
  zmet_of hw 2 (by decide) 4000 zk_259 (by decide) (by decide) (fun X => ⟨zg_RX0 X, zp_RX0 X, zl1_RX0 X, zl2_RX0 X, nilz, (List.forall_mem_cons.mpr ⟨zq_RX0_72 X (zM_247 hw hm) (by decide) rfl rfl, (List.forall_mem_cons.mpr ⟨zq_RX0_141 X (zM_226 hw hm) (by decide) rfl rfl, nilz⟩)⟩)⟩)
set_option maxRecDepth 100000 in
theorem zk_261 : zmeth zKS zuq zNS zm_261 4000 = true := by decide +kernel
theorem zM_261 {l : Launch} {D : va_G} {cI cZ cB cJ cR : ClassId} {ks ad : List Nat} {Psi : va_W → Prop} (hw : zworld ks ad zuq zNS Psi) (hm : zMan l D cI cZ cB cJ cR ks ad Psi) : zMet l D cI cZ cB cJ cR zKS ks ad Psi yX0_seenBitsIfHome (.code yX0_seenBitsIfHome cX0_seenBitsIfHome 7 (some .int)) 2 zc_261 :=
  zmet_of hw 2 (by decide) 4000 zk_261 (by decide) (by decide) (fun X => ⟨zg_RX0 X, zp_RX0 X, zl1_RX0 X, zl2_RX0 X, nilz, (List.forall_mem_cons.mpr ⟨zq_RX0_65 X (zM_256 hw hm) (by decide) rfl rfl, (List.forall_mem_cons.mpr ⟨zq_RX0_76 X (zM_242 hw hm) (by decide) rfl rfl, (List.forall_mem_cons.mpr ⟨zq_RX0_91 X (zM_258 hw hm) (by decide) rfl rfl, (List.forall_mem_cons.mpr ⟨zq_RX0_95 X (zM_260 hw hm) (by decide) rfl rfl, nilz⟩)⟩)⟩)⟩)⟩)
set_option maxRecDepth 100000 in
theorem zk_269 : zmeth zKS zuq zNS zm_269 4000 = true := by decide +kernel
theorem zM_269 {l : Launch} {D : va_G} {cI cZ cB cJ cR : ClassId} {ks ad : List Nat} {Psi : va_W → Prop} (hw : zworld ks ad zuq zNS Psi) (hm : zMan l D cI cZ cB cJ cR ks ad Psi) : zMet l D cI cZ cB cJ cR zKS ks ad Psi yX0_watchers (.code yX0_watchers cX0_watchers 5 (some .int)) 2 zc_269 :=
  zmet_of hw 2 (by decide) 4000 zk_269 (by decide) (by decide) (fun X => ⟨zg_RX0 X, zp_RX0 X, zl1_RX0 X, zl2_RX0 X, nilz, (List.forall_mem_cons.mpr ⟨zq_RX0_65 X (zM_256 hw hm) (by decide) rfl rfl, (List.forall_mem_cons.mpr ⟨zq_RX0_91 X (zM_258 hw hm) (by decide) rfl rfl, nilz⟩)⟩)⟩)
set_option maxRecDepth 100000 in
theorem zk_270 : zmeth zKS zuq zNS zm_270 4000 = true := by decide +kernel
theorem zM_270 {l : Launch} {D : va_G} {cI cZ cB cJ cR : ClassId} {ks ad : List Nat} {Psi : va_W → Prop} (hw : zworld ks ad zuq zNS Psi) (hm : zMan l D cI cZ cB cJ cR ks ad Psi) : zMet l D cI cZ cB cJ cR zKS ks ad Psi yX1_fewestSteps (.code yX1_fewestSteps cX1_fewestSteps 4 (some .int)) 2 zc_270 :=
  zmet_of hw 2 (by decide) 4000 zk_270 (by decide) (by decide) (fun X => ⟨zg_RX1 X, zp_RX1 X, zl1_RX1 X, zl2_RX1 X, nilz, (List.forall_mem_cons.mpr ⟨zq_RX1_76 X (zM_274 hw hm) (by decide) rfl rfl, nilz⟩)⟩)
