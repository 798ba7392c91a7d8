set_option maxRecDepth 100000 in
theorem zk_1185 : zmeth zKS zuq zNS zm_1185 4000 = true := by decide +kernel
theorem zM_1185 {l : Launch} {D : va_G} {cI cZ cB cJ cR : ClassId} {ks ad : List Nat} {Psi : va_W → Prop} (hw : zworld ks ad zuq zNS Psi) (hm : zMan l D cI cZ cB cJ cR ks ad Psi) : zMet l D cI cZ cB cJ cR zKS ks ad Psi yX6_witness (.code yX6_witness cX6_witness 3 (some .int)) 5 zc_1185 :=
  zmet_of hw 5 (by decide) 4000 zk_1185 (by decide) (by decide) (fun X => ⟨zg_RX6 X, zp_RX6 X, zl1_RX6 X, zl2_RX6 X, nilz, (List.forall_mem_cons.mpr ⟨zq_RX6_267 X (zM_928 hw hm) (by decide) rfl rfl, (List.forall_mem_cons.mpr ⟨zq_RX6_270 X (zman_1017 hm) (by decide) rfl rfl, (List.forall_mem_cons.mpr ⟨zq_RX6_322 X (zM_931 hw hm) (by decide) rfl rfl, (List.forall_mem_cons.mpr ⟨zq_RX6_325 X (zM_1186 hw hm) (by decide) rfl rfl, nilz⟩)⟩)⟩)⟩)⟩)
set_option maxRecDepth 100000 in
theorem zk_632 : zmeth zKS zuq zNS zm_632 4000 = true := by decide +kernel
theorem zM_632 {l : Launch} {D : va_G} {cI cZ cB cJ cR : ClassId} {ks ad : List Nat} {Psi : va_W → Prop} (hw : zworld ks ad zuq zNS Psi) (hm : zMan l D cI cZ cB cJ cR ks ad Psi) : zMet l D cI cZ cB cJ cR zKS ks ad Psi yX5_ask (.code yX5_ask cX5_ask 3 (some .int)) 6 zc_632 :=
  zmet_of hw 6 (by decide) 4000 zk_632 (by decide) (by decide) (fun X => ⟨zg_RX5 X, zp_RX5 X, zl1_RX5 X, zl2_RX5 X, nilz, (List.forall_mem_cons.mpr ⟨zq_RX5_230 X (zM_767 hw hm) (by decide) rfl rfl, (List.forall_mem_cons.mpr ⟨zq_RX5_230 X (zM_768 hw hm) (by decide) rfl rfl, (List.forall_mem_cons.mpr ⟨zq_RX5_230 X (zM_769 hw hm) (by decide) rfl rfl, (List.forall_mem_cons.mpr ⟨zq_RX5_230 X (zM_770 hw hm) (by decide) rfl rfl, (List.forall_mem_cons.mpr ⟨zq_RX5_230 X (zM_771 hw hm) (by decide) rfl rfl, (List.forall_mem_cons.mpr ⟨zq_RX5_230 X (zM_766 hw hm) (by decide) rfl rfl, (List.forall_mem_cons.mpr ⟨zq_RX5_236 X (zM_636 hw hm) (by decide) rfl rfl, (List.forall_mem_cons.mpr ⟨zq_RX5_236 X (zM_637 hw hm) (by decide) rfl rfl, (List.forall_mem_cons.mpr ⟨zq_RX5_236 X (zM_638 hw hm) (by decide) rfl rfl, (List.forall_mem_cons.mpr ⟨zq_RX5_236 X (zM_639 hw hm) (by decide) rfl rfl, nilz⟩)⟩)⟩)⟩)⟩)⟩)⟩)⟩)⟩)⟩)⟩)
set_option maxRecDepth 100000 in
theorem zk_635 : zmeth zKS zuq zNS zm_635 4000 = true := by decide +kernel
theorem zM_635 {l : Launch} {D : va_G} {cI cZ cB cJ cR : ClassId} {ks ad : List Nat} {Psi : va_W → Prop} (hw : zworld ks ad zuq zNS Psi) (hm : zMan l D cI cZ cB cJ cR ks ad Psi) : zMet l D cI cZ cB cJ cR zKS ks ad Psi yX5_best (.code yX5_best cX5_best 1 (some .int)) 6 zc_635 :=
  zmet_of hw 6 (by decide) 4000 zk_635 (by decide) (by decide) (fun X => ⟨zg_RX5 X, zp_RX5 X, zl1_RX5 X, zl2_RX5 X, nilz, (List.forall_mem_cons.mpr ⟨zq_RX5_115 X (zM_287 hw hm) (by decide) rfl rfl, (List.forall_mem_cons.mpr ⟨zq_RX5_154 X (zM_805 hw hm) (by decide) rfl rfl, nilz⟩)⟩)⟩)
set_option maxRecDepth 100000 in
theorem zk_645 : zmeth zKS zuq zNS zm_645 4000 = true := by decide +kernel
theorem zM_645 {l : Launch} {D : va_G} {cI cZ cB cJ cR : ClassId} {ks ad : List Nat} {Psi : va_W → Prop} (hw : zworld ks ad zuq zNS Psi) (hm : zMan l D cI cZ cB cJ cR ks ad Psi) : zMet l D cI cZ cB cJ cR zKS ks ad Psi yX5_clean (.code yX5_clean cX5_clean 1 (some .int)) 6 zc_645 :=
  zmet_of hw 6 (by decide) 4000 zk_645 (by decide) (by decide) (fun X => ⟨zg_RX5 X, zp_RX5 X, zl1_RX5 X, zl2_RX5 X, nilz, (List.forall_mem_cons.mpr ⟨zq_RX5_115 X (zM_287 hw hm) (by decide) rfl rfl, (List.forall_mem_cons.mpr ⟨zq_RX5_154 X (zM_805 hw hm) (by decide) rfl rfl, nilz⟩)⟩)⟩)
set_option maxRecDepth 100000 in
theorem zk_660 : zmeth zKS zuq zNS zm_660 4000 = true := by decide +kernel
theorem zM_660 {l : Launch} {D : va_G} {cI cZ cB cJ cR : ClassId} {ks ad : List Nat} {Psi : va_W → Prop} (hw : zworld ks ad zuq zNS Psi) (hm : zMan l D cI cZ cB cJ cR ks ad Psi) : zMet l D cI cZ cB cJ cR zKS ks ad Psi yX5_fair (.code yX5_fair cX5_fair 1 (some .int)) 6 zc_660 :=
  zmet_of hw 6 (by decide) 4000 zk_660 (by decide) (by decide) (fun X => ⟨zg_RX5 X, zp_RX5 X, zl1_RX5 X, zl2_RX5 X, nilz, (List.forall_mem_cons.mpr ⟨zq_RX5_115 X (zM_287 hw hm) (by decide) rfl rfl, (List.forall_mem_cons.mpr ⟨zq_RX5_154 X (zM_805 hw hm) (by decide) rfl rfl, nilz⟩)⟩)⟩)
set_option maxRecDepth 100000 in
theorem zk_754 : zmeth zKS zuq zNS zm_754 4000 = true := by decide +kernel
theorem zM_754 {l : Launch} {D : va_G} {cI cZ cB cJ cR : ClassId} {ks ad : List Nat} {Psi : va_W → Prop} (hw : zworld ks ad zuq zNS Psi) (hm : zMan l D cI cZ cB cJ cR ks ad Psi) : zMet l D cI cZ cB cJ cR zKS ks ad Psi yX5_leaves (.code yX5_leaves cX5_leaves 5 (some .int)) 6 zc_754 :=
  zmet_of hw 6 (by decide) 4000 zk_754 (by decide) (by decide) (fun X => ⟨zg_RX5 X, zp_RX5 X, zl1_RX5 X, zl2_RX5 X, nilz, (List.forall_mem_cons.mpr ⟨zq_RX5_149 X (zM_0 hw hm) (by decide) rfl, (List.forall_mem_cons.mpr ⟨zq_RX5_230 X (zM_767 hw hm) (by decide) rfl rfl, (List.forall_mem_cons.mpr ⟨zq_RX5_230 X (zM_768 hw hm) (by decide) rfl rfl, (List.forall_mem_cons.mpr ⟨zq_RX5_230 X (zM_769 hw hm) (by decide) rfl rfl, (List.forall_mem_cons.mpr ⟨zq_RX5_230 X (zM_770 hw hm) (by decide) rfl rfl, (List.forall_mem_cons.mpr ⟨zq_RX5_230 X (zM_771 hw hm) (by decide) rfl rfl, (List.forall_mem_cons.mpr ⟨zq_RX5_230 X (zM_766 hw hm) (by decide) rfl rfl, (List.forall_mem_cons.mpr ⟨zq_RX5_233 X (zM_806 hw hm) (by decide) rfl rfl, (List.forall_mem_cons.mpr ⟨zq_RX5_233 X (zM_807 hw hm) (by decide) rfl rfl, (List.forall_mem_cons.mpr ⟨zq_RX5_233 X (zM_808 hw hm) (by decide) rfl rfl, (List.forall_mem_cons.mpr ⟨zq_RX5_233 X (zM_809 hw hm) (by decide) rfl rfl, (List.forall_mem_cons.mpr ⟨zq_RX5_236 X (zM_636 hw hm) (by decide) rfl rfl, (List.forall_mem_cons.mpr ⟨zq_RX5_236 X (zM_637 hw hm) (by decide) rfl rfl, (List.forall_mem_cons.mpr ⟨zq_RX5_236 X (zM_638 hw hm) (by decide) rfl rfl, (List.forall_mem_cons.mpr ⟨zq_RX5_236 X (zM_639 hw hm) (by decide) rfl rfl, (List.forall_mem_cons.mpr ⟨zq_RX5_239 X (zM_356 hw hm) (by decide) rfl rfl, (List.forall_mem_cons.mpr ⟨zq_RX5_239 X (zM_416 hw hm) (by decide) rfl rfl, (List.forall_mem_cons.mpr ⟨zq_RX5_239 X (zM_476 hw hm) (by decide) rfl rfl, (List.forall_mem_cons.mpr ⟨zq_RX5_239 X (zM_536 hw hm) (by decide) rfl rfl, (List.forall_mem_cons.mpr ⟨zq_RX5_243 X (zM_755 hw hm) (by decide) rfl rfl, nilz⟩)⟩)⟩)⟩)⟩)⟩)⟩)⟩)⟩)⟩)⟩)⟩)⟩)⟩)⟩)⟩)⟩)⟩)⟩)⟩)⟩)
set_option maxRecDepth 100000 in
theorem zk_798 : zmeth zKS zuq zNS zm_798 4000 = true := by decide +kernel
theorem zM_798 {l : Launch} {D : va_G} {cI cZ cB cJ cR : ClassId} {ks ad : List Nat} {Psi : va_W → Prop} (hw : zworld ks ad zuq zNS Psi) (hm : zMan l D cI cZ cB cJ cR ks ad Psi) : zMet l D cI cZ cB cJ cR zKS ks ad Psi yX5_rota (.code yX5_rota cX5_rota 2 (some .int)) 6 zc_798 :=
  zmet_of hw 6 (by decide) 4000 zk_798 (by decide) (by decide) (fun X => ⟨zg_RX5 X, zp_RX5 X, zl1_RX5 X, zl2_RX5 X, nilz, (List.forall_mem_cons.mpr ⟨zq_RX5_83 X (zM_303 hw hm) (by decide) rfl rfl, (List.forall_mem_cons.mpr ⟨zq_RX5_154 X (zM_805 hw hm) (by decide) rfl rfl, nilz⟩)⟩)⟩)
set_option maxRecDepth 100000 in
theorem zk_804 : zmeth zKS zuq zNS zm_804 4000 = true := by decide +kernel
theorem zM_804 {l : Launch} {D : va_G} {cI cZ cB cJ cR : ClassId} {ks ad : List Nat} {Psi : va_W → Prop} (hw : zworld ks ad zuq zNS Psi) (hm : zMan l D cI cZ cB cJ cR ks ad Psi) : zMet l D cI cZ cB cJ cR zKS ks ad Psi yX5_surely (.code yX5_surely cX5_surely 4 (some .int)) 6 zc_804 :=
  zmet_of hw 6 (by decide) 4000 zk_804 (by decide) (by decide) (fun X => ⟨zg_RX5 X, zp_RX5 X, zl1_RX5 X, zl2_RX5 X, nilz, (List.forall_mem_cons.mpr ⟨zq_RX5_83 X (zM_303 hw hm) (by decide) rfl rfl, (List.forall_mem_cons.mpr ⟨zq_RX5_149 X (zM_0 hw hm) (by decide) rfl, (List.forall_mem_cons.mpr ⟨zq_RX5_256 X (zM_791 hw hm) (by decide) rfl rfl, (List.forall_mem_cons.mpr ⟨zq_RX5_256 X (zM_792 hw hm) (by decide) rfl rfl, (List.forall_mem_cons.mpr ⟨zq_RX5_256 X (zM_793 hw hm) (by decide) rfl rfl, (List.forall_mem_cons.mpr ⟨zq_RX5_256 X (zM_794 hw hm) (by decide) rfl rfl, (List.forall_mem_cons.mpr ⟨zq_RX5_256 X (zM_795 hw hm) (by decide) rfl rfl, (List.forall_mem_cons.mpr ⟨zq_RX5_256 X (zM_790 hw hm) (by decide) rfl rfl, (List.forall_mem_cons.mpr ⟨zq_RX5_259 X (zM_655 hw hm) (by decide) rfl rfl, (List.forall_mem_cons.mpr ⟨zq_RX5_259 X (zM_656 hw hm) (by decide) rfl rfl, (List.forall_mem_cons.mpr ⟨zq_RX5_259 X (zM_657 hw hm) (by decide) rfl rfl, (List.forall_mem_cons.mpr ⟨zq_RX5_259 X (zM_658 hw hm) (by decide) rfl rfl, nilz⟩)⟩)⟩)⟩)⟩)⟩)⟩)⟩)⟩)⟩)⟩)⟩)⟩)
set_option maxRecDepth 100000 in
theorem zk_819 : zmeth zKS zuq zNS zm_819 4000 = true := by decide +kernel
theorem zM_819 {l : Launch} {D : va_G} {cI cZ cB cJ cR : ClassId} {ks ad : List Nat} {Psi : va_W → Prop} (hw : zworld ks ad zuq zNS Psi) (hm : zMan l D cI cZ cB cJ cR ks ad Psi) : zMet l D cI cZ cB cJ cR zKS ks ad Psi yX5_ways (.code yX5_ways cX5_ways 1 (some .int)) 6 zc_819 :=
  zmet_of hw 6 (by decide) 4000 zk_819 (by decide) (by decide) (fun X => ⟨zg_RX5 X, zp_RX5 X, zl1_RX5 X, zl2_RX5 X, nilz, (List.forall_mem_cons.mpr ⟨zq_RX5_115 X (zM_287 hw hm) (by decide) rfl rfl, (List.forall_mem_cons.mpr ⟨zq_RX5_154 X (zM_805 hw hm) (by decide) rfl rfl, nilz⟩)⟩)⟩)
set_option maxRecDepth 100000 in
theorem zk_822 : zmeth zKS zuq zNS zm_822 4000 = true := by decide +kernel
theorem zM_822 {l : Launch} {D : va_G} {cI cZ cB cJ cR : ClassId} {ks ad : List Nat} {Psi : va_W → Prop} (hw : zworld ks ad zuq zNS Psi) (hm : zMan l D cI cZ cB cJ cR ks ad Psi) : zMet l D cI cZ cB cJ cR zKS ks ad Psi yX5_wore (.code yX5_wore cX5_wore 4 (some .int)) 6 zc_822 :=
  zmet_of hw 6 (by decide) 4000 zk_822 (by decide) (by decide) (fun X => ⟨zg_RX5 X, zp_RX5 X, zl1_RX5 X, zl2_RX5 X, nilz, (List.forall_mem_cons.mpr ⟨zq_RX5_83 X (zM_303 hw hm) (by decide) rfl rfl, (List.forall_mem_cons.mpr ⟨zq_RX5_256 X (zM_791 hw hm) (by decide) rfl rfl, (List.forall_mem_cons.mpr ⟨zq_RX5_256 X (zM_792 hw hm) (by decide) rfl rfl, (List.forall_mem_cons.mpr ⟨zq_RX5_256 X (zM_793 hw hm) (by decide) rfl rfl, (List.forall_mem_cons.mpr ⟨zq_RX5_256 X (zM_794 hw hm) (by decide) rfl rfl, (List.forall_mem_cons.mpr ⟨zq_RX5_256 X (zM_795 hw hm) (by decide) rfl rfl, (List.forall_mem_cons.mpr ⟨zq_RX5_256 X (zM_790 hw hm) (by decide) rfl rfl, (List.forall_mem_cons.mpr ⟨zq_RX5_259 X (zM_655 hw hm) (by decide) rfl rfl, (List.forall_mem_cons.mpr ⟨zq_RX5_259 X (zM_656 hw hm) (by decide) rfl rfl, (List.forall_mem_cons.mpr ⟨zq_RX5_259 X (zM_657 hw hm) (by decide) rfl rfl, (List.forall_mem_cons.mpr ⟨zq_RX5_259 X (zM_658 hw hm) (by decide) rfl rfl, nilz⟩)⟩)⟩)⟩)⟩)⟩)⟩)⟩)⟩)⟩)⟩)⟩)
set_option maxRecDepth 100000 in
theorem zk_823 : zmeth zKS zuq zNS zm_823 4000 = true := by decide +kernel
theorem zM_823 {l : Launch} {D : va_G} {cI cZ cB cJ cR : ClassId} {ks ad : List Nat} {Psi : va_W → Prop} (hw : zworld ks ad zuq zNS Psi) (hm : zMan l D cI cZ cB cJ cR ks ad Psi) : zMet l D cI cZ cB cJ cR zKS ks ad Psi yX5_worn (.code yX5_worn cX5_worn 3 (some .int)) 6 zc_823 :=
  zmet_of hw 6 (by decide) 4000 zk_823 (by decide) (by decide) (fun X => ⟨zg_RX5 X, zp_RX5 X, zl1_RX5 X, zl2_RX5 X, nilz, (List.forall_mem_cons.mpr ⟨zq_RX5_256 X (zM_791 hw hm) (by decide) rfl rfl, (List.forall_mem_cons.mpr ⟨zq_RX5_256 X (zM_792 hw hm) (by decide) rfl rfl, (List.forall_mem_cons.mpr ⟨zq_RX5_256 X (zM_793 hw hm) (by decide) rfl rfl, (List.forall_mem_cons.mpr ⟨zq_RX5_256 X (zM_794 hw hm) (by decide) rfl rfl, (List.forall_mem_cons.mpr ⟨zq_RX5_256 X (zM_795 hw hm) (by decide) rfl rfl, (List.forall_mem_cons.mpr ⟨zq_RX5_256 X (zM_790 hw hm) (by decide) rfl rfl, (List.forall_mem_cons.mpr ⟨zq_RX5_259 X (zM_655 hw hm) (by decide) rfl rfl, (List.forall_mem_cons.mpr ⟨zq_RX5_259 X (zM_656 hw hm) (by decide) rfl rfl, (List.forall_mem_cons.mpr ⟨zq_RX5_259 X (zM_657 hw hm) (by decide) rfl rfl, (List.forall_mem_cons.mpr ⟨zq_RX5_259 X (zM_658 hw hm) (by decide) rfl rfl, nilz⟩)⟩)⟩)⟩)⟩)⟩)⟩)⟩)⟩)⟩)⟩)
set_option maxRecDepth 100000 in
theorem zk_829 : zmeth zKS zuq zNS zm_829 4000 = true := by decide +kernel
theorem zM_829 {l : Launch} {D : va_G} {cI cZ cB cJ cR : ClassId} {ks ad : List Nat} {Psi : va_W → Prop} (hw : zworld ks ad zuq zNS Psi) (hm : zMan l D cI cZ cB cJ cR ks ad Psi) : zMet l D cI cZ cB cJ cR zKS ks ad Psi yX6_allGaps (.code yX6_allGaps cX6_allGaps 3 (some .int)) 6 zc_829 :=
  zmet_of hw 6 (by decide) 4000 zk_829 (by decide) (by decide) (fun X => ⟨zg_RX6 X, zp_RX6 X, zl1_RX6 X, zl2_RX6 X, nilz, (List.forall_mem_cons.mpr ⟨zq_RX6_227 X (zM_1061 hw hm) (by decide) rfl rfl, (List.forall_mem_cons.mpr ⟨zq_RX6_261 X (zM_888 hw hm) (by decide) rfl rfl, (List.forall_mem_cons.mpr ⟨zq_RX6_264 X (zman_1119 hm) (by decide) rfl, nilz⟩)⟩)⟩)⟩)
set_option maxRecDepth 100000 in
theorem zk_841 : zmeth zKS zuq zNS zm_841 4000 = true := by decide +kernel
theorem zM_841 {l : Launch} {D : va_G} {cI cZ cB cJ cR : ClassId} {ks ad : List Nat} {Psi : va_W → Prop} (hw : zworld ks ad zuq zNS Psi) (hm : zMan l D cI cZ cB cJ cR ks ad Psi) : zMet l D cI cZ cB cJ cR zKS ks ad Psi yX6_can (.code yX6_can cX6_can 5 (some .int)) 6 zc_841 :=
  zmet_of hw 6 (by decide) 4000 zk_841 (by decide) (by decide) (fun X => ⟨zg_RX6 X, zp_RX6 X, zl1_RX6 X, zl2_RX6 X, nilz, (List.forall_mem_cons.mpr ⟨zq_RX6_227 X (zM_1061 hw hm) (by decide) rfl rfl, (List.forall_mem_cons.mpr ⟨zq_RX6_267 X (zM_928 hw hm) (by decide) rfl rfl, (List.forall_mem_cons.mpr ⟨zq_RX6_270 X (zman_1017 hm) (by decide) rfl rfl, (List.forall_mem_cons.mpr ⟨zq_RX6_322 X (zM_931 hw hm) (by decide) rfl rfl, (List.forall_mem_cons.mpr ⟨zq_RX6_340 X (zM_842 hw hm) (by decide) rfl rfl, nilz⟩)⟩)⟩)⟩)⟩)⟩)
set_option maxRecDepth 100000 in
theorem zk_850_0 : zm1 zKS zuq zNS zm_850 4000 zt_850_0 = true := by decide +kernel
set_option maxRecDepth 100000 in
theorem zk_850_1 : zm1 zKS zuq zNS zm_850 4000 zt_850_1 = true := by decide +kernel
set_option maxRecDepth 100000 in
theorem zk_850_2 : zm1 zKS zuq zNS zm_850 4000 zt_850_2 = true := by decide +kernel
set_option maxRecDepth 100000 in
theorem zk_850_3 : zm1 zKS zuq zNS zm_850 4000 zt_850_3 = true := by decide +kernel
set_option maxRecDepth 100000 in
theorem zk_850_4 : zm1 zKS zuq zNS zm_850 4000 zt_850_4 = true := by decide +kernel
set_option maxRecDepth 100000 in
theorem zk_850_5 : zm1 zKS zuq zNS zm_850 4000 zt_850_5 = true := by decide +kernel
set_option maxRecDepth 100000 in
theorem zk_850_6 : zm1 zKS zuq zNS zm_850 4000 zt_850_6 = true := by decide +kernel
set_option maxRecDepth 100000 in
theorem zk_850_7 : zm1 zKS zuq zNS zm_850 4000 zt_850_7 = true := by decide +kernel
set_option maxRecDepth 100000 in
theorem zk_850_8 : zm1 zKS zuq zNS zm_850 4000 zt_850_8 = true := by decide +kernel
set_option maxRecDepth 100000 in
theorem zk_850_9 : zm1 zKS zuq zNS zm_850 4000 zt_850_9 = true := by decide +kernel
set_option maxRecDepth 100000 in
theorem zk_850_10 : zm1 zKS zuq zNS zm_850 4000 zt_850_10 = true := by decide +kernel
set_option maxRecDepth 100000 in
theorem zk_850_11 : zm1 zKS zuq zNS zm_850 4000 zt_850_11 = true := by decide +kernel
set_option maxRecDepth 100000 in
theorem zk_850_12 : zm1 zKS zuq zNS zm_850 4000 zt_850_12 = true := by decide +kernel
set_option maxRecDepth 100000 in
theorem zk_850_13 : zm1 zKS zuq zNS zm_850 4000 zt_850_13 = true := by decide +kernel
set_option maxRecDepth 100000 in
theorem zk_850_14 : zm1 zKS zuq zNS zm_850 4000 zt_850_14 = true := by decide +kernel
set_option maxRecDepth 100000 in
theorem zk_850_15 : zm1 zKS zuq zNS zm_850 4000 zt_850_15 = true := by decide +kernel
set_option maxRecDepth 100000 in
theorem zk_850_16 : zm1 zKS zuq zNS zm_850 4000 zt_850_16 = true := by decide +kernel
set_option maxRecDepth 100000 in
theorem zk_850_17 : zm1 zKS zuq zNS zm_850 4000 zt_850_17 = true := by decide +kernel
set_option maxRecDepth 100000 in
theorem zk_850_18 : zm1 zKS zuq zNS zm_850 4000 zt_850_18 = true := by decide +kernel
set_option maxRecDepth 100000 in
theorem zk_850_19 : zm1 zKS zuq zNS zm_850 4000 zt_850_19 = true := by decide +kernel
set_option maxRecDepth 100000 in
theorem zk_850_20 : zm1 zKS zuq zNS zm_850 4000 zt_850_20 = true := by decide +kernel
set_option maxRecDepth 100000 in
theorem zk_850_21 : zm1 zKS zuq zNS zm_850 4000 zt_850_21 = true := by decide +kernel
set_option maxRecDepth 100000 in
theorem zk_850_22 : zm1 zKS zuq zNS zm_850 4000 zt_850_22 = true := by decide +kernel
set_option maxRecDepth 100000 in
theorem zk_850_23 : zm1 zKS zuq zNS zm_850 4000 zt_850_23 = true := by decide +kernel
set_option maxRecDepth 100000 in
theorem zk_850_24 : zm1 zKS zuq zNS zm_850 4000 zt_850_24 = true := by decide +kernel
set_option maxRecDepth 100000 in
theorem zk_850_25 : zm1 zKS zuq zNS zm_850 4000 zt_850_25 = true := by decide +kernel
set_option maxRecDepth 100000 in
theorem zk_850_26 : zm1 zKS zuq zNS zm_850 4000 zt_850_26 = true := by decide +kernel
set_option maxRecDepth 100000 in
theorem zk_850_27 : zm1 zKS zuq zNS zm_850 4000 zt_850_27 = true := by decide +kernel
set_option maxRecDepth 100000 in
theorem zk_850_28 : zm1 zKS zuq zNS zm_850 4000 zt_850_28 = true := by decide +kernel
set_option maxRecDepth 100000 in
theorem zk_850_29 : zm1 zKS zuq zNS zm_850 4000 zt_850_29 = true := by decide +kernel
set_option maxRecDepth 100000 in
theorem zk_850_30 : zm1 zKS zuq zNS zm_850 4000 zt_850_30 = true := by decide +kernel
set_option maxRecDepth 100000 in
theorem zk_850_31 : zm1 zKS zuq zNS zm_850 4000 zt_850_31 = true := by decide +kernel
set_option maxRecDepth 100000 in
theorem zk_850_32 : zm1 zKS zuq zNS zm_850 4000 zt_850_32 = true := by decide +kernel
set_option maxRecDepth 100000 in
theorem zk_850_33 : zm1 zKS zuq zNS zm_850 4000 zt_850_33 = true := by decide +kernel
set_option maxRecDepth 100000 in
theorem zk_850_34 : zm1 zKS zuq zNS zm_850 4000 zt_850_34 = true := by decide +kernel
set_option maxRecDepth 100000 in
theorem zk_850_35 : zm1 zKS zuq zNS zm_850 4000 zt_850_35 = true := by decide +kernel
set_option maxRecDepth 100000 in
theorem zk_850_36 : zm1 zKS zuq zNS zm_850 4000 zt_850_36 = true := by decide +kernel
set_option maxRecDepth 100000 in
theorem zk_850_37 : zm1 zKS zuq zNS zm_850 4000 zt_850_37 = true := by decide +kernel
set_option maxRecDepth 100000 in
theorem zk_850_38 : zm1 zKS zuq zNS zm_850 4000 zt_850_38 = true := by decide +kernel
set_option maxRecDepth 100000 in
theorem zk_850_39 : zm1 zKS zuq zNS zm_850 4000 zt_850_39 = true := by decide +kernel
set_option maxRecDepth 100000 in
theorem zk_850_40 : zm1 zKS zuq zNS zm_850 4000 zt_850_40 = true := by decide +kernel
set_option maxRecDepth 100000 in
theorem zk_850_41 : zm1 zKS zuq zNS zm_850 4000 zt_850_41 = true := by decide +kernel
set_option maxRecDepth 100000 in
theorem zk_850_42 : zm1 zKS zuq zNS zm_850 4000 zt_850_42 = true := by decide +kernel
set_option maxRecDepth 100000 in
theorem zk_850_43 : zm1 zKS zuq zNS zm_850 4000 zt_850_43 = true := by decide +kernel
set_option maxRecDepth 100000 in
theorem zk_850_44 : zm1 zKS zuq zNS zm_850 4000 zt_850_44 = true := by decide +kernel
set_option maxRecDepth 100000 in
theorem zk_850_45 : zm1 zKS zuq zNS zm_850 4000 zt_850_45 = true := by decide +kernel
set_option maxRecDepth 100000 in
theorem zk_850_46 : zm1 zKS zuq zNS zm_850 4000 zt_850_46 = true := by decide +kernel
set_option maxRecDepth 100000 in
theorem zk_850_47 : zm1 zKS zuq zNS zm_850 4000 zt_850_47 = true := by decide +kernel
set_option maxRecDepth 100000 in
theorem zk_850_48 : zm1 zKS zuq zNS zm_850 4000 zt_850_48 = true := by decide +kernel
set_option maxRecDepth 100000 in
theorem zk_850_49 : zm1 zKS zuq zNS zm_850 4000 zt_850_49 = true := by decide +kernel
set_option maxRecDepth 100000 in
theorem zk_850_50 : zm1 zKS zuq zNS zm_850 4000 zt_850_50 = true := by decide +kernel
set_option maxRecDepth 100000 in
theorem zk_850_51 : zm1 zKS zuq zNS zm_850 4000 zt_850_51 = true := by decide +kernel
set_option maxRecDepth 100000 in
theorem zk_850_52 : zm1 zKS zuq zNS zm_850 4000 zt_850_52 = true := by decide +kernel
set_option maxRecDepth 100000 in
theorem zk_850_53 : zm1 zKS zuq zNS zm_850 4000 zt_850_53 = true := by decide +kernel
set_option maxRecDepth 100000 in
theorem zk_850_54 : zm1 zKS zuq zNS zm_850 4000 zt_850_54 = true := by decide +kernel
set_option maxRecDepth 100000 in
theorem zk_850_55 : zm1 zKS zuq zNS zm_850 4000 zt_850_55 = true := by decide +kernel
set_option maxRecDepth 100000 in
theorem zk_850_56 : zm1 zKS zuq zNS zm_850 4000 zt_850_56 = true := by decide +kernel
set_option maxRecDepth 100000 in
theorem zk_850_57 : zm1 zKS zuq zNS zm_850 4000 zt_850_57 = true := by decide +kernel
set_option maxRecDepth 100000 in
theorem zk_850_58 : zm1 zKS zuq zNS zm_850 4000 zt_850_58 = true := by decide +kernel
set_option maxRecDepth 100000 in
theorem zk_850_59 : zm1 zKS zuq zNS zm_850 4000 zt_850_59 = true := by decide +kernel
set_option maxRecDepth 100000 in
theorem zk_850_60 : zm1 zKS zuq zNS zm_850 4000 zt_850_60 = true := by decide +kernel
set_option maxRecDepth 100000 in
theorem zk_850_61 : zm1 zKS zuq zNS zm_850 4000 zt_850_61 = true := by decide +kernel
set_option maxRecDepth 100000 in
theorem zk_850_62 : zm1 zKS zuq zNS zm_850 4000 zt_850_62 = true := by decide +kernel
set_option maxRecDepth 100000 in
theorem zk_850_63 : zm1 zKS zuq zNS zm_850 4000 zt_850_63 = true := by decide +kernel
set_option maxRecDepth 100000 in
theorem zk_850_64 : zm1 zKS zuq zNS zm_850 4000 zt_850_64 = true := by decide +kernel
set_option maxRecDepth 100000 in
theorem zk_850_65 : zm1 zKS zuq zNS zm_850 4000 zt_850_65 = true := by decide +kernel
set_option maxRecDepth 100000 in
theorem zk_850_66 : zm1 zKS zuq zNS zm_850 4000 zt_850_66 = true := by decide +kernel
set_option maxRecDepth 100000 in
theorem zk_850_67 : zm1 zKS zuq zNS zm_850 4000 zt_850_67 = true := by decide +kernel
set_option maxRecDepth 100000 in
theorem zk_850_68 : zm1 zKS zuq zNS zm_850 4000 zt_850_68 = true := by decide +kernel
set_option maxRecDepth 100000 in
theorem zk_850_69 : zm1 zKS zuq zNS zm_850 4000 zt_850_69 = true := by decide +kernel
set_option maxRecDepth 100000 in
theorem zk_850_70 : zm1 zKS zuq zNS zm_850 4000 zt_850_70 = true := by decide +kernel
set_option maxRecDepth 100000 in
theorem zk_850_71 : zm1 zKS zuq zNS zm_850 4000 zt_850_71 = true := by decide +kernel
set_option maxRecDepth 100000 in
theorem zk_850_72 : zm1 zKS zuq zNS zm_850 4000 zt_850_72 = true := by decide +kernel
set_option maxRecDepth 100000 in
theorem zk_850_73 : zm1 zKS zuq zNS zm_850 4000 zt_850_73 = true := by decide +kernel
set_option maxRecDepth 100000 in
theorem zk_850_74 : zm1 zKS zuq zNS zm_850 4000 zt_850_74 = true := by decide +kernel
set_option maxRecDepth 100000 in
theorem zk_850_75 : zm1 zKS zuq zNS zm_850 4000 zt_850_75 = true := by decide +kernel
set_option maxRecDepth 100000 in
theorem zk_850_76 : zm1 zKS zuq zNS zm_850 4000 zt_850_76 = true := by decide +kernel
set_option maxRecDepth 100000 in
theorem zk_850_77 : zm1 zKS zuq zNS zm_850 4000 zt_850_77 = true := by decide +kernel
set_option maxRecDepth 100000 in
theorem zk_850_78 : zm1 zKS zuq zNS zm_850 4000 zt_850_78 = true := by decide +kernel
set_option maxRecDepth 100000 in
theorem zk_850_79 : zm1 zKS zuq zNS zm_850 4000 zt_850_79 = true := by decide +kernel
set_option maxRecDepth 100000 in
theorem zk_850_80 : zm1 zKS zuq zNS zm_850 4000 zt_850_80 = true := by decide +kernel
set_option maxRecDepth 100000 in
theorem zk_850_81 : zm1 zKS zuq zNS zm_850 4000 zt_850_81 = true := by decide +kernel
set_option maxRecDepth 100000 in
theorem zk_850_82 : zm1 zKS zuq zNS zm_850 4000 zt_850_82 = true := by decide +kernel
set_option maxRecDepth 100000 in
theorem zk_850_83 : zm1 zKS zuq zNS zm_850 4000 zt_850_83 = true := by decide +kernel
set_option maxRecDepth 100000 in
theorem zk_850_s : zm0 zKS zuq zNS zm_850 4000 = true := by decide +kernel
theorem zk_850 : zmeth zKS zuq zNS zm_850 4000 = true := zmeth_by zk_850_s (List.forall_mem_cons.mpr ⟨zk_850_0, (List.forall_mem_cons.mpr ⟨zk_850_1, (List.forall_mem_cons.mpr ⟨zk_850_2, (List.forall_mem_cons.mpr ⟨zk_850_3, (List.forall_mem_cons.mpr ⟨zk_850_4, (List.forall_mem_cons.mpr ⟨zk_850_5, (List.forall_mem_cons.mpr ⟨zk_850_6, (List.forall_mem_cons.mpr ⟨zk_850_7, (List.forall_mem_cons.mpr ⟨zk_850_8, (List.forall_mem_cons.mpr ⟨zk_850_9, (List.forall_mem_cons.mpr ⟨zk_850_10, (List.forall_mem_cons.mpr ⟨zk_850_11, (List.forall_mem_cons.mpr ⟨zk_850_12, (List.forall_mem_cons.mpr ⟨zk_850_13, (List.forall_mem_cons.mpr ⟨zk_850_14, (List.forall_mem_cons.mpr ⟨zk_850_15, (List.forall_mem_cons.mpr ⟨zk_850_16, (List.forall_mem_cons.mpr ⟨zk_850_17, (List.forall_mem_cons.mpr ⟨zk_850_18, (List.forall_mem_cons.mpr ⟨zk_850_19, (List.forall_mem_cons.mpr ⟨zk_850_20, (List.forall_mem_cons.mpr ⟨zk_850_21, (List.forall_mem_cons.mpr ⟨zk_850_22, (List.forall_mem_cons.mpr ⟨zk_850_23, (List.forall_mem_cons.mpr ⟨zk_850_24, (List.forall_mem_cons.mpr ⟨zk_850_25, (List.forall_mem_cons.mpr ⟨zk_850_26, (List.forall_mem_cons.mpr ⟨zk_850_27, (List.forall_mem_cons.mpr ⟨zk_850_28, (List.forall_mem_cons.mpr ⟨zk_850_29, (List.forall_mem_cons.mpr ⟨zk_850_30, (List.forall_mem_cons.mpr ⟨zk_850_31, (List.forall_mem_cons.mpr ⟨zk_850_32, (List.forall_mem_cons.mpr ⟨zk_850_33, (List.forall_mem_cons.mpr ⟨zk_850_34, (List.forall_mem_cons.mpr ⟨zk_850_35, (List.forall_mem_cons.mpr ⟨zk_850_36, (List.forall_mem_cons.mpr ⟨zk_850_37, (List.forall_mem_cons.mpr ⟨zk_850_38, (List.forall_mem_cons.mpr ⟨zk_850_39, (List.forall_mem_cons.mpr ⟨zk_850_40, (List.forall_mem_cons.mpr ⟨zk_850_41, (List.forall_mem_cons.mpr ⟨zk_850_42, (List.forall_mem_cons.mpr ⟨zk_850_43, (List.forall_mem_cons.mpr ⟨zk_850_44, (List.forall_mem_cons.mpr ⟨zk_850_45, (List.forall_mem_cons.mpr ⟨zk_850_46, (List.forall_mem_cons.mpr ⟨zk_850_47, (List.forall_mem_cons.mpr ⟨zk_850_48, (List.forall_mem_cons.mpr ⟨zk_850_49, (List.forall_mem_cons.mpr ⟨zk_850_50, (List.forall_mem_cons.mpr ⟨zk_850_51, (List.forall_mem_cons.mpr ⟨zk_850_52, (List.forall_mem_cons.mpr ⟨zk_850_53, (List.forall_mem_cons.mpr ⟨zk_850_54, (List.forall_mem_cons.mpr ⟨zk_850_55, (List.forall_mem_cons.mpr ⟨zk_850_56, (List.forall_mem_cons.mpr ⟨zk_850_57, (List.forall_mem_cons.mpr ⟨zk_850_58, (List.forall_mem_cons.mpr ⟨zk_850_59, (List.forall_mem_cons.mpr ⟨zk_850_60, (List.forall_mem_cons.mpr ⟨zk_850_61, (List.forall_mem_cons.mpr ⟨zk_850_62, (List.forall_mem_cons.mpr ⟨zk_850_63, (List.forall_mem_cons.mpr ⟨zk_850_64, (List.forall_mem_cons.mpr ⟨zk_850_65, (List.forall_mem_cons.mpr ⟨zk_850_66, (List.forall_mem_cons.mpr ⟨zk_850_67, (List.forall_mem_cons.mpr ⟨zk_850_68, (List.forall_mem_cons.mpr ⟨zk_850_69, (List.forall_mem_cons.mpr ⟨zk_850_70, (List.forall_mem_cons.mpr ⟨zk_850_71, (List.forall_mem_cons.mpr ⟨zk_850_72, (List.forall_mem_cons.mpr ⟨zk_850_73, (List.forall_mem_cons.mpr ⟨zk_850_74, (List.forall_mem_cons.mpr ⟨zk_850_75, (List.forall_mem_cons.mpr ⟨zk_850_76, (List.forall_mem_cons.mpr ⟨zk_850_77, (List.forall_mem_cons.mpr ⟨zk_850_78, (List.forall_mem_cons.mpr ⟨zk_850_79, (List.forall_mem_cons.mpr ⟨zk_850_80, (List.forall_mem_cons.mpr ⟨zk_850_81, (List.forall_mem_cons.mpr ⟨zk_850_82, (List.forall_mem_cons.mpr ⟨zk_850_83, nilz⟩)⟩)⟩)⟩)⟩)⟩)⟩)⟩)⟩)⟩)⟩)⟩)⟩)⟩)⟩)⟩)⟩)⟩)⟩)⟩)⟩)⟩)⟩)⟩)⟩)⟩)⟩)⟩)⟩)⟩)⟩)⟩)⟩)⟩)⟩)⟩)⟩)⟩)⟩)⟩)⟩)⟩)⟩)⟩)⟩)⟩)⟩)⟩)⟩)⟩)⟩)⟩)⟩)⟩)⟩)⟩)⟩)⟩)⟩)⟩)⟩)⟩)⟩)⟩)⟩)⟩)⟩)⟩)⟩)⟩)⟩)⟩)⟩)⟩)⟩)⟩)⟩)⟩)⟩)⟩)⟩)⟩)⟩)⟩)
theorem zM_850 {l : Launch} {D : va_G} {cI cZ cB cJ cR : ClassId} {ks ad : List Nat} {Psi : va_W → Prop} (hw : zworld ks ad zuq zNS Psi) (hm : zMan l D cI cZ cB cJ cR ks ad Psi) : zMet l D cI cZ cB cJ cR zKS ks ad Psi yX6_closed (.code yX6_closed cX6_closed 6 (some .int)) 6 zc_850 :=
  zmet_of hw 6 (by decide) 4000 zk_850 (by decide) (by decide) (fun X => ⟨zg_RX6 X, zp_RX6 X, zl1_RX6 X, zl2_RX6 X, nilz, (List.forall_mem_cons.mpr ⟨zq_RX6_234 X (zM_930 hw hm) (by decide) rfl rfl, (List.forall_mem_cons.mpr ⟨zq_RX6_261 X (zM_888 hw hm) (by decide) rfl rfl, (List.forall_mem_cons.mpr ⟨zq_RX6_264 X (zman_1119 hm) (by decide) rfl, (List.forall_mem_cons.mpr ⟨zq_RX6_364 X (zM_1168 hw hm) (by decide) rfl rfl, (List.forall_mem_cons.mpr ⟨zq_RX6_364 X (zM_1169 hw hm) (by decide) rfl rfl, (List.forall_mem_cons.mpr ⟨zq_RX6_364 X (zM_1170 hw hm) (by decide) rfl rfl, (List.forall_mem_cons.mpr ⟨zq_RX6_364 X (zM_1171 hw hm) (by decide) rfl rfl, (List.forall_mem_cons.mpr ⟨zq_RX6_364 X (zM_1172 hw hm) (by decide) rfl rfl, (List.forall_mem_cons.mpr ⟨zq_RX6_364 X (zM_1167 hw hm) (by decide) rfl rfl, (List.forall_mem_cons.mpr ⟨zq_RX6_367 X (zM_936 hw hm) (by decide) rfl rfl, (List.forall_mem_cons.mpr ⟨zq_RX6_367 X (zM_937 hw hm) (by decide) rfl rfl, (List.forall_mem_cons.mpr ⟨zq_RX6_367 X (zM_938 hw hm) (by decide) rfl rfl, (List.forall_mem_cons.mpr ⟨zq_RX6_367 X (zM_939 hw hm) (by decide) rfl rfl, (List.forall_mem_cons.mpr ⟨zq_RX6_367 X (zM_940 hw hm) (by decide) rfl rfl, (List.forall_mem_cons.mpr ⟨zq_RX6_367 X (zM_941 hw hm) (by decide) rfl rfl, (List.forall_mem_cons.mpr ⟨zq_RX6_367 X (zM_942 hw hm) (by decide) rfl rfl, (List.forall_mem_cons.mpr ⟨zq_RX6_367 X (zM_943 hw hm) (by decide) rfl rfl, (List.forall_mem_cons.mpr ⟨zq_RX6_367 X (zM_944 hw hm) (by decide) rfl rfl, (List.forall_mem_cons.mpr ⟨zq_RX6_367 X (zM_945 hw hm) (by decide) rfl rfl, (List.forall_mem_cons.mpr ⟨zq_RX6_367 X (zM_946 hw hm) (by decide) rfl rfl, (List.forall_mem_cons.mpr ⟨zq_RX6_367 X (zM_947 hw hm) (by decide) rfl rfl, (List.forall_mem_cons.mpr ⟨zq_RX6_367 X (zM_948 hw hm) (by decide) rfl rfl, (List.forall_mem_cons.mpr ⟨zq_RX6_367 X (zM_949 hw hm) (by decide) rfl rfl, (List.forall_mem_cons.mpr ⟨zq_RX6_367 X (zM_950 hw hm) (by decide) rfl rfl, (List.forall_mem_cons.mpr ⟨zq_RX6_367 X (zM_951 hw hm) (by decide) rfl rfl, (List.forall_mem_cons.mpr ⟨zq_RX6_367 X (zM_952 hw hm) (by decide) rfl rfl, (List.forall_mem_cons.mpr ⟨zq_RX6_367 X (zM_953 hw hm) (by decide) rfl rfl, (List.forall_mem_cons.mpr ⟨zq_RX6_367 X (zM_954 hw hm) (by decide) rfl rfl, (List.forall_mem_cons.mpr ⟨zq_RX6_367 X (zM_955 hw hm) (by decide) rfl rfl, (List.forall_mem_cons.mpr ⟨zq_RX6_367 X (zM_956 hw hm) (by decide) rfl rfl, (List.forall_mem_cons.mpr ⟨zq_RX6_367 X (zM_957 hw hm) (by decide) rfl rfl, (List.forall_mem_cons.mpr ⟨zq_RX6_367 X (zM_958 hw hm) (by decide) rfl rfl, (List.forall_mem_cons.mpr ⟨zq_RX6_367 X (zM_959 hw hm) (by decide) rfl rfl, (List.forall_mem_cons.mpr ⟨zq_RX6_367 X (zM_960 hw hm) (by decide) rfl rfl, (List.forall_mem_cons.mpr ⟨zq_RX6_367 X (zM_961 hw hm) (by decide) rfl rfl, (List.forall_mem_cons.mpr ⟨zq_RX6_367 X (zM_962 hw hm) (by decide) rfl rfl, (List.forall_mem_cons.mpr ⟨zq_RX6_367 X (zM_963 hw hm) (by decide) rfl rfl, (List.forall_mem_cons.mpr ⟨zq_RX6_367 X (zM_964 hw hm) (by decide) rfl rfl, (List.forall_mem_cons.mpr ⟨zq_RX6_367 X (zM_965 hw hm) (by decide) rfl rfl, (List.forall_mem_cons.mpr ⟨zq_RX6_367 X (zM_966 hw hm) (by decide) rfl rfl, (List.forall_mem_cons.mpr ⟨zq_RX6_367 X (zM_967 hw hm) (by decide) rfl rfl, (List.forall_mem_cons.mpr ⟨zq_RX6_367 X (zM_968 hw hm) (by decide) rfl rfl, (List.forall_mem_cons.mpr ⟨zq_RX6_367 X (zM_969 hw hm) (by decide) rfl rfl, (List.forall_mem_cons.mpr ⟨zq_RX6_367 X (zM_970 hw hm) (by decide) rfl rfl, (List.forall_mem_cons.mpr ⟨zq_RX6_367 X (zM_971 hw hm) (by decide) rfl rfl, (List.forall_mem_cons.mpr ⟨zq_RX6_367 X (zM_972 hw hm) (by decide) rfl rfl, (List.forall_mem_cons.mpr ⟨zq_RX6_367 X (zM_973 hw hm) (by decide) rfl rfl, (List.forall_mem_cons.mpr ⟨zq_RX6_367 X (zM_974 hw hm) (by decide) rfl rfl, (List.forall_mem_cons.mpr ⟨zq_RX6_367 X (zM_975 hw hm) (by decide) rfl rfl, (List.forall_mem_cons.mpr ⟨zq_RX6_367 X (zM_976 hw hm) (by decide) rfl rfl, (List.forall_mem_cons.mpr ⟨zq_RX6_367 X (zM_977 hw hm) (by decide) rfl rfl, (List.forall_mem_cons.mpr ⟨zq_RX6_367 X (zM_978 hw hm) (by decide) rfl rfl, (List.forall_mem_cons.mpr ⟨zq_RX6_367 X (zM_979 hw hm) (by decide) rfl rfl, (List.forall_mem_cons.mpr ⟨zq_RX6_367 X (zM_980 hw hm) (by decide) rfl rfl, (List.forall_mem_cons.mpr ⟨zq_RX6_367 X (zM_981 hw hm) (by decide) rfl rfl, (List.forall_mem_cons.mpr ⟨zq_RX6_367 X (zM_982 hw hm) (by decide) rfl rfl, (List.forall_mem_cons.mpr ⟨zq_RX6_367 X (zM_983 hw hm) (by decide) rfl rfl, (List.forall_mem_cons.mpr ⟨zq_RX6_367 X (zM_984 hw hm) (by decide) rfl rfl, (List.forall_mem_cons.mpr ⟨zq_RX6_367 X (zM_985 hw hm) (by decide) rfl rfl, (List.forall_mem_cons.mpr ⟨zq_RX6_367 X (zM_986 hw hm) (by decide) rfl rfl, (List.forall_mem_cons.mpr ⟨zq_RX6_367 X (zM_987 hw hm) (by decide) rfl rfl, (List.forall_mem_cons.mpr ⟨zq_RX6_367 X (zM_988 hw hm) (by decide) rfl rfl, (List.forall_mem_cons.mpr ⟨zq_RX6_367 X (zM_989 hw hm) (by decide) rfl rfl, (List.forall_mem_cons.mpr ⟨zq_RX6_367 X (zM_990 hw hm) (by decide) rfl rfl, (List.forall_mem_cons.mpr ⟨zq_RX6_367 X (zM_991 hw hm) (by decide) rfl rfl, (List.forall_mem_cons.mpr ⟨zq_RX6_367 X (zM_992 hw hm) (by decide) rfl rfl, (List.forall_mem_cons.mpr ⟨zq_RX6_367 X (zM_993 hw hm) (by decide) rfl rfl, (List.forall_mem_cons.mpr ⟨zq_RX6_367 X (zM_994 hw hm) (by decide) rfl rfl, (List.forall_mem_cons.mpr ⟨zq_RX6_367 X (zM_995 hw hm) (by decide) rfl rfl, (List.forall_mem_cons.mpr ⟨zq_RX6_367 X (zM_996 hw hm) (by decide) rfl rfl, (List.forall_mem_cons.mpr ⟨zq_RX6_367 X (zM_997 hw hm) (by decide) rfl rfl, (List.forall_mem_cons.mpr ⟨zq_RX6_367 X (zM_998 hw hm) (by decide) rfl rfl, (List.forall_mem_cons.mpr ⟨zq_RX6_367 X (zM_999 hw hm) (by decide) rfl rfl, (List.forall_mem_cons.mpr ⟨zq_RX6_367 X (zM_1000 hw hm) (by decide) rfl rfl, (List.forall_mem_cons.mpr ⟨zq_RX6_367 X (zM_1001 hw hm) (by decide) rfl rfl, (List.forall_mem_cons.mpr ⟨zq_RX6_367 X (zM_1002 hw hm) (by decide) rfl rfl, (List.forall_mem_cons.mpr ⟨zq_RX6_367 X (zM_1003 hw hm) (by decide) rfl rfl, (List.forall_mem_cons.mpr ⟨zq_RX6_367 X (zM_1004 hw hm) (by decide) rfl rfl, (List.forall_mem_cons.mpr ⟨zq_RX6_367 X (zM_1005 hw hm) (by decide) rfl rfl, (List.forall_mem_cons.mpr ⟨zq_RX6_367 X (zM_1006 hw hm) (by decide) rfl rfl, (List.forall_mem_cons.mpr ⟨zq_RX6_367 X (zM_1007 hw hm) (by decide) rfl rfl, (List.forall_mem_cons.mpr ⟨zq_RX6_367 X (zM_1008 hw hm) (by decide) rfl rfl, (List.forall_mem_cons.mpr ⟨zq_RX6_367 X (zM_1009 hw hm) (by decide) rfl rfl, (List.forall_mem_cons.mpr ⟨zq_RX6_367 X (zM_1010 hw hm) (by decide) rfl rfl, (List.forall_mem_cons.mpr ⟨zq_RX6_367 X (zM_1011 hw hm) (by decide) rfl rfl, (List.forall_mem_cons.mpr ⟨zq_RX6_367 X (zM_1012 hw hm) (by decide) rfl rfl, (List.forall_mem_cons.mpr ⟨zq_RX6_367 X (zM_1013 hw hm) (by decide) rfl rfl, (List.forall_mem_cons.mpr ⟨zq_RX6_367 X (zM_1014 hw hm) (by decide) rfl rfl, (List.forall_mem_cons.mpr ⟨zq_RX6_367 X (zM_1015 hw hm) (by decide) rfl rfl, nilz⟩)⟩)⟩)⟩)⟩)⟩)⟩)⟩)⟩)⟩)⟩)⟩)⟩)⟩)⟩)⟩)⟩)⟩)⟩)⟩)⟩)⟩)⟩)⟩)⟩)⟩)⟩)⟩)⟩)⟩)⟩)⟩)⟩)⟩)⟩)⟩)⟩)⟩)⟩)⟩)⟩)⟩)⟩)⟩)⟩)⟩)⟩)⟩)⟩)⟩)⟩)⟩)⟩)⟩)⟩)⟩)⟩)⟩)⟩)⟩)⟩)⟩)⟩)⟩)⟩)⟩)⟩)⟩)⟩)⟩)⟩)⟩)⟩)⟩)⟩)⟩)⟩)⟩)⟩)⟩)⟩)⟩)⟩)⟩)⟩)⟩)⟩)⟩)⟩)⟩)
set_option maxRecDepth 100000 in
theorem zk_868 : zmeth zKS zuq zNS zm_868 4000 = true := by decide +kernel
theorem zM_868 {l : Launch} {D : va_G} {cI cZ cB cJ cR : ClassId} {ks ad : List Nat} {Psi : va_W → Prop} (hw : zworld ks ad zuq zNS Psi) (hm : zMan l D cI cZ cB cJ cR ks ad Psi) : zMet l D cI cZ cB cJ cR zKS ks ad Psi yX6_deedsOf (.code yX6_deedsOf cX6_deedsOf 5 (some .int)) 6 zc_868 :=
  zmet_of hw 6 (by decide) 4000 zk_868 (by decide) (by decide) (fun X => ⟨zg_RX6 X, zp_RX6 X, zl1_RX6 X, zl2_RX6 X, nilz, (List.forall_mem_cons.mpr ⟨zq_RX6_231 X (zM_898 hw hm) (by decide) rfl rfl, (List.forall_mem_cons.mpr ⟨zq_RX6_340 X (zM_842 hw hm) (by decide) rfl rfl, nilz⟩)⟩)⟩)
set_option maxRecDepth 100000 in
theorem zk_869 : zmeth zKS zuq zNS zm_869 4000 = true := by decide +kernel
theorem zM_869 {l : Launch} {D : va_G} {cI cZ cB cJ cR : ClassId} {ks ad : List Nat} {Psi : va_W → Prop} (hw : zworld ks ad zuq zNS Psi) (hm : zMan l D cI cZ cB cJ cR ks ad Psi) : zMet l D cI cZ cB cJ cR zKS ks ad Psi yX6_drawn (.code yX6_drawn cX6_drawn 6 (some .int)) 6 zc_869 :=
  zmet_of hw 6 (by decide) 4000 zk_869 (by decide) (by decide) (fun X => ⟨zg_RX6 X, zp_RX6 X, zl1_RX6 X, zl2_RX6 X, nilz, (List.forall_mem_cons.mpr ⟨zq_RX6_76 X (zM_904 hw hm) (by decide) rfl, (List.forall_mem_cons.mpr ⟨zq_RX6_227 X (zM_1061 hw hm) (by decide) rfl rfl, (List.forall_mem_cons.mpr ⟨zq_RX6_270 X (zman_1017 hm) (by decide) rfl rfl, (List.forall_mem_cons.mpr ⟨zq_RX6_400 X (zM_932 hw hm) (by decide) rfl rfl, (List.forall_mem_cons.mpr ⟨zq_RX6_405 X (zM_870 hw hm) (by decide) rfl rfl, (List.forall_mem_cons.mpr ⟨zq_RX6_409 X (zM_887 hw hm) (by decide) rfl rfl, nilz⟩)⟩)⟩)⟩)⟩)⟩)⟩)
set_option maxRecDepth 100000 in
theorem zk_875 : zmeth zKS zuq zNS zm_875 4000 = true := by decide +kernel
theorem zM_875 {l : Launch} {D : va_G} {cI cZ cB cJ cR : ClassId} {ks ad : List Nat} {Psi : va_W → Prop} (hw : zworld ks ad zuq zNS Psi) (hm : zMan l D cI cZ cB cJ cR ks ad Psi) : zMet l D cI cZ cB cJ cR zKS ks ad Psi yX6_extra (.code yX6_extra cX6_extra 6 (some .int)) 6 zc_875 :=
  zmet_of hw 6 (by decide) 4000 zk_875 (by decide) (by decide) (fun X => ⟨zg_RX6 X, zp_RX6 X, zl1_RX6 X, zl2_RX6 X, nilz, (List.forall_mem_cons.mpr ⟨zq_RX6_227 X (zM_1061 hw hm) (by decide) rfl rfl, (List.forall_mem_cons.mpr ⟨zq_RX6_261 X (zM_888 hw hm) (by decide) rfl rfl, (List.forall_mem_cons.mpr ⟨zq_RX6_264 X (zman_1119 hm) (by decide) rfl, (List.forall_mem_cons.mpr ⟨zq_RX6_270 X (zman_1017 hm) (by decide) rfl rfl, (List.forall_mem_cons.mpr ⟨zq_RX6_276 X (zM_923 hw hm) (by decide) rfl rfl, (List.forall_mem_cons.mpr ⟨zq_RX6_328 X (zM_1115 hw hm) (by decide) rfl rfl, nilz⟩)⟩)⟩)⟩)⟩)⟩)⟩)
set_option maxRecDepth 100000 in
theorem zk_881 : zmeth zKS zuq zNS zm_881 4000 = true := by decide +kernel
theorem zM_881 {l : Launch} {D : va_G} {cI cZ cB cJ cR : ClassId} {ks ad : List Nat} {Psi : va_W → Prop} (hw : zworld ks ad zuq zNS Psi) (hm : zMan l D cI cZ cB cJ cR ks ad Psi) : zMet l D cI cZ cB cJ cR zKS ks ad Psi yX6_fine (.code yX6_fine cX6_fine 2 (some .int)) 6 zc_881 :=
  zmet_of hw 6 (by decide) 4000 zk_881 (by decide) (by decide) (fun X => ⟨zg_RX6 X, zp_RX6 X, zl1_RX6 X, zl2_RX6 X, nilz, (List.forall_mem_cons.mpr ⟨zq_RX6_234 X (zM_930 hw hm) (by decide) rfl rfl, (List.forall_mem_cons.mpr ⟨zq_RX6_270 X (zman_1017 hm) (by decide) rfl rfl, (List.forall_mem_cons.mpr ⟨zq_RX6_282 X (zM_882 hw hm) (by decide) rfl rfl, nilz⟩)⟩)⟩)⟩)
set_option maxRecDepth 100000 in
theorem zk_886 : zmeth zKS zuq zNS zm_886 4000 = true := by decide +kernel
theorem zM_886 {l : Launch} {D : va_G} {cI cZ cB cJ cR : ClassId} {ks ad : List Nat} {Psi : va_W → Prop} (hw : zworld ks ad zuq zNS Psi) (hm : zMan l D cI cZ cB cJ cR ks ad Psi) : zMet l D cI cZ cB cJ cR zKS ks ad Psi yX6_gaps (.code yX6_gaps cX6_gaps 2 (some .int)) 6 zc_886 :=
  zmet_of hw 6 (by decide) 4000 zk_886 (by decide) (by decide) (fun X => ⟨zg_RX6 X, zp_RX6 X, zl1_RX6 X, zl2_RX6 X, nilz, (List.forall_mem_cons.mpr ⟨zq_RX6_234 X (zM_930 hw hm) (by decide) rfl rfl, (List.forall_mem_cons.mpr ⟨zq_RX6_261 X (zM_888 hw hm) (by decide) rfl rfl, (List.forall_mem_cons.mpr ⟨zq_RX6_270 X (zman_1017 hm) (by decide) rfl rfl, nilz⟩)⟩)⟩)⟩)
set_option maxRecDepth 100000 in
theorem zk_891 : zmeth zKS zuq zNS zm_891 4000 = true := by decide +kernel
theorem zM_891 {l : Launch} {D : va_G} {cI cZ cB cJ cR : ClassId} {ks ad : List Nat} {Psi : va_W → Prop} (hw : zworld ks ad zuq zNS Psi) (hm : zMan l D cI cZ cB cJ cR ks ad Psi) : zMet l D cI cZ cB cJ cR zKS ks ad Psi yX6_guardedOf (.code yX6_guardedOf cX6_guardedOf 7 (some .int)) 6 zc_891 :=
  zmet_of hw 6 (by decide) 4000 zk_891 (by decide) (by decide) (fun X => ⟨zg_RX6 X, zp_RX6 X, zl1_RX6 X, zl2_RX6 X, nilz, (List.forall_mem_cons.mpr ⟨zq_RX6_227 X (zM_1061 hw hm) (by decide) rfl rfl, (List.forall_mem_cons.mpr ⟨zq_RX6_240 X (zM_921 hw hm) (by decide) rfl, (List.forall_mem_cons.mpr ⟨zq_RX6_261 X (zM_888 hw hm) (by decide) rfl rfl, (List.forall_mem_cons.mpr ⟨zq_RX6_264 X (zman_1119 hm) (by decide) rfl, (List.forall_mem_cons.mpr ⟨zq_RX6_270 X (zman_1017 hm) (by decide) rfl rfl, (List.forall_mem_cons.mpr ⟨zq_RX6_328 X (zM_1115 hw hm) (by decide) rfl rfl, nilz⟩)⟩)⟩)⟩)⟩)⟩)⟩)
set_option maxRecDepth 100000 in
theorem zk_1016 : zmeth zKS zuq zNS zm_1016 4000 = true := by decide +kernel
theorem zM_1016 {l : Launch} {D : va_G} {cI cZ cB cJ cR : ClassId} {ks ad : List Nat} {Psi : va_W → Prop} (hw : zworld ks ad zuq zNS Psi) (hm : zMan l D cI cZ cB cJ cR ks ad Psi) : zMet l D cI cZ cB cJ cR zKS ks ad Psi yX6_law (.code yX6_law cX6_law 6 (some .int)) 6 zc_1016 :=
  zmet_of hw 6 (by decide) 4000 zk_1016 (by decide) (by decide) (fun X => ⟨zg_RX6 X, zp_RX6 X, zl1_RX6 X, zl2_RX6 X, nilz, (List.forall_mem_cons.mpr ⟨zq_RX6_76 X (zM_911 hw hm) (by decide) rfl, (List.forall_mem_cons.mpr ⟨zq_RX6_227 X (zM_1061 hw hm) (by decide) rfl rfl, (List.forall_mem_cons.mpr ⟨zq_RX6_231 X (zM_898 hw hm) (by decide) rfl rfl, (List.forall_mem_cons.mpr ⟨zq_RX6_261 X (zM_888 hw hm) (by decide) rfl rfl, (List.forall_mem_cons.mpr ⟨zq_RX6_264 X (zman_1119 hm) (by decide) rfl, (List.forall_mem_cons.mpr ⟨zq_RX6_267 X (zM_928 hw hm) (by decide) rfl rfl, (List.forall_mem_cons.mpr ⟨zq_RX6_270 X (zman_1017 hm) (by decide) rfl rfl, nilz⟩)⟩)⟩)⟩)⟩)⟩)⟩)⟩)
set_option maxRecDepth 100000 in
theorem zk_1029_0 : zm1 zKS zuq zNS zm_1029 4000 zt_1029_0 = true := by decide +kernel
set_option maxRecDepth 100000 in
theorem zk_1029_1 : zm1 zKS zuq zNS zm_1029 4000 zt_1029_1 = true := by decide +kernel
set_option maxRecDepth 100000 in
theorem zk_1029_2 : zm1 zKS zuq zNS zm_1029 4000 zt_1029_2 = true := by decide +kernel
set_option maxRecDepth 100000 in
theorem zk_1029_3 : zm1 zKS zuq zNS zm_1029 4000 zt_1029_3 = true := by decide +kernel
set_option maxRecDepth 100000 in
theorem zk_1029_4 : zm1 zKS zuq zNS zm_1029 4000 zt_1029_4 = true := by decide +kernel
set_option maxRecDepth 100000 in
theorem zk_1029_5 : zm1 zKS zuq zNS zm_1029 4000 zt_1029_5 = true := by decide +kernel
set_option maxRecDepth 100000 in
theorem zk_1029_6 : zm1 zKS zuq zNS zm_1029 4000 zt_1029_6 = true := by decide +kernel
set_option maxRecDepth 100000 in
theorem zk_1029_7 : zm1 zKS zuq zNS zm_1029 4000 zt_1029_7 = true := by decide +kernel
set_option maxRecDepth 100000 in
theorem zk_1029_8 : zm1 zKS zuq zNS zm_1029 4000 zt_1029_8 = true := by decide +kernel
set_option maxRecDepth 100000 in
theorem zk_1029_9 : zm1 zKS zuq zNS zm_1029 4000 zt_1029_9 = true := by decide +kernel
set_option maxRecDepth 100000 in
theorem zk_1029_10 : zm1 zKS zuq zNS zm_1029 4000 zt_1029_10 = true := by decide +kernel
set_option maxRecDepth 100000 in
theorem zk_1029_11 : zm1 zKS zuq zNS zm_1029 4000 zt_1029_11 = true := by decide +kernel
set_option maxRecDepth 100000 in
theorem zk_1029_12 : zm1 zKS zuq zNS zm_1029 4000 zt_1029_12 = true := by decide +kernel
set_option maxRecDepth 100000 in
theorem zk_1029_13 : zm1 zKS zuq zNS zm_1029 4000 zt_1029_13 = true := by decide +kernel
set_option maxRecDepth 100000 in
theorem zk_1029_14 : zm1 zKS zuq zNS zm_1029 4000 zt_1029_14 = true := by decide +kernel
set_option maxRecDepth 100000 in
theorem zk_1029_15 : zm1 zKS zuq zNS zm_1029 4000 zt_1029_15 = true := by decide +kernel
set_option maxRecDepth 100000 in
theorem zk_1029_16 : zm1 zKS zuq zNS zm_1029 4000 zt_1029_16 = true := by decide +kernel
set_option maxRecDepth 100000 in
theorem zk_1029_17 : zm1 zKS zuq zNS zm_1029 4000 zt_1029_17 = true := by decide +kernel
set_option maxRecDepth 100000 in
theorem zk_1029_18 : zm1 zKS zuq zNS zm_1029 4000 zt_1029_18 = true := by decide +kernel
set_option maxRecDepth 100000 in
theorem zk_1029_19 : zm1 zKS zuq zNS zm_1029 4000 zt_1029_19 = true := by decide +kernel
set_option maxRecDepth 100000 in
theorem zk_1029_20 : zm1 zKS zuq zNS zm_1029 4000 zt_1029_20 = true := by decide +kernel
set_option maxRecDepth 100000 in
theorem zk_1029_21 : zm1 zKS zuq zNS zm_1029 4000 zt_1029_21 = true := by decide +kernel
set_option maxRecDepth 100000 in
theorem zk_1029_22 : zm1 zKS zuq zNS zm_1029 4000 zt_1029_22 = true := by decide +kernel
set_option maxRecDepth 100000 in
theorem zk_1029_23 : zm1 zKS zuq zNS zm_1029 4000 zt_1029_23 = true := by decide +kernel
set_option maxRecDepth 100000 in
theorem zk_1029_24 : zm1 zKS zuq zNS zm_1029 4000 zt_1029_24 = true := by decide +kernel
set_option maxRecDepth 100000 in
theorem zk_1029_25 : zm1 zKS zuq zNS zm_1029 4000 zt_1029_25 = true := by decide +kernel
set_option maxRecDepth 100000 in
theorem zk_1029_26 : zm1 zKS zuq zNS zm_1029 4000 zt_1029_26 = true := by decide +kernel
set_option maxRecDepth 100000 in
theorem zk_1029_27 : zm1 zKS zuq zNS zm_1029 4000 zt_1029_27 = true := by decide +kernel
set_option maxRecDepth 100000 in
theorem zk_1029_28 : zm1 zKS zuq zNS zm_1029 4000 zt_1029_28 = true := by decide +kernel
set_option maxRecDepth 100000 in
theorem zk_1029_29 : zm1 zKS zuq zNS zm_1029 4000 zt_1029_29 = true := by decide +kernel
set_option maxRecDepth 100000 in
theorem zk_1029_30 : zm1 zKS zuq zNS zm_1029 4000 zt_1029_30 = true := by decide +kernel
set_option maxRecDepth 100000 in
theorem zk_1029_31 : zm1 zKS zuq zNS zm_1029 4000 zt_1029_31 = true := by decide +kernel
set_option maxRecDepth 100000 in
theorem zk_1029_32 : zm1 zKS zuq zNS zm_1029 4000 zt_1029_32 = true := by decide +kernel
set_option maxRecDepth 100000 in
theorem zk_1029_33 : zm1 zKS zuq zNS zm_1029 4000 zt_1029_33 = true := by decide +kernel
set_option maxRecDepth 100000 in
theorem zk_1029_34 : zm1 zKS zuq zNS zm_1029 4000 zt_1029_34 = true := by decide +kernel
set_option maxRecDepth 100000 in
theorem zk_1029_35 : zm1 zKS zuq zNS zm_1029 4000 zt_1029_35 = true := by decide +kernel
set_option maxRecDepth 100000 in
theorem zk_1029_36 : zm1 zKS zuq zNS zm_1029 4000 zt_1029_36 = true := by decide +kernel
set_option maxRecDepth 100000 in
theorem zk_1029_37 : zm1 zKS zuq zNS zm_1029 4000 zt_1029_37 = true := by decide +kernel
set_option maxRecDepth 100000 in
theorem zk_1029_38 : zm1 zKS zuq zNS zm_1029 4000 zt_1029_38 = true := by decide +kernel
set_option maxRecDepth 100000 in
theorem zk_1029_39 : zm1 zKS zuq zNS zm_1029 4000 zt_1029_39 = true := by decide +kernel
set_option maxRecDepth 100000 in
theorem zk_1029_40 : zm1 zKS zuq zNS zm_1029 4000 zt_1029_40 = true := by decide +kernel
set_option maxRecDepth 100000 in
theorem zk_1029_41 : zm1 zKS zuq zNS zm_1029 4000 zt_1029_41 = true := by decide +kernel
set_option maxRecDepth 100000 in
theorem zk_1029_42 : zm1 zKS zuq zNS zm_1029 4000 zt_1029_42 = true := by decide +kernel
set_option maxRecDepth 100000 in
theorem zk_1029_43 : zm1 zKS zuq zNS zm_1029 4000 zt_1029_43 = true := by decide +kernel
set_option maxRecDepth 100000 in
theorem zk_1029_44 : zm1 zKS zuq zNS zm_1029 4000 zt_1029_44 = true := by decide +kernel
set_option maxRecDepth 100000 in
theorem zk_1029_45 : zm1 zKS zuq zNS zm_1029 4000 zt_1029_45 = true := by decide +kernel
set_option maxRecDepth 100000 in
theorem zk_1029_46 : zm1 zKS zuq zNS zm_1029 4000 zt_1029_46 = true := by decide +kernel
set_option maxRecDepth 100000 in
theorem zk_1029_47 : zm1 zKS zuq zNS zm_1029 4000 zt_1029_47 = true := by decide +kernel
set_option maxRecDepth 100000 in
theorem zk_1029_48 : zm1 zKS zuq zNS zm_1029 4000 zt_1029_48 = true := by decide +kernel
set_option maxRecDepth 100000 in
theorem zk_1029_49 : zm1 zKS zuq zNS zm_1029 4000 zt_1029_49 = true := by decide +kernel
set_option maxRecDepth 100000 in
theorem zk_1029_50 : zm1 zKS zuq zNS zm_1029 4000 zt_1029_50 = true := by decide +kernel
set_option maxRecDepth 100000 in
theorem zk_1029_51 : zm1 zKS zuq zNS zm_1029 4000 zt_1029_51 = true := by decide +kernel
set_option maxRecDepth 100000 in
theorem zk_1029_52 : zm1 zKS zuq zNS zm_1029 4000 zt_1029_52 = true := by decide +kernel
set_option maxRecDepth 100000 in
theorem zk_1029_53 : zm1 zKS zuq zNS zm_1029 4000 zt_1029_53 = true := by decide +kernel
set_option maxRecDepth 100000 in
theorem zk_1029_54 : zm1 zKS zuq zNS zm_1029 4000 zt_1029_54 = true := by decide +kernel
set_option maxRecDepth 100000 in
theorem zk_1029_55 : zm1 zKS zuq zNS zm_1029 4000 zt_1029_55 = true := by decide +kernel
set_option maxRecDepth 100000 in
theorem zk_1029_56 : zm1 zKS zuq zNS zm_1029 4000 zt_1029_56 = true := by decide +kernel
set_option maxRecDepth 100000 in
theorem zk_1029_57 : zm1 zKS zuq zNS zm_1029 4000 zt_1029_57 = true := by decide +kernel
set_option maxRecDepth 100000 in
theorem zk_1029_58 : zm1 zKS zuq zNS zm_1029 4000 zt_1029_58 = true := by decide +kernel
set_option maxRecDepth 100000 in
theorem zk_1029_59 : zm1 zKS zuq zNS zm_1029 4000 zt_1029_59 = true := by decide +kernel
set_option maxRecDepth 100000 in
theorem zk_1029_60 : zm1 zKS zuq zNS zm_1029 4000 zt_1029_60 = true := by decide +kernel
set_option maxRecDepth 100000 in
theorem zk_1029_61 : zm1 zKS zuq zNS zm_1029 4000 zt_1029_61 = true := by decide +kernel
set_option maxRecDepth 100000 in
theorem zk_1029_62 : zm1 zKS zuq zNS zm_1029 4000 zt_1029_62 = true := by decide +kernel
set_option maxRecDepth 100000 in
theorem zk_1029_63 : zm1 zKS zuq zNS zm_1029 4000 zt_1029_63 = true := by decide +kernel
set_option maxRecDepth 100000 in
theorem zk_1029_64 : zm1 zKS zuq zNS zm_1029 4000 zt_1029_64 = true := by decide +kernel
set_option maxRecDepth 100000 in
theorem zk_1029_65 : zm1 zKS zuq zNS zm_1029 4000 zt_1029_65 = true := by decide +kernel
set_option maxRecDepth 100000 in
theorem zk_1029_66 : zm1 zKS zuq zNS zm_1029 4000 zt_1029_66 = true := by decide +kernel
set_option maxRecDepth 100000 in
theorem zk_1029_67 : zm1 zKS zuq zNS zm_1029 4000 zt_1029_67 = true := by decide +kernel
set_option maxRecDepth 100000 in
theorem zk_1029_68 : zm1 zKS zuq zNS zm_1029 4000 zt_1029_68 = true := by decide +kernel
set_option maxRecDepth 100000 in
theorem zk_1029_69 : zm1 zKS zuq zNS zm_1029 4000 zt_1029_69 = true := by decide +kernel
set_option maxRecDepth 100000 in
theorem zk_1029_70 : zm1 zKS zuq zNS zm_1029 4000 zt_1029_70 = true := by decide +kernel
set_option maxRecDepth 100000 in
theorem zk_1029_71 : zm1 zKS zuq zNS zm_1029 4000 zt_1029_71 = true := by decide +kernel
set_option maxRecDepth 100000 in
theorem zk_1029_72 : zm1 zKS zuq zNS zm_1029 4000 zt_1029_72 = true := by decide +kernel
set_option maxRecDepth 100000 in
theorem zk_1029_73 : zm1 zKS zuq zNS zm_1029 4000 zt_1029_73 = true := by decide +kernel
set_option maxRecDepth 100000 in
theorem zk_1029_74 : zm1 zKS zuq zNS zm_1029 4000 zt_1029_74 = true := by decide +kernel
set_option maxRecDepth 100000 in
theorem zk_1029_75 : zm1 zKS zuq zNS zm_1029 4000 zt_1029_75 = true := by decide +kernel
set_option maxRecDepth 100000 in
theorem zk_1029_76 : zm1 zKS zuq zNS zm_1029 4000 zt_1029_76 = true := by decide +kernel
set_option maxRecDepth 100000 in
theorem zk_1029_77 : zm1 zKS zuq zNS zm_1029 4000 zt_1029_77 = true := by decide +kernel
set_option maxRecDepth 100000 in
theorem zk_1029_78 : zm1 zKS zuq zNS zm_1029 4000 zt_1029_78 = true := by decide +kernel
set_option maxRecDepth 100000 in
theorem zk_1029_79 : zm1 zKS zuq zNS zm_1029 4000 zt_1029_79 = true := by decide +kernel
set_option maxRecDepth 100000 in
theorem zk_1029_80 : zm1 zKS zuq zNS zm_1029 4000 zt_1029_80 = true := by decide +kernel
set_option maxRecDepth 100000 in
theorem zk_1029_81 : zm1 zKS zuq zNS zm_1029 4000 zt_1029_81 = true := by decide +kernel
set_option maxRecDepth 100000 in
theorem zk_1029_82 : zm1 zKS zuq zNS zm_1029 4000 zt_1029_82 = true := by decide +kernel
set_option maxRecDepth 100000 in
theorem zk_1029_83 : zm1 zKS zuq zNS zm_1029 4000 zt_1029_83 = true := by decide +kernel
set_option maxRecDepth 100000 in
theorem zk_1029_s : zm0 zKS zuq zNS zm_1029 4000 = true := by decide +kernel
theorem zk_1029 : zmeth zKS zuq zNS zm_1029 4000 = true := zmeth_by zk_1029_s (List.forall_mem_cons.mpr ⟨zk_1029_0, (List.forall_mem_cons.mpr ⟨zk_1029_1, (List.forall_mem_cons.mpr ⟨zk_1029_2, (List.forall_mem_cons.mpr ⟨zk_1029_3, (List.forall_mem_cons.mpr ⟨zk_1029_4, (List.forall_mem_cons.mpr ⟨zk_1029_5, (List.forall_mem_cons.mpr ⟨zk_1029_6, (List.forall_mem_cons.mpr ⟨zk_1029_7, (List.forall_mem_cons.mpr ⟨zk_1029_8, (List.forall_mem_cons.mpr ⟨zk_1029_9, (List.forall_mem_cons.mpr ⟨zk_1029_10, (List.forall_mem_cons.mpr ⟨zk_1029_11, (List.forall_mem_cons.mpr ⟨zk_1029_12, (List.forall_mem_cons.mpr ⟨zk_1029_13, (List.forall_mem_cons.mpr ⟨zk_1029_14, (List.forall_mem_cons.mpr ⟨zk_1029_15, (List.forall_mem_cons.mpr ⟨zk_1029_16, (List.forall_mem_cons.mpr ⟨zk_1029_17, (List.forall_mem_cons.mpr ⟨zk_1029_18, (List.forall_mem_cons.mpr ⟨zk_1029_19, (List.forall_mem_cons.mpr ⟨zk_1029_20, (List.forall_mem_cons.mpr ⟨zk_1029_21, (List.forall_mem_cons.mpr ⟨zk_1029_22, (List.forall_mem_cons.mpr ⟨zk_1029_23, (List.forall_mem_cons.mpr ⟨zk_1029_24, (List.forall_mem_cons.mpr ⟨zk_1029_25, (List.forall_mem_cons.mpr ⟨zk_1029_26, (List.forall_mem_cons.mpr ⟨zk_1029_27, (List.forall_mem_cons.mpr ⟨zk_1029_28, (List.forall_mem_cons.mpr ⟨zk_1029_29, (List.forall_mem_cons.mpr ⟨zk_1029_30, (List.forall_mem_cons.mpr ⟨zk_1029_31, (List.forall_mem_cons.mpr ⟨zk_1029_32, (List.forall_mem_cons.mpr ⟨zk_1029_33, (List.forall_mem_cons.mpr ⟨zk_1029_34, (List.forall_mem_cons.mpr ⟨zk_1029_35, (List.forall_mem_cons.mpr ⟨zk_1029_36, (List.forall_mem_cons.mpr ⟨zk_1029_37, (List.forall_mem_cons.mpr ⟨zk_1029_38, (List.forall_mem_cons.mpr ⟨zk_1029_39, (List.forall_mem_cons.mpr ⟨zk_1029_40, (List.forall_mem_cons.mpr ⟨zk_1029_41, (List.forall_mem_cons.mpr ⟨zk_1029_42, (List.forall_mem_cons.mpr ⟨zk_1029_43, (List.forall_mem_cons.mpr ⟨zk_1029_44, (List.forall_mem_cons.mpr ⟨zk_1029_45, (List.forall_mem_cons.mpr ⟨zk_1029_46, (List.forall_mem_cons.mpr ⟨zk_1029_47, (List.forall_mem_cons.mpr ⟨zk_1029_48, (List.forall_mem_cons.mpr ⟨zk_1029_49, (List.forall_mem_cons.mpr ⟨zk_1029_50, (List.forall_mem_cons.mpr ⟨zk_1029_51, (List.forall_mem_cons.mpr ⟨zk_1029_52, (List.forall_mem_cons.mpr ⟨zk_1029_53, (List.forall_mem_cons.mpr ⟨zk_1029_54, (List.forall_mem_cons.mpr ⟨zk_1029_55, (List.forall_mem_cons.mpr ⟨zk_1029_56, (List.forall_mem_cons.mpr ⟨zk_1029_57, (List.forall_mem_cons.mpr ⟨zk_1029_58, (List.forall_mem_cons.mpr ⟨zk_1029_59, (List.forall_mem_cons.mpr ⟨zk_1029_60, (List.forall_mem_cons.mpr ⟨zk_1029_61, (List.forall_mem_cons.mpr ⟨zk_1029_62, (List.forall_mem_cons.mpr ⟨zk_1029_63, (List.forall_mem_cons.mpr ⟨zk_1029_64, (List.forall_mem_cons.mpr ⟨zk_1029_65, (List.forall_mem_cons.mpr ⟨zk_1029_66, (List.forall_mem_cons.mpr ⟨zk_1029_67, (List.forall_mem_cons.mpr ⟨zk_1029_68, (List.forall_mem_cons.mpr ⟨zk_1029_69, (List.forall_mem_cons.mpr ⟨zk_1029_70, (List.forall_mem_cons.mpr ⟨zk_1029_71, (List.forall_mem_cons.mpr ⟨zk_1029_72, (List.forall_mem_cons.mpr ⟨zk_1029_73, (List.forall_mem_cons.mpr ⟨zk_1029_74, (List.forall_mem_cons.mpr ⟨zk_1029_75, (List.forall_mem_cons.mpr ⟨zk_1029_76, (List.forall_mem_cons.mpr ⟨zk_1029_77, (List.forall_mem_cons.mpr ⟨zk_1029_78, (List.forall_mem_cons.mpr ⟨zk_1029_79, (List.forall_mem_cons.mpr ⟨zk_1029_80, (List.forall_mem_cons.mpr ⟨zk_1029_81, (List.forall_mem_cons.mpr ⟨zk_1029_82, (List.forall_mem_cons.mpr ⟨zk_1029_83, nilz⟩)⟩)⟩)⟩)⟩)⟩)⟩)⟩)⟩)⟩)⟩)⟩)⟩)⟩)⟩)⟩)⟩)⟩)⟩)⟩)⟩)⟩)⟩)⟩)⟩)⟩)⟩)⟩)⟩)⟩)⟩)⟩)⟩)⟩)⟩)⟩)⟩)⟩)⟩)⟩)⟩)⟩)⟩)⟩)⟩)⟩)⟩)⟩)⟩)⟩)⟩)⟩)⟩)⟩)⟩)⟩)⟩)⟩)⟩)⟩)⟩)⟩)⟩)⟩)⟩)⟩)⟩)⟩)⟩)⟩)⟩)⟩)⟩)⟩)⟩)⟩)⟩)⟩)⟩)⟩)⟩)⟩)⟩)⟩)
theorem zM_1029 {l : Launch} {D : va_G} {cI cZ cB cJ cR : ClassId} {ks ad : List Nat} {Psi : va_W → Prop} (hw : zworld ks ad zuq zNS Psi) (hm : zMan l D cI cZ cB cJ cR ks ad Psi) : zMet l D cI cZ cB cJ cR zKS ks ad Psi yX6_liars (.code yX6_liars cX6_liars 5 (some .int)) 6 zc_1029 :=
  zmet_of hw 6 (by decide) 4000 zk_1029 (by decide) (by decide) (fun X => ⟨zg_RX6 X, zp_RX6 X, zl1_RX6 X, zl2_RX6 X, nilz, (List.forall_mem_cons.mpr ⟨zq_RX6_364 X (zM_1168 hw hm) (by decide) rfl rfl, (List.forall_mem_cons.mpr ⟨zq_RX6_364 X (zM_1169 hw hm) (by decide) rfl rfl, (List.forall_mem_cons.mpr ⟨zq_RX6_364 X (zM_1170 hw hm) (by decide) rfl rfl, (List.forall_mem_cons.mpr ⟨zq_RX6_364 X (zM_1171 hw hm) (by decide) rfl rfl, (List.forall_mem_cons.mpr ⟨zq_RX6_364 X (zM_1172 hw hm) (by decide) rfl rfl, (List.forall_mem_cons.mpr ⟨zq_RX6_364 X (zM_1167 hw hm) (by decide) rfl rfl, (List.forall_mem_cons.mpr ⟨zq_RX6_367 X (zM_936 hw hm) (by decide) rfl rfl, (List.forall_mem_cons.mpr ⟨zq_RX6_367 X (zM_937 hw hm) (by decide) rfl rfl, (List.forall_mem_cons.mpr ⟨zq_RX6_367 X (zM_938 hw hm) (by decide) rfl rfl, (List.forall_mem_cons.mpr ⟨zq_RX6_367 X (zM_939 hw hm) (by decide) rfl rfl, (List.forall_mem_cons.mpr ⟨zq_RX6_367 X (zM_940 hw hm) (by decide) rfl rfl, (List.forall_mem_cons.mpr ⟨zq_RX6_367 X (zM_941 hw hm) (by decide) rfl rfl, (List.forall_mem_cons.mpr ⟨zq_RX6_367 X (zM_942 hw hm) (by decide) rfl rfl, (List.forall_mem_cons.mpr ⟨zq_RX6_367 X (zM_943 hw hm) (by decide) rfl rfl, (List.forall_mem_cons.mpr ⟨zq_RX6_367 X (zM_944 hw hm) (by decide) rfl rfl, (List.forall_mem_cons.mpr ⟨zq_RX6_367 X (zM_945 hw hm) (by decide) rfl rfl, (List.forall_mem_cons.mpr ⟨zq_RX6_367 X (zM_946 hw hm) (by decide) rfl rfl, (List.forall_mem_cons.mpr ⟨zq_RX6_367 X (zM_947 hw hm) (by decide) rfl rfl, (List.forall_mem_cons.mpr ⟨zq_RX6_367 X (zM_948 hw hm) (by decide) rfl rfl, (List.forall_mem_cons.mpr ⟨zq_RX6_367 X (zM_949 hw hm) (by decide) rfl rfl, (List.forall_mem_cons.mpr ⟨zq_RX6_367 X (zM_950 hw hm) (by decide) rfl rfl, (List.forall_mem_cons.mpr ⟨zq_RX6_367 X (zM_951 hw hm) (by decide) rfl rfl, (List.forall_mem_cons.mpr ⟨zq_RX6_367 X (zM_952 hw hm) (by decide) rfl rfl, (List.forall_mem_cons.mpr ⟨zq_RX6_367 X (zM_953 hw hm) (by decide) rfl rfl, (List.forall_mem_cons.mpr ⟨zq_RX6_367 X (zM_954 hw hm) (by decide) rfl rfl, (List.forall_mem_cons.mpr ⟨zq_RX6_367 X (zM_955 hw hm) (by decide) rfl rfl, (List.forall_mem_cons.mpr ⟨zq_RX6_367 X (zM_956 hw hm) (by decide) rfl rfl, (List.forall_mem_cons.mpr ⟨zq_RX6_367 X (zM_957 hw hm) (by decide) rfl rfl, (List.forall_mem_cons.mpr ⟨zq_RX6_367 X (zM_958 hw hm) (by decide) rfl rfl, (List.forall_mem_cons.mpr ⟨zq_RX6_367 X (zM_959 hw hm) (by decide) rfl rfl, (List.forall_mem_cons.mpr ⟨zq_RX6_367 X (zM_960 hw hm) (by decide) rfl rfl, (List.forall_mem_cons.mpr ⟨zq_RX6_367 X (zM_961 hw hm) (by decide) rfl rfl, (List.forall_mem_cons.mpr ⟨zq_RX6_367 X (zM_962 hw hm) (by decide) rfl rfl, (List.forall_mem_cons.mpr ⟨zq_RX6_367 X (zM_963 hw hm) (by decide) rfl rfl, (List.forall_mem_cons.mpr ⟨zq_RX6_367 X (zM_964 hw hm) (by decide) rfl rfl, (List.forall_mem_cons.mpr ⟨zq_RX6_367 X (zM_965 hw hm) (by decide) rfl rfl, (List.forall_mem_cons.mpr ⟨zq_RX6_367 X (zM_966 hw hm) (by decide) rfl rfl, (List.forall_mem_cons.mpr ⟨zq_RX6_367 X (zM_967 hw hm) (by decide) rfl rfl, (List.forall_mem_cons.mpr ⟨zq_RX6_367 X (zM_968 hw hm) (by decide) rfl rfl, (List.forall_mem_cons.mpr ⟨zq_RX6_367 X (zM_969 hw hm) (by decide) rfl rfl, (List.forall_mem_cons.mpr ⟨zq_RX6_367 X (zM_970 hw hm) (by decide) rfl rfl, (List.forall_mem_cons.mpr ⟨zq_RX6_367 X (zM_971 hw hm) (by decide) rfl rfl, (List.forall_mem_cons.mpr ⟨zq_RX6_367 X (zM_972 hw hm) (by decide) rfl rfl, (List.forall_mem_cons.mpr ⟨zq_RX6_367 X (zM_973 hw hm) (by decide) rfl rfl, (List.forall_mem_cons.mpr ⟨zq_RX6_367 X (zM_974 hw hm) (by decide) rfl rfl, (List.forall_mem_cons.mpr ⟨zq_RX6_367 X (zM_975 hw hm) (by decide) rfl rfl, (List.forall_mem_cons.mpr ⟨zq_RX6_367 X (zM_976 hw hm) (by decide) rfl rfl, (List.forall_mem_cons.mpr ⟨zq_RX6_367 X (zM_977 hw hm) (by decide) rfl rfl, (List.forall_mem_cons.mpr ⟨zq_RX6_367 X (zM_978 hw hm) (by decide) rfl rfl, (List.forall_mem_cons.mpr ⟨zq_RX6_367 X (zM_979 hw hm) (by decide) rfl rfl, (List.forall_mem_cons.mpr ⟨zq_RX6_367 X (zM_980 hw hm) (by decide) rfl rfl, (List.forall_mem_cons.mpr ⟨zq_RX6_367 X (zM_981 hw hm) (by decide) rfl rfl, (List.forall_mem_cons.mpr ⟨zq_RX6_367 X (zM_982 hw hm) (by decide) rfl rfl, (List.forall_mem_cons.mpr ⟨zq_RX6_367 X (zM_983 hw hm) (by decide) rfl rfl, (List.forall_mem_cons.mpr ⟨zq_RX6_367 X (zM_984 hw hm) (by decide) rfl rfl, (List.forall_mem_cons.mpr ⟨zq_RX6_367 X (zM_985 hw hm) (by decide) rfl rfl, (List.forall_mem_cons.mpr ⟨zq_RX6_367 X (zM_986 hw hm) (by decide) rfl rfl, (List.forall_mem_cons.mpr ⟨zq_RX6_367 X (zM_987 hw hm) (by decide) rfl rfl, (List.forall_mem_cons.mpr ⟨zq_RX6_367 X (zM_988 hw hm) (by decide) rfl rfl, (List.forall_mem_cons.mpr ⟨zq_RX6_367 X (zM_989 hw hm) (by decide) rfl rfl, (List.forall_mem_cons.mpr ⟨zq_RX6_367 X (zM_990 hw hm) (by decide) rfl rfl, (List.forall_mem_cons.mpr ⟨zq_RX6_367 X (zM_991 hw hm) (by decide) rfl rfl, (List.forall_mem_cons.mpr ⟨zq_RX6_367 X (zM_992 hw hm) (by decide) rfl rfl, (List.forall_mem_cons.mpr ⟨zq_RX6_367 X (zM_993 hw hm) (by decide) rfl rfl, (List.forall_mem_cons.mpr ⟨zq_RX6_367 X (zM_994 hw hm) (by decide) rfl rfl, (List.forall_mem_cons.mpr ⟨zq_RX6_367 X (zM_995 hw hm) (by decide) rfl rfl, (List.forall_mem_cons.mpr ⟨zq_RX6_367 X (zM_996 hw hm) (by decide) rfl rfl, (List.forall_mem_cons.mpr ⟨zq_RX6_367 X (zM_997 hw hm) (by decide) rfl rfl, (List.forall_mem_cons.mpr ⟨zq_RX6_367 X (zM_998 hw hm) (by decide) rfl rfl, (List.forall_mem_cons.mpr ⟨zq_RX6_367 X (zM_999 hw hm) (by decide) rfl rfl, (List.forall_mem_cons.mpr ⟨zq_RX6_367 X (zM_1000 hw hm) (by decide) rfl rfl, (List.forall_mem_cons.mpr ⟨zq_RX6_367 X (zM_1001 hw hm) (by decide) rfl rfl, (List.forall_mem_cons.mpr ⟨zq_RX6_367 X (zM_1002 hw hm) (by decide) rfl rfl, (List.forall_mem_cons.mpr ⟨zq_RX6_367 X (zM_1003 hw hm) (by decide) rfl rfl, (List.forall_mem_cons.mpr ⟨zq_RX6_367 X (zM_1004 hw hm) (by decide) rfl rfl, (List.forall_mem_cons.mpr ⟨zq_RX6_367 X (zM_1005 hw hm) (by decide) rfl rfl, (List.forall_mem_cons.mpr ⟨zq_RX6_367 X (zM_1006 hw hm) (by decide) rfl rfl, (List.forall_mem_cons.mpr ⟨zq_RX6_367 X (zM_1007 hw hm) (by decide) rfl rfl, (List.forall_mem_cons.mpr ⟨zq_RX6_367 X (zM_1008 hw hm) (by decide) rfl rfl, (List.forall_mem_cons.mpr ⟨zq_RX6_367 X (zM_1009 hw hm) (by decide) rfl rfl, (List.forall_mem_cons.mpr ⟨zq_RX6_367 X (zM_1010 hw hm) (by decide) rfl rfl, (List.forall_mem_cons.mpr ⟨zq_RX6_367 X (zM_1011 hw hm) (by decide) rfl rfl, (List.forall_mem_cons.mpr ⟨zq_RX6_367 X (zM_1012 hw hm) (by decide) rfl rfl, (List.forall_mem_cons.mpr ⟨zq_RX6_367 X (zM_1013 hw hm) (by decide) rfl rfl, (List.forall_mem_cons.mpr ⟨zq_RX6_367 X (zM_1014 hw hm) (by decide) rfl rfl, (List.forall_mem_cons.mpr ⟨zq_RX6_367 X (zM_1015 hw hm) (by decide) rfl rfl, nilz⟩)⟩)⟩)⟩)⟩)⟩)⟩)⟩)⟩)⟩)⟩)⟩)⟩)⟩)⟩)⟩)⟩)⟩)⟩)⟩)⟩)⟩)⟩)⟩)⟩)⟩)⟩)⟩)⟩)⟩)⟩)⟩)⟩)⟩)⟩)⟩)⟩)⟩)⟩)⟩)⟩)⟩)⟩)⟩)⟩)⟩)⟩)⟩)⟩)⟩)⟩)⟩)⟩)⟩)⟩)⟩)⟩)⟩)⟩)⟩)⟩)⟩)⟩)⟩)⟩)⟩)⟩)⟩)⟩)⟩)⟩)⟩)⟩)⟩)⟩)⟩)⟩)⟩)⟩)⟩)⟩)⟩)⟩)⟩)⟩)⟩)⟩)
