set_option maxRecDepth 100000 in
theorem zk_836 : zmeth zKS zuq zNS zm_836 4000 = true := zqF (zdt0 _) (by decide +kernel)
theorem zM_836 {l : Launch} {D : va_G} {cI cZ cB cJ cR : ClassId} {ks ad : List Nat} {Psi : va_W → Prop} (hw : zworld ks ad zuq zNS Psi) (hm : zMan l D cI cZ cB cJ cR ks ad Psi) : zMet l D cI cZ cB cJ cR zKS ks ad Psi yX6_back (.code yX6_back cX6_back 2 (some .int)) 4 zc_836 :=
  zmet_of hw 4 (by decide) 4000 zk_836 (by decide) (by decide) (fun X => ⟨zg_RX6 X, zp_RX6 X, zl1_RX6 X, zl2_RX6 X, nilz, (List.forall_mem_cons.mpr ⟨zq_RX6_76 X (zM_904 hw hm) (by decide) rfl, (List.forall_mem_cons.mpr ⟨zq_RX6_220 X (zM_852 hw hm) (by decide) rfl rfl, nilz⟩)⟩)⟩)
set_option maxRecDepth 100000 in
theorem zk_899 : zmeth zKS zuq zNS zm_899 4000 = true := zqF (zdt0 _) (by decide +kernel)
theorem zM_899 {l : Launch} {D : va_G} {cI cZ cB cJ cR : ClassId} {ks ad : List Nat} {Psi : va_W → Prop} (hw : zworld ks ad zuq zNS Psi) (hm : zMan l D cI cZ cB cJ cR ks ad Psi) : zMet l D cI cZ cB cJ cR zKS ks ad Psi yX6_image (.code yX6_image cX6_image 2 (some .int)) 4 zc_899 :=
  zmet_of hw 4 (by decide) 4000 zk_899 (by decide) (by decide) (fun X => ⟨zg_RX6 X, zp_RX6 X, zl1_RX6 X, zl2_RX6 X, nilz, (List.forall_mem_cons.mpr ⟨zq_RX6_76 X (zM_904 hw hm) (by decide) rfl, (List.forall_mem_cons.mpr ⟨zq_RX6_220 X (zM_852 hw hm) (by decide) rfl rfl, nilz⟩)⟩)⟩)
set_option maxRecDepth 100000 in
theorem zk_925 : zmeth zKS zuq zNS zm_925 4000 = true := zqF (zdt0 _) (by decide +kernel)
theorem zM_925 {l : Launch} {D : va_G} {cI cZ cB cJ cR : ClassId} {ks ad : List Nat} {Psi : va_W → Prop} (hw : zworld ks ad zuq zNS Psi) (hm : zMan l D cI cZ cB cJ cR ks ad Psi) : zMet l D cI cZ cB cJ cR zKS ks ad Psi yX6_isGap (.code yX6_isGap cX6_isGap 5 (some .boolean)) 4 zc_925 :=
  zmet_of hw 4 (by decide) 4000 zk_925 (by decide) (by decide) (fun X => ⟨zg_RX6 X, zp_RX6 X, zl1_RX6 X, zl2_RX6 X, nilz, (List.forall_mem_cons.mpr ⟨zq_RX6_227 X (zM_1061 hw hm) (by decide) rfl rfl, (List.forall_mem_cons.mpr ⟨zq_RX6_253 X (zM_934 hw hm) (by decide) rfl rfl, nilz⟩)⟩)⟩)
set_option maxRecDepth 100000 in
theorem zk_1050 : zmeth zKS zuq zNS zm_1050 4000 = true := zqF (zdt_X6_number_) (by decide +kernel)
theorem zM_1050 {l : Launch} {D : va_G} {cI cZ cB cJ cR : ClassId} {ks ad : List Nat} {Psi : va_W → Prop} (hw : zworld ks ad zuq zNS Psi) (hm : zMan l D cI cZ cB cJ cR ks ad Psi) : zMet l D cI cZ cB cJ cR zKS ks ad Psi yX6_number_ (.code yX6_number_ cX6_number_ 5 (some .int)) 4 zc_1050 :=
  zmet_of hw 4 (by decide) 4000 zk_1050 (by decide) (by decide) (fun X => ⟨zg_RX6 X, zp_RX6 X, zl1_RX6 X, zl2_RX6 X, nilz, (List.forall_mem_cons.mpr ⟨zq_RX6_142 X (zM_834 hw hm) (by decide) rfl rfl, (List.forall_mem_cons.mpr ⟨zq_RX6_146 X (zM_1045 hw hm) (by decide) rfl rfl, nilz⟩)⟩)⟩)
set_option maxRecDepth 100000 in
theorem zk_1051 : zmeth zKS zuq zNS zm_1051 4000 = true := zqF (zdt_X6_number_) (by decide +kernel)
theorem zM_1051 {l : Launch} {D : va_G} {cI cZ cB cJ cR : ClassId} {ks ad : List Nat} {Psi : va_W → Prop} (hw : zworld ks ad zuq zNS Psi) (hm : zMan l D cI cZ cB cJ cR ks ad Psi) : zMet l D cI cZ cB cJ cR zKS ks ad Psi yX6_number_ (.code yX6_number_ cX6_number_ 5 (some .int)) 4 zc_1051 :=
  zmet_of hw 4 (by decide) 4000 zk_1051 (by decide) (by decide) (fun X => ⟨zg_RX6 X, zp_RX6 X, zl1_RX6 X, zl2_RX6 X, nilz, (List.forall_mem_cons.mpr ⟨zq_RX6_142 X (zM_834 hw hm) (by decide) rfl rfl, (List.forall_mem_cons.mpr ⟨zq_RX6_146 X (zM_1046 hw hm) (by decide) rfl rfl, nilz⟩)⟩)⟩)
set_option maxRecDepth 100000 in
theorem zk_1052 : zmeth zKS zuq zNS zm_1052 4000 = true := zqF (zdt_X6_number_) (by decide +kernel)
theorem zM_1052 {l : Launch} {D : va_G} {cI cZ cB cJ cR : ClassId} {ks ad : List Nat} {Psi : va_W → Prop} (hw : zworld ks ad zuq zNS Psi) (hm : zMan l D cI cZ cB cJ cR ks ad Psi) : zMet l D cI cZ cB cJ cR zKS ks ad Psi yX6_number_ (.code yX6_number_ cX6_number_ 5 (some .int)) 4 zc_1052 :=
  zmet_of hw 4 (by decide) 4000 zk_1052 (by decide) (by decide) (fun X => ⟨zg_RX6 X, zp_RX6 X, zl1_RX6 X, zl2_RX6 X, nilz, (List.forall_mem_cons.mpr ⟨zq_RX6_142 X (zM_834 hw hm) (by decide) rfl rfl, (List.forall_mem_cons.mpr ⟨zq_RX6_146 X (zM_1048 hw hm) (by decide) rfl rfl, nilz⟩)⟩)⟩)
set_option maxRecDepth 100000 in
theorem zk_1053 : zmeth zKS zuq zNS zm_1053 4000 = true := zqF (zdt_X6_number_) (by decide +kernel)
theorem zM_1053 {l : Launch} {D : va_G} {cI cZ cB cJ cR : ClassId} {ks ad : List Nat} {Psi : va_W → Prop} (hw : zworld ks ad zuq zNS Psi) (hm : zMan l D cI cZ cB cJ cR ks ad Psi) : zMet l D cI cZ cB cJ cR zKS ks ad Psi yX6_number_ (.code yX6_number_ cX6_number_ 5 (some .int)) 4 zc_1053 :=
  zmet_of hw 4 (by decide) 4000 zk_1053 (by decide) (by decide) (fun X => ⟨zg_RX6 X, zp_RX6 X, zl1_RX6 X, zl2_RX6 X, nilz, (List.forall_mem_cons.mpr ⟨zq_RX6_142 X (zM_834 hw hm) (by decide) rfl rfl, (List.forall_mem_cons.mpr ⟨zq_RX6_146 X (zM_1043 hw hm) (by decide) rfl rfl, nilz⟩)⟩)⟩)
set_option maxRecDepth 100000 in
theorem zk_1054 : zmeth zKS zuq zNS zm_1054 4000 = true := zqF (zdt_X6_number_) (by decide +kernel)
theorem zM_1054 {l : Launch} {D : va_G} {cI cZ cB cJ cR : ClassId} {ks ad : List Nat} {Psi : va_W → Prop} (hw : zworld ks ad zuq zNS Psi) (hm : zMan l D cI cZ cB cJ cR ks ad Psi) : zMet l D cI cZ cB cJ cR zKS ks ad Psi yX6_number_ (.code yX6_number_ cX6_number_ 5 (some .int)) 4 zc_1054 :=
  zmet_of hw 4 (by decide) 4000 zk_1054 (by decide) (by decide) (fun X => ⟨zg_RX6 X, zp_RX6 X, zl1_RX6 X, zl2_RX6 X, nilz, (List.forall_mem_cons.mpr ⟨zq_RX6_142 X (zM_834 hw hm) (by decide) rfl rfl, (List.forall_mem_cons.mpr ⟨zq_RX6_146 X (zM_1049 hw hm) (by decide) rfl rfl, nilz⟩)⟩)⟩)
set_option maxRecDepth 100000 in
theorem zk_1055 : zmeth zKS zuq zNS zm_1055 4000 = true := zqF (zdt_X6_number_) (by decide +kernel)
theorem zM_1055 {l : Launch} {D : va_G} {cI cZ cB cJ cR : ClassId} {ks ad : List Nat} {Psi : va_W → Prop} (hw : zworld ks ad zuq zNS Psi) (hm : zMan l D cI cZ cB cJ cR ks ad Psi) : zMet l D cI cZ cB cJ cR zKS ks ad Psi yX6_number_ (.code yX6_number_ cX6_number_ 5 (some .int)) 4 zc_1055 :=
  zmet_of hw 4 (by decide) 4000 zk_1055 (by decide) (by decide) (fun X => ⟨zg_RX6 X, zp_RX6 X, zl1_RX6 X, zl2_RX6 X, nilz, (List.forall_mem_cons.mpr ⟨zq_RX6_142 X (zM_834 hw hm) (by decide) rfl rfl, (List.forall_mem_cons.mpr ⟨zq_RX6_146 X (zM_1047 hw hm) (by decide) rfl rfl, nilz⟩)⟩)⟩)
set_option maxRecDepth 100000 in
theorem zk_1056 : zmeth zKS zuq zNS zm_1056 4000 = true := zqF (zdt_X6_number_) (by decide +kernel)
theorem zM_1056 {l : Launch} {D : va_G} {cI cZ cB cJ cR : ClassId} {ks ad : List Nat} {Psi : va_W → Prop} (hw : zworld ks ad zuq zNS Psi) (hm : zMan l D cI cZ cB cJ cR ks ad Psi) : zMet l D cI cZ cB cJ cR zKS ks ad Psi yX6_number_ (.code yX6_number_ cX6_number_ 5 (some .int)) 4 zc_1056 :=
  zmet_of hw 4 (by decide) 4000 zk_1056 (by decide) (by decide) (fun X => ⟨zg_RX6 X, zp_RX6 X, zl1_RX6 X, zl2_RX6 X, nilz, (List.forall_mem_cons.mpr ⟨zq_RX6_142 X (zM_834 hw hm) (by decide) rfl rfl, (List.forall_mem_cons.mpr ⟨zq_RX6_146 X (zM_1041 hw hm) (by decide) rfl rfl, nilz⟩)⟩)⟩)
set_option maxRecDepth 100000 in
theorem zk_1057 : zmeth zKS zuq zNS zm_1057 4000 = true := zqF (zdt_X6_number_) (by decide +kernel)
theorem zM_1057 {l : Launch} {D : va_G} {cI cZ cB cJ cR : ClassId} {ks ad : List Nat} {Psi : va_W → Prop} (hw : zworld ks ad zuq zNS Psi) (hm : zMan l D cI cZ cB cJ cR ks ad Psi) : zMet l D cI cZ cB cJ cR zKS ks ad Psi yX6_number_ (.code yX6_number_ cX6_number_ 5 (some .int)) 4 zc_1057 :=
  zmet_of hw 4 (by decide) 4000 zk_1057 (by decide) (by decide) (fun X => ⟨zg_RX6 X, zp_RX6 X, zl1_RX6 X, zl2_RX6 X, nilz, (List.forall_mem_cons.mpr ⟨zq_RX6_142 X (zM_834 hw hm) (by decide) rfl rfl, (List.forall_mem_cons.mpr ⟨zq_RX6_146 X (zM_1039 hw hm) (by decide) rfl rfl, nilz⟩)⟩)⟩)
set_option maxRecDepth 100000 in
theorem zk_636 : zmeth zKS zuq zNS zm_636 4000 = true := zqF (zdt0 _) (by decide +kernel)
theorem zM_636 {l : Launch} {D : va_G} {cI cZ cB cJ cR : ClassId} {ks ad : List Nat} {Psi : va_W → Prop} (hw : zworld ks ad zuq zNS Psi) (hm : zMan l D cI cZ cB cJ cR ks ad Psi) : zMet l D cI cZ cB cJ cR zKS ks ad Psi yX5_bestAsked (.code yX5_bestAsked cX5_bestAsked 7 (some .int)) 5 zc_636 :=
  zmet_of hw 5 (by decide) 4000 zk_636 (by decide) (by decide) (fun X => ⟨zg_RX5 X, zp_RX5 X, zl1_RX5 X, zl2_RX5 X, nilz, (List.forall_mem_cons.mpr ⟨zq_RX5_149 X (zM_0 hw hm) (by decide) rfl, (List.forall_mem_cons.mpr ⟨zq_RX5_233 X (zM_806 hw hm) (by decide) rfl rfl, (List.forall_mem_cons.mpr ⟨zq_RX5_239 X (zM_356 hw hm) (by decide) rfl rfl, (List.forall_mem_cons.mpr ⟨zq_RX5_243 X (zM_755 hw hm) (by decide) rfl rfl, (List.forall_mem_cons.mpr ⟨zq_RX5_250 X (zM_597 hw hm) (by decide) rfl rfl, nilz⟩)⟩)⟩)⟩)⟩)⟩)
set_option maxRecDepth 100000 in
theorem zk_637 : zmeth zKS zuq zNS zm_637 4000 = true := zqF (zdt0 _) (by decide +kernel)
theorem zM_637 {l : Launch} {D : va_G} {cI cZ cB cJ cR : ClassId} {ks ad : List Nat} {Psi : va_W → Prop} (hw : zworld ks ad zuq zNS Psi) (hm : zMan l D cI cZ cB cJ cR ks ad Psi) : zMet l D cI cZ cB cJ cR zKS ks ad Psi yX5_bestAsked (.code yX5_bestAsked cX5_bestAsked 7 (some .int)) 5 zc_637 :=
  zmet_of hw 5 (by decide) 4000 zk_637 (by decide) (by decide) (fun X => ⟨zg_RX5 X, zp_RX5 X, zl1_RX5 X, zl2_RX5 X, nilz, (List.forall_mem_cons.mpr ⟨zq_RX5_149 X (zM_0 hw hm) (by decide) rfl, (List.forall_mem_cons.mpr ⟨zq_RX5_233 X (zM_807 hw hm) (by decide) rfl rfl, (List.forall_mem_cons.mpr ⟨zq_RX5_239 X (zM_416 hw hm) (by decide) rfl rfl, (List.forall_mem_cons.mpr ⟨zq_RX5_243 X (zM_755 hw hm) (by decide) rfl rfl, (List.forall_mem_cons.mpr ⟨zq_RX5_250 X (zM_599 hw hm) (by decide) rfl rfl, nilz⟩)⟩)⟩)⟩)⟩)⟩)
set_option maxRecDepth 100000 in
theorem zk_638 : zmeth zKS zuq zNS zm_638 4000 = true := zqF (zdt0 _) (by decide +kernel)
theorem zM_638 {l : Launch} {D : va_G} {cI cZ cB cJ cR : ClassId} {ks ad : List Nat} {Psi : va_W → Prop} (hw : zworld ks ad zuq zNS Psi) (hm : zMan l D cI cZ cB cJ cR ks ad Psi) : zMet l D cI cZ cB cJ cR zKS ks ad Psi yX5_bestAsked (.code yX5_bestAsked cX5_bestAsked 7 (some .int)) 5 zc_638 :=
  zmet_of hw 5 (by decide) 4000 zk_638 (by decide) (by decide) (fun X => ⟨zg_RX5 X, zp_RX5 X, zl1_RX5 X, zl2_RX5 X, nilz, (List.forall_mem_cons.mpr ⟨zq_RX5_149 X (zM_0 hw hm) (by decide) rfl, (List.forall_mem_cons.mpr ⟨zq_RX5_233 X (zM_808 hw hm) (by decide) rfl rfl, (List.forall_mem_cons.mpr ⟨zq_RX5_239 X (zM_476 hw hm) (by decide) rfl rfl, (List.forall_mem_cons.mpr ⟨zq_RX5_243 X (zM_755 hw hm) (by decide) rfl rfl, (List.forall_mem_cons.mpr ⟨zq_RX5_250 X (zM_600 hw hm) (by decide) rfl rfl, nilz⟩)⟩)⟩)⟩)⟩)⟩)
set_option maxRecDepth 100000 in
theorem zk_639 : zmeth zKS zuq zNS zm_639 4000 = true := zqF (zdt0 _) (by decide +kernel)
theorem zM_639 {l : Launch} {D : va_G} {cI cZ cB cJ cR : ClassId} {ks ad : List Nat} {Psi : va_W → Prop} (hw : zworld ks ad zuq zNS Psi) (hm : zMan l D cI cZ cB cJ cR ks ad Psi) : zMet l D cI cZ cB cJ cR zKS ks ad Psi yX5_bestAsked (.code yX5_bestAsked cX5_bestAsked 7 (some .int)) 5 zc_639 :=
  zmet_of hw 5 (by decide) 4000 zk_639 (by decide) (by decide) (fun X => ⟨zg_RX5 X, zp_RX5 X, zl1_RX5 X, zl2_RX5 X, nilz, (List.forall_mem_cons.mpr ⟨zq_RX5_149 X (zM_0 hw hm) (by decide) rfl, (List.forall_mem_cons.mpr ⟨zq_RX5_233 X (zM_809 hw hm) (by decide) rfl rfl, (List.forall_mem_cons.mpr ⟨zq_RX5_239 X (zM_536 hw hm) (by decide) rfl rfl, (List.forall_mem_cons.mpr ⟨zq_RX5_243 X (zM_755 hw hm) (by decide) rfl rfl, (List.forall_mem_cons.mpr ⟨zq_RX5_250 X (zM_601 hw hm) (by decide) rfl rfl, nilz⟩)⟩)⟩)⟩)⟩)⟩)
set_option maxRecDepth 100000 in
theorem zk_655_0 : zm1 zKS zuq zNS zm_655 4000 zt_655_0 = true := z1F (zdt_X5_explain) (by decide +kernel)
set_option maxRecDepth 100000 in
theorem zk_655_1 : zm1 zKS zuq zNS zm_655 4000 zt_655_1 = true := z1F (zdt_X5_explain) (by decide +kernel)
set_option maxRecDepth 100000 in
theorem zk_655_2 : zm1 zKS zuq zNS zm_655 4000 zt_655_2 = true := z1F (zdt_X5_explain) (by decide +kernel)
set_option maxRecDepth 100000 in
theorem zk_655_3 : zm1 zKS zuq zNS zm_655 4000 zt_655_3 = true := z1F (zdt_X5_explain) (by decide +kernel)
set_option maxRecDepth 100000 in
theorem zk_655_4 : zm1 zKS zuq zNS zm_655 4000 zt_655_4 = true := z1F (zdt_X5_explain) (by decide +kernel)
set_option maxRecDepth 100000 in
theorem zk_655_5 : zm1 zKS zuq zNS zm_655 4000 zt_655_5 = true := z1F (zdt_X5_explain) (by decide +kernel)
set_option maxRecDepth 100000 in
theorem zk_655_6 : zm1 zKS zuq zNS zm_655 4000 zt_655_6 = true := z1F (zdt_X5_explain) (by decide +kernel)
set_option maxRecDepth 100000 in
theorem zk_655_7 : zm1 zKS zuq zNS zm_655 4000 zt_655_7 = true := z1F (zdt_X5_explain) (by decide +kernel)
set_option maxRecDepth 100000 in
theorem zk_655_8 : zm1 zKS zuq zNS zm_655 4000 zt_655_8 = true := z1F (zdt_X5_explain) (by decide +kernel)
set_option maxRecDepth 100000 in
theorem zk_655_9 : zm1 zKS zuq zNS zm_655 4000 zt_655_9 = true := z1F (zdt_X5_explain) (by decide +kernel)
set_option maxRecDepth 100000 in
theorem zk_655_10 : zm1 zKS zuq zNS zm_655 4000 zt_655_10 = true := z1F (zdt_X5_explain) (by decide +kernel)
set_option maxRecDepth 100000 in
theorem zk_655_11 : zm1 zKS zuq zNS zm_655 4000 zt_655_11 = true := z1F (zdt_X5_explain) (by decide +kernel)
set_option maxRecDepth 100000 in
theorem zk_655_12 : zm1 zKS zuq zNS zm_655 4000 zt_655_12 = true := z1F (zdt_X5_explain) (by decide +kernel)
set_option maxRecDepth 100000 in
theorem zk_655_13 : zm1 zKS zuq zNS zm_655 4000 zt_655_13 = true := z1F (zdt_X5_explain) (by decide +kernel)
set_option maxRecDepth 100000 in
theorem zk_655_14 : zm1 zKS zuq zNS zm_655 4000 zt_655_14 = true := z1F (zdt_X5_explain) (by decide +kernel)
set_option maxRecDepth 100000 in
theorem zk_655_15 : zm1 zKS zuq zNS zm_655 4000 zt_655_15 = true := z1F (zdt_X5_explain) (by decide +kernel)
set_option maxRecDepth 100000 in
theorem zk_655_16 : zm1 zKS zuq zNS zm_655 4000 zt_655_16 = true := z1F (zdt_X5_explain) (by decide +kernel)
set_option maxRecDepth 100000 in
theorem zk_655_17 : zm1 zKS zuq zNS zm_655 4000 zt_655_17 = true := z1F (zdt_X5_explain) (by decide +kernel)
set_option maxRecDepth 100000 in
theorem zk_655_18 : zm1 zKS zuq zNS zm_655 4000 zt_655_18 = true := z1F (zdt_X5_explain) (by decide +kernel)
set_option maxRecDepth 100000 in
theorem zk_655_19 : zm1 zKS zuq zNS zm_655 4000 zt_655_19 = true := z1F (zdt_X5_explain) (by decide +kernel)
set_option maxRecDepth 100000 in
theorem zk_655_20 : zm1 zKS zuq zNS zm_655 4000 zt_655_20 = true := z1F (zdt_X5_explain) (by decide +kernel)
set_option maxRecDepth 100000 in
theorem zk_655_s : zm0 zKS zuq zNS zm_655 4000 = true := z0F (zdt_X5_explain) (by decide +kernel)
set_option maxRecDepth 100000 in
theorem zk_655 : zmeth zKS zuq zNS zm_655 4000 = true := zmeth_by zk_655_s (List.forall_mem_cons.mpr ⟨zk_655_0, (List.forall_mem_cons.mpr ⟨zk_655_1, (List.forall_mem_cons.mpr ⟨zk_655_2, (List.forall_mem_cons.mpr ⟨zk_655_3, (List.forall_mem_cons.mpr ⟨zk_655_4, (List.forall_mem_cons.mpr ⟨zk_655_5, (List.forall_mem_cons.mpr ⟨zk_655_6, (List.forall_mem_cons.mpr ⟨zk_655_7, (List.forall_mem_cons.mpr ⟨zk_655_8, (List.forall_mem_cons.mpr ⟨zk_655_9, (List.forall_mem_cons.mpr ⟨zk_655_10, (List.forall_mem_cons.mpr ⟨zk_655_11, (List.forall_mem_cons.mpr ⟨zk_655_12, (List.forall_mem_cons.mpr ⟨zk_655_13, (List.forall_mem_cons.mpr ⟨zk_655_14, (List.forall_mem_cons.mpr ⟨zk_655_15, (List.forall_mem_cons.mpr ⟨zk_655_16, (List.forall_mem_cons.mpr ⟨zk_655_17, (List.forall_mem_cons.mpr ⟨zk_655_18, (List.forall_mem_cons.mpr ⟨zk_655_19, (List.forall_mem_cons.mpr ⟨zk_655_20, nilz⟩)⟩)⟩)⟩)⟩)⟩)⟩)⟩)⟩)⟩)⟩)⟩)⟩)⟩)⟩)⟩)⟩)⟩)⟩)⟩)⟩)
set_option maxRecDepth 100000 in
theorem zM_655 {l : Launch} {D : va_G} {cI cZ cB cJ cR : ClassId} {ks ad : List Nat} {Psi : va_W → Prop} (hw : zworld ks ad zuq zNS Psi) (hm : zMan l D cI cZ cB cJ cR ks ad Psi) : zMet l D cI cZ cB cJ cR zKS ks ad Psi yX5_explain (.code yX5_explain cX5_explain 3 none) 5 zc_655 :=
  zmet_of hw 5 (by decide) 4000 zk_655 (by decide) (by decide) (fun X => ⟨zg_RX5 X, zp_RX5 X, zl1_RX5 X, zl2_RX5 X, nilz, (List.forall_mem_cons.mpr ⟨zq_RX5_239 X (zM_356 hw hm) (by decide) rfl rfl, (List.forall_mem_cons.mpr ⟨zq_RX5_239 X (zM_357 hw hm) (by decide) rfl rfl, (List.forall_mem_cons.mpr ⟨zq_RX5_239 X (zM_358 hw hm) (by decide) rfl rfl, (List.forall_mem_cons.mpr ⟨zq_RX5_239 X (zM_359 hw hm) (by decide) rfl rfl, (List.forall_mem_cons.mpr ⟨zq_RX5_239 X (zM_360 hw hm) (by decide) rfl rfl, (List.forall_mem_cons.mpr ⟨zq_RX5_239 X (zM_361 hw hm) (by decide) rfl rfl, (List.forall_mem_cons.mpr ⟨zq_RX5_239 X (zM_362 hw hm) (by decide) rfl rfl, (List.forall_mem_cons.mpr ⟨zq_RX5_239 X (zM_363 hw hm) (by decide) rfl rfl, (List.forall_mem_cons.mpr ⟨zq_RX5_239 X (zM_364 hw hm) (by decide) rfl rfl, (List.forall_mem_cons.mpr ⟨zq_RX5_239 X (zM_365 hw hm) (by decide) rfl rfl, (List.forall_mem_cons.mpr ⟨zq_RX5_239 X (zM_366 hw hm) (by decide) rfl rfl, (List.forall_mem_cons.mpr ⟨zq_RX5_239 X (zM_367 hw hm) (by decide) rfl rfl, (List.forall_mem_cons.mpr ⟨zq_RX5_239 X (zM_368 hw hm) (by decide) rfl rfl, (List.forall_mem_cons.mpr ⟨zq_RX5_239 X (zM_369 hw hm) (by decide) rfl rfl, (List.forall_mem_cons.mpr ⟨zq_RX5_239 X (zM_370 hw hm) (by decide) rfl rfl, (List.forall_mem_cons.mpr ⟨zq_RX5_239 X (zM_371 hw hm) (by decide) rfl rfl, (List.forall_mem_cons.mpr ⟨zq_RX5_239 X (zM_372 hw hm) (by decide) rfl rfl, (List.forall_mem_cons.mpr ⟨zq_RX5_239 X (zM_373 hw hm) (by decide) rfl rfl, (List.forall_mem_cons.mpr ⟨zq_RX5_239 X (zM_374 hw hm) (by decide) rfl rfl, (List.forall_mem_cons.mpr ⟨zq_RX5_239 X (zM_375 hw hm) (by decide) rfl rfl, (List.forall_mem_cons.mpr ⟨zq_RX5_239 X (zM_376 hw hm) (by decide) rfl rfl, (List.forall_mem_cons.mpr ⟨zq_RX5_239 X (zM_377 hw hm) (by decide) rfl rfl, (List.forall_mem_cons.mpr ⟨zq_RX5_239 X (zM_378 hw hm) (by decide) rfl rfl, (List.forall_mem_cons.mpr ⟨zq_RX5_239 X (zM_379 hw hm) (by decide) rfl rfl, (List.forall_mem_cons.mpr ⟨zq_RX5_239 X (zM_380 hw hm) (by decide) rfl rfl, (List.forall_mem_cons.mpr ⟨zq_RX5_239 X (zM_381 hw hm) (by decide) rfl rfl, (List.forall_mem_cons.mpr ⟨zq_RX5_239 X (zM_382 hw hm) (by decide) rfl rfl, (List.forall_mem_cons.mpr ⟨zq_RX5_239 X (zM_383 hw hm) (by decide) rfl rfl, (List.forall_mem_cons.mpr ⟨zq_RX5_239 X (zM_384 hw hm) (by decide) rfl rfl, (List.forall_mem_cons.mpr ⟨zq_RX5_239 X (zM_385 hw hm) (by decide) rfl rfl, (List.forall_mem_cons.mpr ⟨zq_RX5_239 X (zM_386 hw hm) (by decide) rfl rfl, (List.forall_mem_cons.mpr ⟨zq_RX5_239 X (zM_387 hw hm) (by decide) rfl rfl, (List.forall_mem_cons.mpr ⟨zq_RX5_239 X (zM_388 hw hm) (by decide) rfl rfl, (List.forall_mem_cons.mpr ⟨zq_RX5_239 X (zM_389 hw hm) (by decide) rfl rfl, (List.forall_mem_cons.mpr ⟨zq_RX5_239 X (zM_390 hw hm) (by decide) rfl rfl, (List.forall_mem_cons.mpr ⟨zq_RX5_239 X (zM_391 hw hm) (by decide) rfl rfl, (List.forall_mem_cons.mpr ⟨zq_RX5_239 X (zM_392 hw hm) (by decide) rfl rfl, (List.forall_mem_cons.mpr ⟨zq_RX5_239 X (zM_393 hw hm) (by decide) rfl rfl, (List.forall_mem_cons.mpr ⟨zq_RX5_239 X (zM_394 hw hm) (by decide) rfl rfl, (List.forall_mem_cons.mpr ⟨zq_RX5_239 X (zM_395 hw hm) (by decide) rfl rfl, (List.forall_mem_cons.mpr ⟨zq_RX5_239 X (zM_396 hw hm) (by decide) rfl rfl, (List.forall_mem_cons.mpr ⟨zq_RX5_239 X (zM_397 hw hm) (by decide) rfl rfl, (List.forall_mem_cons.mpr ⟨zq_RX5_239 X (zM_398 hw hm) (by decide) rfl rfl, (List.forall_mem_cons.mpr ⟨zq_RX5_239 X (zM_399 hw hm) (by decide) rfl rfl, (List.forall_mem_cons.mpr ⟨zq_RX5_239 X (zM_400 hw hm) (by decide) rfl rfl, (List.forall_mem_cons.mpr ⟨zq_RX5_239 X (zM_401 hw hm) (by decide) rfl rfl, (List.forall_mem_cons.mpr ⟨zq_RX5_239 X (zM_402 hw hm) (by decide) rfl rfl, (List.forall_mem_cons.mpr ⟨zq_RX5_239 X (zM_403 hw hm) (by decide) rfl rfl, (List.forall_mem_cons.mpr ⟨zq_RX5_239 X (zM_404 hw hm) (by decide) rfl rfl, (List.forall_mem_cons.mpr ⟨zq_RX5_239 X (zM_405 hw hm) (by decide) rfl rfl, (List.forall_mem_cons.mpr ⟨zq_RX5_239 X (zM_406 hw hm) (by decide) rfl rfl, (List.forall_mem_cons.mpr ⟨zq_RX5_239 X (zM_407 hw hm) (by decide) rfl rfl, (List.forall_mem_cons.mpr ⟨zq_RX5_239 X (zM_408 hw hm) (by decide) rfl rfl, (List.forall_mem_cons.mpr ⟨zq_RX5_239 X (zM_409 hw hm) (by decide) rfl rfl, (List.forall_mem_cons.mpr ⟨zq_RX5_239 X (zM_410 hw hm) (by decide) rfl rfl, (List.forall_mem_cons.mpr ⟨zq_RX5_239 X (zM_411 hw hm) (by decide) rfl rfl, (List.forall_mem_cons.mpr ⟨zq_RX5_239 X (zM_412 hw hm) (by decide) rfl rfl, (List.forall_mem_cons.mpr ⟨zq_RX5_239 X (zM_413 hw hm) (by decide) rfl rfl, (List.forall_mem_cons.mpr ⟨zq_RX5_239 X (zM_414 hw hm) (by decide) rfl rfl, (List.forall_mem_cons.mpr ⟨zq_RX5_239 X (zM_415 hw hm) (by decide) rfl rfl, (List.forall_mem_cons.mpr ⟨zq_RX5_250 X (zM_597 hw hm) (by decide) rfl rfl, (List.forall_mem_cons.mpr ⟨zq_RX5_358 X (zM_344 hw hm) (by decide) rfl rfl, (List.forall_mem_cons.mpr ⟨zq_RX5_361 X (zM_343 hw hm) (by decide) rfl rfl, (List.forall_mem_cons.mpr ⟨zq_RX5_365 X (zM_345 hw hm) (by decide) rfl rfl, nilz⟩)⟩)⟩)⟩)⟩)⟩)⟩)⟩)⟩)⟩)⟩)⟩)⟩)⟩)⟩)⟩)⟩)⟩)⟩)⟩)⟩)⟩)⟩)⟩)⟩)⟩)⟩)⟩)⟩)⟩)⟩)⟩)⟩)⟩)⟩)⟩)⟩)⟩)⟩)⟩)⟩)⟩)⟩)⟩)⟩)⟩)⟩)⟩)⟩)⟩)⟩)⟩)⟩)⟩)⟩)⟩)⟩)⟩)⟩)⟩)⟩)⟩)⟩)⟩)⟩)
set_option maxRecDepth 100000 in
theorem zk_656_0 : zm1 zKS zuq zNS zm_656 4000 zt_656_0 = true := z1F (zdt_X5_explain) (by decide +kernel)
set_option maxRecDepth 100000 in
theorem zk_656_1 : zm1 zKS zuq zNS zm_656 4000 zt_656_1 = true := z1F (zdt_X5_explain) (by decide +kernel)
set_option maxRecDepth 100000 in
theorem zk_656_2 : zm1 zKS zuq zNS zm_656 4000 zt_656_2 = true := z1F (zdt_X5_explain) (by decide +kernel)
set_option maxRecDepth 100000 in
theorem zk_656_3 : zm1 zKS zuq zNS zm_656 4000 zt_656_3 = true := z1F (zdt_X5_explain) (by decide +kernel)
set_option maxRecDepth 100000 in
theorem zk_656_4 : zm1 zKS zuq zNS zm_656 4000 zt_656_4 = true := z1F (zdt_X5_explain) (by decide +kernel)
set_option maxRecDepth 100000 in
theorem zk_656_5 : zm1 zKS zuq zNS zm_656 4000 zt_656_5 = true := z1F (zdt_X5_explain) (by decide +kernel)
set_option maxRecDepth 100000 in
theorem zk_656_6 : zm1 zKS zuq zNS zm_656 4000 zt_656_6 = true := z1F (zdt_X5_explain) (by decide +kernel)
set_option maxRecDepth 100000 in
theorem zk_656_7 : zm1 zKS zuq zNS zm_656 4000 zt_656_7 = true := z1F (zdt_X5_explain) (by decide +kernel)
set_option maxRecDepth 100000 in
theorem zk_656_8 : zm1 zKS zuq zNS zm_656 4000 zt_656_8 = true := z1F (zdt_X5_explain) (by decide +kernel)
set_option maxRecDepth 100000 in
theorem zk_656_9 : zm1 zKS zuq zNS zm_656 4000 zt_656_9 = true := z1F (zdt_X5_explain) (by decide +kernel)
set_option maxRecDepth 100000 in
theorem zk_656_10 : zm1 zKS zuq zNS zm_656 4000 zt_656_10 = true := z1F (zdt_X5_explain) (by decide +kernel)
set_option maxRecDepth 100000 in
theorem zk_656_11 : zm1 zKS zuq zNS zm_656 4000 zt_656_11 = true := z1F (zdt_X5_explain) (by decide +kernel)
set_option maxRecDepth 100000 in
theorem zk_656_12 : zm1 zKS zuq zNS zm_656 4000 zt_656_12 = true := z1F (zdt_X5_explain) (by decide +kernel)
set_option maxRecDepth 100000 in
theorem zk_656_13 : zm1 zKS zuq zNS zm_656 4000 zt_656_13 = true := z1F (zdt_X5_explain) (by decide +kernel)
set_option maxRecDepth 100000 in
theorem zk_656_14 : zm1 zKS zuq zNS zm_656 4000 zt_656_14 = true := z1F (zdt_X5_explain) (by decide +kernel)
set_option maxRecDepth 100000 in
theorem zk_656_15 : zm1 zKS zuq zNS zm_656 4000 zt_656_15 = true := z1F (zdt_X5_explain) (by decide +kernel)
set_option maxRecDepth 100000 in
theorem zk_656_16 : zm1 zKS zuq zNS zm_656 4000 zt_656_16 = true := z1F (zdt_X5_explain) (by decide +kernel)
set_option maxRecDepth 100000 in
theorem zk_656_17 : zm1 zKS zuq zNS zm_656 4000 zt_656_17 = true := z1F (zdt_X5_explain) (by decide +kernel)
set_option maxRecDepth 100000 in
theorem zk_656_18 : zm1 zKS zuq zNS zm_656 4000 zt_656_18 = true := z1F (zdt_X5_explain) (by decide +kernel)
set_option maxRecDepth 100000 in
theorem zk_656_19 : zm1 zKS zuq zNS zm_656 4000 zt_656_19 = true := z1F (zdt_X5_explain) (by decide +kernel)
set_option maxRecDepth 100000 in
theorem zk_656_20 : zm1 zKS zuq zNS zm_656 4000 zt_656_20 = true := z1F (zdt_X5_explain) (by decide +kernel)
set_option maxRecDepth 100000 in
theorem zk_656_s : zm0 zKS zuq zNS zm_656 4000 = true := z0F (zdt_X5_explain) (by decide +kernel)
set_option maxRecDepth 100000 in
theorem zk_656 : zmeth zKS zuq zNS zm_656 4000 = true := zmeth_by zk_656_s (List.forall_mem_cons.mpr ⟨zk_656_0, (List.forall_mem_cons.mpr ⟨zk_656_1, (List.forall_mem_cons.mpr ⟨zk_656_2, (List.forall_mem_cons.mpr ⟨zk_656_3, (List.forall_mem_cons.mpr ⟨zk_656_4, (List.forall_mem_cons.mpr ⟨zk_656_5, (List.forall_mem_cons.mpr ⟨zk_656_6, (List.forall_mem_cons.mpr ⟨zk_656_7, (List.forall_mem_cons.mpr ⟨zk_656_8, (List.forall_mem_cons.mpr ⟨zk_656_9, (List.forall_mem_cons.mpr ⟨zk_656_10, (List.forall_mem_cons.mpr ⟨zk_656_11, (List.forall_mem_cons.mpr ⟨zk_656_12, (List.forall_mem_cons.mpr ⟨zk_656_13, (List.forall_mem_cons.mpr ⟨zk_656_14, (List.forall_mem_cons.mpr ⟨zk_656_15, (List.forall_mem_cons.mpr ⟨zk_656_16, (List.forall_mem_cons.mpr ⟨zk_656_17, (List.forall_mem_cons.mpr ⟨zk_656_18, (List.forall_mem_cons.mpr ⟨zk_656_19, (List.forall_mem_cons.mpr ⟨zk_656_20, nilz⟩)⟩)⟩)⟩)⟩)⟩)⟩)⟩)⟩)⟩)⟩)⟩)⟩)⟩)⟩)⟩)⟩)⟩)⟩)⟩)⟩)
set_option maxRecDepth 100000 in
theorem zM_656 {l : Launch} {D : va_G} {cI cZ cB cJ cR : ClassId} {ks ad : List Nat} {Psi : va_W → Prop} (hw : zworld ks ad zuq zNS Psi) (hm : zMan l D cI cZ cB cJ cR ks ad Psi) : zMet l D cI cZ cB cJ cR zKS ks ad Psi yX5_explain (.code yX5_explain cX5_explain 3 none) 5 zc_656 :=
  zmet_of hw 5 (by decide) 4000 zk_656 (by decide) (by decide) (fun X => ⟨zg_RX5 X, zp_RX5 X, zl1_RX5 X, zl2_RX5 X, nilz, (List.forall_mem_cons.mpr ⟨zq_RX5_239 X (zM_416 hw hm) (by decide) rfl rfl, (List.forall_mem_cons.mpr ⟨zq_RX5_239 X (zM_417 hw hm) (by decide) rfl rfl, (List.forall_mem_cons.mpr ⟨zq_RX5_239 X (zM_418 hw hm) (by decide) rfl rfl, (List.forall_mem_cons.mpr ⟨zq_RX5_239 X (zM_419 hw hm) (by decide) rfl rfl, (List.forall_mem_cons.mpr ⟨zq_RX5_239 X (zM_420 hw hm) (by decide) rfl rfl, (List.forall_mem_cons.mpr ⟨zq_RX5_239 X (zM_421 hw hm) (by decide) rfl rfl, (List.forall_mem_cons.mpr ⟨zq_RX5_239 X (zM_422 hw hm) (by decide) rfl rfl, (List.forall_mem_cons.mpr ⟨zq_RX5_239 X (zM_423 hw hm) (by decide) rfl rfl, (List.forall_mem_cons.mpr ⟨zq_RX5_239 X (zM_424 hw hm) (by decide) rfl rfl, (List.forall_mem_cons.mpr ⟨zq_RX5_239 X (zM_425 hw hm) (by decide) rfl rfl, (List.forall_mem_cons.mpr ⟨zq_RX5_239 X (zM_426 hw hm) (by decide) rfl rfl, (List.forall_mem_cons.mpr ⟨zq_RX5_239 X (zM_427 hw hm) (by decide) rfl rfl, (List.forall_mem_cons.mpr ⟨zq_RX5_239 X (zM_428 hw hm) (by decide) rfl rfl, (List.forall_mem_cons.mpr ⟨zq_RX5_239 X (zM_429 hw hm) (by decide) rfl rfl, (List.forall_mem_cons.mpr ⟨zq_RX5_239 X (zM_430 hw hm) (by decide) rfl rfl, (List.forall_mem_cons.mpr ⟨zq_RX5_239 X (zM_431 hw hm) (by decide) rfl rfl, (List.forall_mem_cons.mpr ⟨zq_RX5_239 X (zM_432 hw hm) (by decide) rfl rfl, (List.forall_mem_cons.mpr ⟨zq_RX5_239 X (zM_433 hw hm) (by decide) rfl rfl, (List.forall_mem_cons.mpr ⟨zq_RX5_239 X (zM_434 hw hm) (by decide) rfl rfl, (List.forall_mem_cons.mpr ⟨zq_RX5_239 X (zM_435 hw hm) (by decide) rfl rfl, (List.forall_mem_cons.mpr ⟨zq_RX5_239 X (zM_436 hw hm) (by decide) rfl rfl, (List.forall_mem_cons.mpr ⟨zq_RX5_239 X (zM_437 hw hm) (by decide) rfl rfl, (List.forall_mem_cons.mpr ⟨zq_RX5_239 X (zM_438 hw hm) (by decide) rfl rfl, (List.forall_mem_cons.mpr ⟨zq_RX5_239 X (zM_439 hw hm) (by decide) rfl rfl, (List.forall_mem_cons.mpr ⟨zq_RX5_239 X (zM_440 hw hm) (by decide) rfl rfl, (List.forall_mem_cons.mpr ⟨zq_RX5_239 X (zM_441 hw hm) (by decide) rfl rfl, (List.forall_mem_cons.mpr ⟨zq_RX5_239 X (zM_442 hw hm) (by decide) rfl rfl, (List.forall_mem_cons.mpr ⟨zq_RX5_239 X (zM_443 hw hm) (by decide) rfl rfl, (List.forall_mem_cons.mpr ⟨zq_RX5_239 X (zM_444 hw hm) (by decide) rfl rfl, (List.forall_mem_cons.mpr ⟨zq_RX5_239 X (zM_445 hw hm) (by decide) rfl rfl, (List.forall_mem_cons.mpr ⟨zq_RX5_239 X (zM_446 hw hm) (by decide) rfl rfl, (List.forall_mem_cons.mpr ⟨zq_RX5_239 X (zM_447 hw hm) (by decide) rfl rfl, (List.forall_mem_cons.mpr ⟨zq_RX5_239 X (zM_448 hw hm) (by decide) rfl rfl, (List.forall_mem_cons.mpr ⟨zq_RX5_239 X (zM_449 hw hm) (by decide) rfl rfl, (List.forall_mem_cons.mpr ⟨zq_RX5_239 X (zM_450 hw hm) (by decide) rfl rfl, (List.forall_mem_cons.mpr ⟨zq_RX5_239 X (zM_451 hw hm) (by decide) rfl rfl, (List.forall_mem_cons.mpr ⟨zq_RX5_239 X (zM_452 hw hm) (by decide) rfl rfl, (List.forall_mem_cons.mpr ⟨zq_RX5_239 X (zM_453 hw hm) (by decide) rfl rfl, (List.forall_mem_cons.mpr ⟨zq_RX5_239 X (zM_454 hw hm) (by decide) rfl rfl, (List.forall_mem_cons.mpr ⟨zq_RX5_239 X (zM_455 hw hm) (by decide) rfl rfl, (List.forall_mem_cons.mpr ⟨zq_RX5_239 X (zM_456 hw hm) (by decide) rfl rfl, (List.forall_mem_cons.mpr ⟨zq_RX5_239 X (zM_457 hw hm) (by decide) rfl rfl, (List.forall_mem_cons.mpr ⟨zq_RX5_239 X (zM_458 hw hm) (by decide) rfl rfl, (List.forall_mem_cons.mpr ⟨zq_RX5_239 X (zM_459 hw hm) (by decide) rfl rfl, (List.forall_mem_cons.mpr ⟨zq_RX5_239 X (zM_460 hw hm) (by decide) rfl rfl, (List.forall_mem_cons.mpr ⟨zq_RX5_239 X (zM_461 hw hm) (by decide) rfl rfl, (List.forall_mem_cons.mpr ⟨zq_RX5_239 X (zM_462 hw hm) (by decide) rfl rfl, (List.forall_mem_cons.mpr ⟨zq_RX5_239 X (zM_463 hw hm) (by decide) rfl rfl, (List.forall_mem_cons.mpr ⟨zq_RX5_239 X (zM_464 hw hm) (by decide) rfl rfl, (List.forall_mem_cons.mpr ⟨zq_RX5_239 X (zM_465 hw hm) (by decide) rfl rfl, (List.forall_mem_cons.mpr ⟨zq_RX5_239 X (zM_466 hw hm) (by decide) rfl rfl, (List.forall_mem_cons.mpr ⟨zq_RX5_239 X (zM_467 hw hm) (by decide) rfl rfl, (List.forall_mem_cons.mpr ⟨zq_RX5_239 X (zM_468 hw hm) (by decide) rfl rfl, (List.forall_mem_cons.mpr ⟨zq_RX5_239 X (zM_469 hw hm) (by decide) rfl rfl, (List.forall_mem_cons.mpr ⟨zq_RX5_239 X (zM_470 hw hm) (by decide) rfl rfl, (List.forall_mem_cons.mpr ⟨zq_RX5_239 X (zM_471 hw hm) (by decide) rfl rfl, (List.forall_mem_cons.mpr ⟨zq_RX5_239 X (zM_472 hw hm) (by decide) rfl rfl, (List.forall_mem_cons.mpr ⟨zq_RX5_239 X (zM_473 hw hm) (by decide) rfl rfl, (List.forall_mem_cons.mpr ⟨zq_RX5_239 X (zM_474 hw hm) (by decide) rfl rfl, (List.forall_mem_cons.mpr ⟨zq_RX5_239 X (zM_475 hw hm) (by decide) rfl rfl, (List.forall_mem_cons.mpr ⟨zq_RX5_250 X (zM_599 hw hm) (by decide) rfl rfl, (List.forall_mem_cons.mpr ⟨zq_RX5_358 X (zM_344 hw hm) (by decide) rfl rfl, (List.forall_mem_cons.mpr ⟨zq_RX5_361 X (zM_343 hw hm) (by decide) rfl rfl, (List.forall_mem_cons.mpr ⟨zq_RX5_365 X (zM_345 hw hm) (by decide) rfl rfl, nilz⟩)⟩)⟩)⟩)⟩)⟩)⟩)⟩)⟩)⟩)⟩)⟩)⟩)⟩)⟩)⟩)⟩)⟩)⟩)⟩)⟩)⟩)⟩)⟩)⟩)⟩)⟩)⟩)⟩)⟩)⟩)⟩)⟩)⟩)⟩)⟩)⟩)⟩)⟩)⟩)⟩)⟩)⟩)⟩)⟩)⟩)⟩)⟩)⟩)⟩)⟩)⟩)⟩)⟩)⟩)⟩)⟩)⟩)⟩)⟩)⟩)⟩)⟩)⟩)⟩)
