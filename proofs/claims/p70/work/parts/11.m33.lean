set_option maxRecDepth 100000 in
theorem zk_840 : zmeth zKS zuq zNS zm_840 4000 = true := zqF (zdt0 _) (by decide +kernel)
theorem zM_840 {l : Launch} {D : va_G} {cI cZ cB cJ cR : ClassId} {ks ad : List Nat} {Psi : va_W → Prop} (hw : zworld ks ad zuq zNS Psi) (hm : zMan l D cI cZ cB cJ cR ks ad Psi) : zMet l D cI cZ cB cJ cR zKS ks ad Psi yX6_back (.code yX6_back cX6_back 2 (some .int)) 4 zc_840 :=
  zmet_of hw 4 (by decide) 4000 zk_840 (by decide) (by decide) (fun X => ⟨zg_RX6 X, zp_RX6 X, zl1_RX6 X, zl2_RX6 X, nilz, (List.forall_mem_cons.mpr ⟨zq_RX6_76 X (zM_908 hw hm) (by decide) rfl, (List.forall_mem_cons.mpr ⟨zq_RX6_220 X (zM_856 hw hm) (by decide) rfl rfl, nilz⟩)⟩)⟩)
set_option maxRecDepth 100000 in
theorem zk_903 : zmeth zKS zuq zNS zm_903 4000 = true := zqF (zdt0 _) (by decide +kernel)
theorem zM_903 {l : Launch} {D : va_G} {cI cZ cB cJ cR : ClassId} {ks ad : List Nat} {Psi : va_W → Prop} (hw : zworld ks ad zuq zNS Psi) (hm : zMan l D cI cZ cB cJ cR ks ad Psi) : zMet l D cI cZ cB cJ cR zKS ks ad Psi yX6_image (.code yX6_image cX6_image 2 (some .int)) 4 zc_903 :=
  zmet_of hw 4 (by decide) 4000 zk_903 (by decide) (by decide) (fun X => ⟨zg_RX6 X, zp_RX6 X, zl1_RX6 X, zl2_RX6 X, nilz, (List.forall_mem_cons.mpr ⟨zq_RX6_76 X (zM_908 hw hm) (by decide) rfl, (List.forall_mem_cons.mpr ⟨zq_RX6_220 X (zM_856 hw hm) (by decide) rfl rfl, nilz⟩)⟩)⟩)
set_option maxRecDepth 100000 in
theorem zk_929 : zmeth zKS zuq zNS zm_929 4000 = true := zqF (zdt0 _) (by decide +kernel)
theorem zM_929 {l : Launch} {D : va_G} {cI cZ cB cJ cR : ClassId} {ks ad : List Nat} {Psi : va_W → Prop} (hw : zworld ks ad zuq zNS Psi) (hm : zMan l D cI cZ cB cJ cR ks ad Psi) : zMet l D cI cZ cB cJ cR zKS ks ad Psi yX6_isGap (.code yX6_isGap cX6_isGap 5 (some .boolean)) 4 zc_929 :=
  zmet_of hw 4 (by decide) 4000 zk_929 (by decide) (by decide) (fun X => ⟨zg_RX6 X, zp_RX6 X, zl1_RX6 X, zl2_RX6 X, nilz, (List.forall_mem_cons.mpr ⟨zq_RX6_227 X (zM_1065 hw hm) (by decide) rfl rfl, (List.forall_mem_cons.mpr ⟨zq_RX6_253 X (zM_938 hw hm) (by decide) rfl rfl, nilz⟩)⟩)⟩)
set_option maxRecDepth 100000 in
theorem zk_1054 : zmeth zKS zuq zNS zm_1054 4000 = true := zqF (zdt_X6_number_) (by decide +kernel)
theorem zM_1054 {l : Launch} {D : va_G} {cI cZ cB cJ cR : ClassId} {ks ad : List Nat} {Psi : va_W → Prop} (hw : zworld ks ad zuq zNS Psi) (hm : zMan l D cI cZ cB cJ cR ks ad Psi) : zMet l D cI cZ cB cJ cR zKS ks ad Psi yX6_number_ (.code yX6_number_ cX6_number_ 5 (some .int)) 4 zc_1054 :=
  zmet_of hw 4 (by decide) 4000 zk_1054 (by decide) (by decide) (fun X => ⟨zg_RX6 X, zp_RX6 X, zl1_RX6 X, zl2_RX6 X, nilz, (List.forall_mem_cons.mpr ⟨zq_RX6_142 X (zM_838 hw hm) (by decide) rfl rfl, (List.forall_mem_cons.mpr ⟨zq_RX6_146 X (zM_1049 hw hm) (by decide) rfl rfl, nilz⟩)⟩)⟩)
set_option maxRecDepth 100000 in
theorem zk_1055 : zmeth zKS zuq zNS zm_1055 4000 = true := zqF (zdt_X6_number_) (by decide +kernel)
theorem zM_1055 {l : Launch} {D : va_G} {cI cZ cB cJ cR : ClassId} {ks ad : List Nat} {Psi : va_W → Prop} (hw : zworld ks ad zuq zNS Psi) (hm : zMan l D cI cZ cB cJ cR ks ad Psi) : zMet l D cI cZ cB cJ cR zKS ks ad Psi yX6_number_ (.code yX6_number_ cX6_number_ 5 (some .int)) 4 zc_1055 :=
  zmet_of hw 4 (by decide) 4000 zk_1055 (by decide) (by decide) (fun X => ⟨zg_RX6 X, zp_RX6 X, zl1_RX6 X, zl2_RX6 X, nilz, (List.forall_mem_cons.mpr ⟨zq_RX6_142 X (zM_838 hw hm) (by decide) rfl rfl, (List.forall_mem_cons.mpr ⟨zq_RX6_146 X (zM_1050 hw hm) (by decide) rfl rfl, nilz⟩)⟩)⟩)
set_option maxRecDepth 100000 in
theorem zk_1056 : zmeth zKS zuq zNS zm_1056 4000 = true := zqF (zdt_X6_number_) (by decide +kernel)
theorem zM_1056 {l : Launch} {D : va_G} {cI cZ cB cJ cR : ClassId} {ks ad : List Nat} {Psi : va_W → Prop} (hw : zworld ks ad zuq zNS Psi) (hm : zMan l D cI cZ cB cJ cR ks ad Psi) : zMet l D cI cZ cB cJ cR zKS ks ad Psi yX6_number_ (.code yX6_number_ cX6_number_ 5 (some .int)) 4 zc_1056 :=
  zmet_of hw 4 (by decide) 4000 zk_1056 (by decide) (by decide) (fun X => ⟨zg_RX6 X, zp_RX6 X, zl1_RX6 X, zl2_RX6 X, nilz, (List.forall_mem_cons.mpr ⟨zq_RX6_142 X (zM_838 hw hm) (by decide) rfl rfl, (List.forall_mem_cons.mpr ⟨zq_RX6_146 X (zM_1052 hw hm) (by decide) rfl rfl, nilz⟩)⟩)⟩)
set_option maxRecDepth 100000 in
theorem zk_1057 : zmeth zKS zuq zNS zm_1057 4000 = true := zqF (zdt_X6_number_) (by decide +kernel)
theorem zM_1057 {l : Launch} {D : va_G} {cI cZ cB cJ cR : ClassId} {ks ad : List Nat} {Psi : va_W → Prop} (hw : zworld ks ad zuq zNS Psi) (hm : zMan l D cI cZ cB cJ cR ks ad Psi) : zMet l D cI cZ cB cJ cR zKS ks ad Psi yX6_number_ (.code yX6_number_ cX6_number_ 5 (some .int)) 4 zc_1057 :=
  zmet_of hw 4 (by decide) 4000 zk_1057 (by decide) (by decide) (fun X => ⟨zg_RX6 X, zp_RX6 X, zl1_RX6 X, zl2_RX6 X, nilz, (List.forall_mem_cons.mpr ⟨zq_RX6_142 X (zM_838 hw hm) (by decide) rfl rfl, (List.forall_mem_cons.mpr ⟨zq_RX6_146 X (zM_1047 hw hm) (by decide) rfl rfl, nilz⟩)⟩)⟩)
set_option maxRecDepth 100000 in
theorem zk_1058 : zmeth zKS zuq zNS zm_1058 4000 = true := zqF (zdt_X6_number_) (by decide +kernel)
theorem zM_1058 {l : Launch} {D : va_G} {cI cZ cB cJ cR : ClassId} {ks ad : List Nat} {Psi : va_W → Prop} (hw : zworld ks ad zuq zNS Psi) (hm : zMan l D cI cZ cB cJ cR ks ad Psi) : zMet l D cI cZ cB cJ cR zKS ks ad Psi yX6_number_ (.code yX6_number_ cX6_number_ 5 (some .int)) 4 zc_1058 :=
  zmet_of hw 4 (by decide) 4000 zk_1058 (by decide) (by decide) (fun X => ⟨zg_RX6 X, zp_RX6 X, zl1_RX6 X, zl2_RX6 X, nilz, (List.forall_mem_cons.mpr ⟨zq_RX6_142 X (zM_838 hw hm) (by decide) rfl rfl, (List.forall_mem_cons.mpr ⟨zq_RX6_146 X (zM_1053 hw hm) (by decide) rfl rfl, nilz⟩)⟩)⟩)
set_option maxRecDepth 100000 in
theorem zk_1059 : zmeth zKS zuq zNS zm_1059 4000 = true := zqF (zdt_X6_number_) (by decide +kernel)
theorem zM_1059 {l : Launch} {D : va_G} {cI cZ cB cJ cR : ClassId} {ks ad : List Nat} {Psi : va_W → Prop} (hw : zworld ks ad zuq zNS Psi) (hm : zMan l D cI cZ cB cJ cR ks ad Psi) : zMet l D cI cZ cB cJ cR zKS ks ad Psi yX6_number_ (.code yX6_number_ cX6_number_ 5 (some .int)) 4 zc_1059 :=
  zmet_of hw 4 (by decide) 4000 zk_1059 (by decide) (by decide) (fun X => ⟨zg_RX6 X, zp_RX6 X, zl1_RX6 X, zl2_RX6 X, nilz, (List.forall_mem_cons.mpr ⟨zq_RX6_142 X (zM_838 hw hm) (by decide) rfl rfl, (List.forall_mem_cons.mpr ⟨zq_RX6_146 X (zM_1051 hw hm) (by decide) rfl rfl, nilz⟩)⟩)⟩)
set_option maxRecDepth 100000 in
theorem zk_1060 : zmeth zKS zuq zNS zm_1060 4000 = true := zqF (zdt_X6_number_) (by decide +kernel)
theorem zM_1060 {l : Launch} {D : va_G} {cI cZ cB cJ cR : ClassId} {ks ad : List Nat} {Psi : va_W → Prop} (hw : zworld ks ad zuq zNS Psi) (hm : zMan l D cI cZ cB cJ cR ks ad Psi) : zMet l D cI cZ cB cJ cR zKS ks ad Psi yX6_number_ (.code yX6_number_ cX6_number_ 5 (some .int)) 4 zc_1060 :=
  zmet_of hw 4 (by decide) 4000 zk_1060 (by decide) (by decide) (fun X => ⟨zg_RX6 X, zp_RX6 X, zl1_RX6 X, zl2_RX6 X, nilz, (List.forall_mem_cons.mpr ⟨zq_RX6_142 X (zM_838 hw hm) (by decide) rfl rfl, (List.forall_mem_cons.mpr ⟨zq_RX6_146 X (zM_1045 hw hm) (by decide) rfl rfl, nilz⟩)⟩)⟩)
set_option maxRecDepth 100000 in
theorem zk_1061 : zmeth zKS zuq zNS zm_1061 4000 = true := zqF (zdt_X6_number_) (by decide +kernel)
theorem zM_1061 {l : Launch} {D : va_G} {cI cZ cB cJ cR : ClassId} {ks ad : List Nat} {Psi : va_W → Prop} (hw : zworld ks ad zuq zNS Psi) (hm : zMan l D cI cZ cB cJ cR ks ad Psi) : zMet l D cI cZ cB cJ cR zKS ks ad Psi yX6_number_ (.code yX6_number_ cX6_number_ 5 (some .int)) 4 zc_1061 :=
  zmet_of hw 4 (by decide) 4000 zk_1061 (by decide) (by decide) (fun X => ⟨zg_RX6 X, zp_RX6 X, zl1_RX6 X, zl2_RX6 X, nilz, (List.forall_mem_cons.mpr ⟨zq_RX6_142 X (zM_838 hw hm) (by decide) rfl rfl, (List.forall_mem_cons.mpr ⟨zq_RX6_146 X (zM_1043 hw hm) (by decide) rfl rfl, nilz⟩)⟩)⟩)
set_option maxRecDepth 100000 in
theorem zk_640 : zmeth zKS zuq zNS zm_640 4000 = true := zqF (zdt0 _) (by decide +kernel)
theorem zM_640 {l : Launch} {D : va_G} {cI cZ cB cJ cR : ClassId} {ks ad : List Nat} {Psi : va_W → Prop} (hw : zworld ks ad zuq zNS Psi) (hm : zMan l D cI cZ cB cJ cR ks ad Psi) : zMet l D cI cZ cB cJ cR zKS ks ad Psi yX5_bestAsked (.code yX5_bestAsked cX5_bestAsked 7 (some .int)) 5 zc_640 :=
  zmet_of hw 5 (by decide) 4000 zk_640 (by decide) (by decide) (fun X => ⟨zg_RX5 X, zp_RX5 X, zl1_RX5 X, zl2_RX5 X, nilz, (List.forall_mem_cons.mpr ⟨zq_RX5_149 X (zM_0 hw hm) (by decide) rfl, (List.forall_mem_cons.mpr ⟨zq_RX5_233 X (zM_810 hw hm) (by decide) rfl rfl, (List.forall_mem_cons.mpr ⟨zq_RX5_239 X (zM_360 hw hm) (by decide) rfl rfl, (List.forall_mem_cons.mpr ⟨zq_RX5_243 X (zM_759 hw hm) (by decide) rfl rfl, (List.forall_mem_cons.mpr ⟨zq_RX5_250 X (zM_601 hw hm) (by decide) rfl rfl, nilz⟩)⟩)⟩)⟩)⟩)⟩)
set_option maxRecDepth 100000 in
theorem zk_641 : zmeth zKS zuq zNS zm_641 4000 = true := zqF (zdt0 _) (by decide +kernel)
theorem zM_641 {l : Launch} {D : va_G} {cI cZ cB cJ cR : ClassId} {ks ad : List Nat} {Psi : va_W → Prop} (hw : zworld ks ad zuq zNS Psi) (hm : zMan l D cI cZ cB cJ cR ks ad Psi) : zMet l D cI cZ cB cJ cR zKS ks ad Psi yX5_bestAsked (.code yX5_bestAsked cX5_bestAsked 7 (some .int)) 5 zc_641 :=
  zmet_of hw 5 (by decide) 4000 zk_641 (by decide) (by decide) (fun X => ⟨zg_RX5 X, zp_RX5 X, zl1_RX5 X, zl2_RX5 X, nilz, (List.forall_mem_cons.mpr ⟨zq_RX5_149 X (zM_0 hw hm) (by decide) rfl, (List.forall_mem_cons.mpr ⟨zq_RX5_233 X (zM_811 hw hm) (by decide) rfl rfl, (List.forall_mem_cons.mpr ⟨zq_RX5_239 X (zM_420 hw hm) (by decide) rfl rfl, (List.forall_mem_cons.mpr ⟨zq_RX5_243 X (zM_759 hw hm) (by decide) rfl rfl, (List.forall_mem_cons.mpr ⟨zq_RX5_250 X (zM_603 hw hm) (by decide) rfl rfl, nilz⟩)⟩)⟩)⟩)⟩)⟩)
set_option maxRecDepth 100000 in
theorem zk_642 : zmeth zKS zuq zNS zm_642 4000 = true := zqF (zdt0 _) (by decide +kernel)
theorem zM_642 {l : Launch} {D : va_G} {cI cZ cB cJ cR : ClassId} {ks ad : List Nat} {Psi : va_W → Prop} (hw : zworld ks ad zuq zNS Psi) (hm : zMan l D cI cZ cB cJ cR ks ad Psi) : zMet l D cI cZ cB cJ cR zKS ks ad Psi yX5_bestAsked (.code yX5_bestAsked cX5_bestAsked 7 (some .int)) 5 zc_642 :=
  zmet_of hw 5 (by decide) 4000 zk_642 (by decide) (by decide) (fun X => ⟨zg_RX5 X, zp_RX5 X, zl1_RX5 X, zl2_RX5 X, nilz, (List.forall_mem_cons.mpr ⟨zq_RX5_149 X (zM_0 hw hm) (by decide) rfl, (List.forall_mem_cons.mpr ⟨zq_RX5_233 X (zM_812 hw hm) (by decide) rfl rfl, (List.forall_mem_cons.mpr ⟨zq_RX5_239 X (zM_480 hw hm) (by decide) rfl rfl, (List.forall_mem_cons.mpr ⟨zq_RX5_243 X (zM_759 hw hm) (by decide) rfl rfl, (List.forall_mem_cons.mpr ⟨zq_RX5_250 X (zM_604 hw hm) (by decide) rfl rfl, nilz⟩)⟩)⟩)⟩)⟩)⟩)
set_option maxRecDepth 100000 in
theorem zk_643 : zmeth zKS zuq zNS zm_643 4000 = true := zqF (zdt0 _) (by decide +kernel)
theorem zM_643 {l : Launch} {D : va_G} {cI cZ cB cJ cR : ClassId} {ks ad : List Nat} {Psi : va_W → Prop} (hw : zworld ks ad zuq zNS Psi) (hm : zMan l D cI cZ cB cJ cR ks ad Psi) : zMet l D cI cZ cB cJ cR zKS ks ad Psi yX5_bestAsked (.code yX5_bestAsked cX5_bestAsked 7 (some .int)) 5 zc_643 :=
  zmet_of hw 5 (by decide) 4000 zk_643 (by decide) (by decide) (fun X => ⟨zg_RX5 X, zp_RX5 X, zl1_RX5 X, zl2_RX5 X, nilz, (List.forall_mem_cons.mpr ⟨zq_RX5_149 X (zM_0 hw hm) (by decide) rfl, (List.forall_mem_cons.mpr ⟨zq_RX5_233 X (zM_813 hw hm) (by decide) rfl rfl, (List.forall_mem_cons.mpr ⟨zq_RX5_239 X (zM_540 hw hm) (by decide) rfl rfl, (List.forall_mem_cons.mpr ⟨zq_RX5_243 X (zM_759 hw hm) (by decide) rfl rfl, (List.forall_mem_cons.mpr ⟨zq_RX5_250 X (zM_605 hw hm) (by decide) rfl rfl, nilz⟩)⟩)⟩)⟩)⟩)⟩)
set_option maxRecDepth 100000 in
theorem zk_659_0 : zm1 zKS zuq zNS zm_659 4000 zt_659_0 = true := z1F (zdt_X5_explain) (by decide +kernel)
set_option maxRecDepth 100000 in
theorem zk_659_1 : zm1 zKS zuq zNS zm_659 4000 zt_659_1 = true := z1F (zdt_X5_explain) (by decide +kernel)
set_option maxRecDepth 100000 in
theorem zk_659_2 : zm1 zKS zuq zNS zm_659 4000 zt_659_2 = true := z1F (zdt_X5_explain) (by decide +kernel)
set_option maxRecDepth 100000 in
theorem zk_659_3 : zm1 zKS zuq zNS zm_659 4000 zt_659_3 = true := z1F (zdt_X5_explain) (by decide +kernel)
set_option maxRecDepth 100000 in
theorem zk_659_4 : zm1 zKS zuq zNS zm_659 4000 zt_659_4 = true := z1F (zdt_X5_explain) (by decide +kernel)
set_option maxRecDepth 100000 in
theorem zk_659_5 : zm1 zKS zuq zNS zm_659 4000 zt_659_5 = true := z1F (zdt_X5_explain) (by decide +kernel)
set_option maxRecDepth 100000 in
theorem zk_659_6 : zm1 zKS zuq zNS zm_659 4000 zt_659_6 = true := z1F (zdt_X5_explain) (by decide +kernel)
set_option maxRecDepth 100000 in
theorem zk_659_7 : zm1 zKS zuq zNS zm_659 4000 zt_659_7 = true := z1F (zdt_X5_explain) (by decide +kernel)
set_option maxRecDepth 100000 in
theorem zk_659_8 : zm1 zKS zuq zNS zm_659 4000 zt_659_8 = true := z1F (zdt_X5_explain) (by decide +kernel)
set_option maxRecDepth 100000 in
theorem zk_659_9 : zm1 zKS zuq zNS zm_659 4000 zt_659_9 = true := z1F (zdt_X5_explain) (by decide +kernel)
set_option maxRecDepth 100000 in
theorem zk_659_10 : zm1 zKS zuq zNS zm_659 4000 zt_659_10 = true := z1F (zdt_X5_explain) (by decide +kernel)
set_option maxRecDepth 100000 in
theorem zk_659_11 : zm1 zKS zuq zNS zm_659 4000 zt_659_11 = true := z1F (zdt_X5_explain) (by decide +kernel)
set_option maxRecDepth 100000 in
theorem zk_659_12 : zm1 zKS zuq zNS zm_659 4000 zt_659_12 = true := z1F (zdt_X5_explain) (by decide +kernel)
set_option maxRecDepth 100000 in
theorem zk_659_13 : zm1 zKS zuq zNS zm_659 4000 zt_659_13 = true := z1F (zdt_X5_explain) (by decide +kernel)
set_option maxRecDepth 100000 in
theorem zk_659_14 : zm1 zKS zuq zNS zm_659 4000 zt_659_14 = true := z1F (zdt_X5_explain) (by decide +kernel)
set_option maxRecDepth 100000 in
theorem zk_659_15 : zm1 zKS zuq zNS zm_659 4000 zt_659_15 = true := z1F (zdt_X5_explain) (by decide +kernel)
set_option maxRecDepth 100000 in
theorem zk_659_16 : zm1 zKS zuq zNS zm_659 4000 zt_659_16 = true := z1F (zdt_X5_explain) (by decide +kernel)
set_option maxRecDepth 100000 in
theorem zk_659_17 : zm1 zKS zuq zNS zm_659 4000 zt_659_17 = true := z1F (zdt_X5_explain) (by decide +kernel)
set_option maxRecDepth 100000 in
theorem zk_659_18 : zm1 zKS zuq zNS zm_659 4000 zt_659_18 = true := z1F (zdt_X5_explain) (by decide +kernel)
set_option maxRecDepth 100000 in
theorem zk_659_19 : zm1 zKS zuq zNS zm_659 4000 zt_659_19 = true := z1F (zdt_X5_explain) (by decide +kernel)
set_option maxRecDepth 100000 in
theorem zk_659_20 : zm1 zKS zuq zNS zm_659 4000 zt_659_20 = true := z1F (zdt_X5_explain) (by decide +kernel)
set_option maxRecDepth 100000 in
theorem zk_659_s : zm0 zKS zuq zNS zm_659 4000 = true := z0F (zdt_X5_explain) (by decide +kernel)
set_option maxRecDepth 100000 in
theorem zk_659 : zmeth zKS zuq zNS zm_659 4000 = true := zmeth_by zk_659_s (List.forall_mem_cons.mpr ⟨zk_659_0, (List.forall_mem_cons.mpr ⟨zk_659_1, (List.forall_mem_cons.mpr ⟨zk_659_2, (List.forall_mem_cons.mpr ⟨zk_659_3, (List.forall_mem_cons.mpr ⟨zk_659_4, (List.forall_mem_cons.mpr ⟨zk_659_5, (List.forall_mem_cons.mpr ⟨zk_659_6, (List.forall_mem_cons.mpr ⟨zk_659_7, (List.forall_mem_cons.mpr ⟨zk_659_8, (List.forall_mem_cons.mpr ⟨zk_659_9, (List.forall_mem_cons.mpr ⟨zk_659_10, (List.forall_mem_cons.mpr ⟨zk_659_11, (List.forall_mem_cons.mpr ⟨zk_659_12, (List.forall_mem_cons.mpr ⟨zk_659_13, (List.forall_mem_cons.mpr ⟨zk_659_14, (List.forall_mem_cons.mpr ⟨zk_659_15, (List.forall_mem_cons.mpr ⟨zk_659_16, (List.forall_mem_cons.mpr ⟨zk_659_17, (List.forall_mem_cons.mpr ⟨zk_659_18, (List.forall_mem_cons.mpr ⟨zk_659_19, (List.forall_mem_cons.mpr ⟨zk_659_20, nilz⟩)⟩)⟩)⟩)⟩)⟩)⟩)⟩)⟩)⟩)⟩)⟩)⟩)⟩)⟩)⟩)⟩)⟩)⟩)⟩)⟩)
set_option maxRecDepth 100000 in
theorem zM_659 {l : Launch} {D : va_G} {cI cZ cB cJ cR : ClassId} {ks ad : List Nat} {Psi : va_W → Prop} (hw : zworld ks ad zuq zNS Psi) (hm : zMan l D cI cZ cB cJ cR ks ad Psi) : zMet l D cI cZ cB cJ cR zKS ks ad Psi yX5_explain (.code yX5_explain cX5_explain 3 none) 5 zc_659 :=
  zmet_of hw 5 (by decide) 4000 zk_659 (by decide) (by decide) (fun X => ⟨zg_RX5 X, zp_RX5 X, zl1_RX5 X, zl2_RX5 X, nilz, (List.forall_mem_cons.mpr ⟨zq_RX5_239 X (zM_360 hw hm) (by decide) rfl rfl, (List.forall_mem_cons.mpr ⟨zq_RX5_239 X (zM_361 hw hm) (by decide) rfl rfl, (List.forall_mem_cons.mpr ⟨zq_RX5_239 X (zM_362 hw hm) (by decide) rfl rfl, (List.forall_mem_cons.mpr ⟨zq_RX5_239 X (zM_363 hw hm) (by decide) rfl rfl, (List.forall_mem_cons.mpr ⟨zq_RX5_239 X (zM_364 hw hm) (by decide) rfl rfl, (List.forall_mem_cons.mpr ⟨zq_RX5_239 X (zM_365 hw hm) (by decide) rfl rfl, (List.forall_mem_cons.mpr ⟨zq_RX5_239 X (zM_366 hw hm) (by decide) rfl rfl, (List.forall_mem_cons.mpr ⟨zq_RX5_239 X (zM_367 hw hm) (by decide) rfl rfl, (List.forall_mem_cons.mpr ⟨zq_RX5_239 X (zM_368 hw hm) (by decide) rfl rfl, (List.forall_mem_cons.mpr ⟨zq_RX5_239 X (zM_369 hw hm) (by decide) rfl rfl, (List.forall_mem_cons.mpr ⟨zq_RX5_239 X (zM_370 hw hm) (by decide) rfl rfl, (List.forall_mem_cons.mpr ⟨zq_RX5_239 X (zM_371 hw hm) (by decide) rfl rfl, (List.forall_mem_cons.mpr ⟨zq_RX5_239 X (zM_372 hw hm) (by decide) rfl rfl, (List.forall_mem_cons.mpr ⟨zq_RX5_239 X (zM_373 hw hm) (by decide) rfl rfl, (List.forall_mem_cons.mpr ⟨zq_RX5_239 X (zM_374 hw hm) (by decide) rfl rfl, (List.forall_mem_cons.mpr ⟨zq_RX5_239 X (zM_375 hw hm) (by decide) rfl rfl, (List.forall_mem_cons.mpr ⟨zq_RX5_239 X (zM_376 hw hm) (by decide) rfl rfl, (List.forall_mem_cons.mpr ⟨zq_RX5_239 X (zM_377 hw hm) (by decide) rfl rfl, (List.forall_mem_cons.mpr ⟨zq_RX5_239 X (zM_378 hw hm) (by decide) rfl rfl, (List.forall_mem_cons.mpr ⟨zq_RX5_239 X (zM_379 hw hm) (by decide) rfl rfl, (List.forall_mem_cons.mpr ⟨zq_RX5_239 X (zM_380 hw hm) (by decide) rfl rfl, (List.forall_mem_cons.mpr ⟨zq_RX5_239 X (zM_381 hw hm) (by decide) rfl rfl, (List.forall_mem_cons.mpr ⟨zq_RX5_239 X (zM_382 hw hm) (by decide) rfl rfl, (List.forall_mem_cons.mpr ⟨zq_RX5_239 X (zM_383 hw hm) (by decide) rfl rfl, (List.forall_mem_cons.mpr ⟨zq_RX5_239 X (zM_384 hw hm) (by decide) rfl rfl, (List.forall_mem_cons.mpr ⟨zq_RX5_239 X (zM_385 hw hm) (by decide) rfl rfl, (List.forall_mem_cons.mpr ⟨zq_RX5_239 X (zM_386 hw hm) (by decide) rfl rfl, (List.forall_mem_cons.mpr ⟨zq_RX5_239 X (zM_387 hw hm) (by decide) rfl rfl, (List.forall_mem_cons.mpr ⟨zq_RX5_239 X (zM_388 hw hm) (by decide) rfl rfl, (List.forall_mem_cons.mpr ⟨zq_RX5_239 X (zM_389 hw hm) (by decide) rfl rfl, (List.forall_mem_cons.mpr ⟨zq_RX5_239 X (zM_390 hw hm) (by decide) rfl rfl, (List.forall_mem_cons.mpr ⟨zq_RX5_239 X (zM_391 hw hm) (by decide) rfl rfl, (List.forall_mem_cons.mpr ⟨zq_RX5_239 X (zM_392 hw hm) (by decide) rfl rfl, (List.forall_mem_cons.mpr ⟨zq_RX5_239 X (zM_393 hw hm) (by decide) rfl rfl, (List.forall_mem_cons.mpr ⟨zq_RX5_239 X (zM_394 hw hm) (by decide) rfl rfl, (List.forall_mem_cons.mpr ⟨zq_RX5_239 X (zM_395 hw hm) (by decide) rfl rfl, (List.forall_mem_cons.mpr ⟨zq_RX5_239 X (zM_396 hw hm) (by decide) rfl rfl, (List.forall_mem_cons.mpr ⟨zq_RX5_239 X (zM_397 hw hm) (by decide) rfl rfl, (List.forall_mem_cons.mpr ⟨zq_RX5_239 X (zM_398 hw hm) (by decide) rfl rfl, (List.forall_mem_cons.mpr ⟨zq_RX5_239 X (zM_399 hw hm) (by decide) rfl rfl, (List.forall_mem_cons.mpr ⟨zq_RX5_239 X (zM_400 hw hm) (by decide) rfl rfl, (List.forall_mem_cons.mpr ⟨zq_RX5_239 X (zM_401 hw hm) (by decide) rfl rfl, (List.forall_mem_cons.mpr ⟨zq_RX5_239 X (zM_402 hw hm) (by decide) rfl rfl, (List.forall_mem_cons.mpr ⟨zq_RX5_239 X (zM_403 hw hm) (by decide) rfl rfl, (List.forall_mem_cons.mpr ⟨zq_RX5_239 X (zM_404 hw hm) (by decide) rfl rfl, (List.forall_mem_cons.mpr ⟨zq_RX5_239 X (zM_405 hw hm) (by decide) rfl rfl, (List.forall_mem_cons.mpr ⟨zq_RX5_239 X (zM_406 hw hm) (by decide) rfl rfl, (List.forall_mem_cons.mpr ⟨zq_RX5_239 X (zM_407 hw hm) (by decide) rfl rfl, (List.forall_mem_cons.mpr ⟨zq_RX5_239 X (zM_408 hw hm) (by decide) rfl rfl, (List.forall_mem_cons.mpr ⟨zq_RX5_239 X (zM_409 hw hm) (by decide) rfl rfl, (List.forall_mem_cons.mpr ⟨zq_RX5_239 X (zM_410 hw hm) (by decide) rfl rfl, (List.forall_mem_cons.mpr ⟨zq_RX5_239 X (zM_411 hw hm) (by decide) rfl rfl, (List.forall_mem_cons.mpr ⟨zq_RX5_239 X (zM_412 hw hm) (by decide) rfl rfl, (List.forall_mem_cons.mpr ⟨zq_RX5_239 X (zM_413 hw hm) (by decide) rfl rfl, (List.forall_mem_cons.mpr ⟨zq_RX5_239 X (zM_414 hw hm) (by decide) rfl rfl, (List.forall_mem_cons.mpr ⟨zq_RX5_239 X (zM_415 hw hm) (by decide) rfl rfl, (List.forall_mem_cons.mpr ⟨zq_RX5_239 X (zM_416 hw hm) (by decide) rfl rfl, (List.forall_mem_cons.mpr ⟨zq_RX5_239 X (zM_417 hw hm) (by decide) rfl rfl, (List.forall_mem_cons.mpr ⟨zq_RX5_239 X (zM_418 hw hm) (by decide) rfl rfl, (List.forall_mem_cons.mpr ⟨zq_RX5_239 X (zM_419 hw hm) (by decide) rfl rfl, (List.forall_mem_cons.mpr ⟨zq_RX5_250 X (zM_601 hw hm) (by decide) rfl rfl, (List.forall_mem_cons.mpr ⟨zq_RX5_358 X (zM_344 hw hm) (by decide) rfl rfl, (List.forall_mem_cons.mpr ⟨zq_RX5_361 X (zM_343 hw hm) (by decide) rfl rfl, (List.forall_mem_cons.mpr ⟨zq_RX5_365 X (zM_345 hw hm) (by decide) rfl rfl, nilz⟩)⟩)⟩)⟩)⟩)⟩)⟩)⟩)⟩)⟩)⟩)⟩)⟩)⟩)⟩)⟩)⟩)⟩)⟩)⟩)⟩)⟩)⟩)⟩)⟩)⟩)⟩)⟩)⟩)⟩)⟩)⟩)⟩)⟩)⟩)⟩)⟩)⟩)⟩)⟩)⟩)⟩)⟩)⟩)⟩)⟩)⟩)⟩)⟩)⟩)⟩)⟩)⟩)⟩)⟩)⟩)⟩)⟩)⟩)⟩)⟩)⟩)⟩)⟩)⟩)
set_option maxRecDepth 100000 in
theorem zk_660_0 : zm1 zKS zuq zNS zm_660 4000 zt_660_0 = true := z1F (zdt_X5_explain) (by decide +kernel)
set_option maxRecDepth 100000 in
theorem zk_660_1 : zm1 zKS zuq zNS zm_660 4000 zt_660_1 = true := z1F (zdt_X5_explain) (by decide +kernel)
set_option maxRecDepth 100000 in
theorem zk_660_2 : zm1 zKS zuq zNS zm_660 4000 zt_660_2 = true := z1F (zdt_X5_explain) (by decide +kernel)
set_option maxRecDepth 100000 in
theorem zk_660_3 : zm1 zKS zuq zNS zm_660 4000 zt_660_3 = true := z1F (zdt_X5_explain) (by decide +kernel)
set_option maxRecDepth 100000 in
theorem zk_660_4 : zm1 zKS zuq zNS zm_660 4000 zt_660_4 = true := z1F (zdt_X5_explain) (by decide +kernel)
set_option maxRecDepth 100000 in
theorem zk_660_5 : zm1 zKS zuq zNS zm_660 4000 zt_660_5 = true := z1F (zdt_X5_explain) (by decide +kernel)
set_option maxRecDepth 100000 in
theorem zk_660_6 : zm1 zKS zuq zNS zm_660 4000 zt_660_6 = true := z1F (zdt_X5_explain) (by decide +kernel)
set_option maxRecDepth 100000 in
theorem zk_660_7 : zm1 zKS zuq zNS zm_660 4000 zt_660_7 = true := z1F (zdt_X5_explain) (by decide +kernel)
set_option maxRecDepth 100000 in
theorem zk_660_8 : zm1 zKS zuq zNS zm_660 4000 zt_660_8 = true := z1F (zdt_X5_explain) (by decide +kernel)
set_option maxRecDepth 100000 in
theorem zk_660_9 : zm1 zKS zuq zNS zm_660 4000 zt_660_9 = true := z1F (zdt_X5_explain) (by decide +kernel)
set_option maxRecDepth 100000 in
theorem zk_660_10 : zm1 zKS zuq zNS zm_660 4000 zt_660_10 = true := z1F (zdt_X5_explain) (by decide +kernel)
set_option maxRecDepth 100000 in
theorem zk_660_11 : zm1 zKS zuq zNS zm_660 4000 zt_660_11 = true := z1F (zdt_X5_explain) (by decide +kernel)
set_option maxRecDepth 100000 in
theorem zk_660_12 : zm1 zKS zuq zNS zm_660 4000 zt_660_12 = true := z1F (zdt_X5_explain) (by decide +kernel)
set_option maxRecDepth 100000 in
theorem zk_660_13 : zm1 zKS zuq zNS zm_660 4000 zt_660_13 = true := z1F (zdt_X5_explain) (by decide +kernel)
set_option maxRecDepth 100000 in
theorem zk_660_14 : zm1 zKS zuq zNS zm_660 4000 zt_660_14 = true := z1F (zdt_X5_explain) (by decide +kernel)
set_option maxRecDepth 100000 in
theorem zk_660_15 : zm1 zKS zuq zNS zm_660 4000 zt_660_15 = true := z1F (zdt_X5_explain) (by decide +kernel)
set_option maxRecDepth 100000 in
theorem zk_660_16 : zm1 zKS zuq zNS zm_660 4000 zt_660_16 = true := z1F (zdt_X5_explain) (by decide +kernel)
set_option maxRecDepth 100000 in
theorem zk_660_17 : zm1 zKS zuq zNS zm_660 4000 zt_660_17 = true := z1F (zdt_X5_explain) (by decide +kernel)
set_option maxRecDepth 100000 in
theorem zk_660_18 : zm1 zKS zuq zNS zm_660 4000 zt_660_18 = true := z1F (zdt_X5_explain) (by decide +kernel)
set_option maxRecDepth 100000 in
theorem zk_660_19 : zm1 zKS zuq zNS zm_660 4000 zt_660_19 = true := z1F (zdt_X5_explain) (by decide +kernel)
set_option maxRecDepth 100000 in
theorem zk_660_20 : zm1 zKS zuq zNS zm_660 4000 zt_660_20 = true := z1F (zdt_X5_explain) (by decide +kernel)
set_option maxRecDepth 100000 in
theorem zk_660_s : zm0 zKS zuq zNS zm_660 4000 = true := z0F (zdt_X5_explain) (by decide +kernel)
set_option maxRecDepth 100000 in
theorem zk_660 : zmeth zKS zuq zNS zm_660 4000 = true := zmeth_by zk_660_s (List.forall_mem_cons.mpr ⟨zk_660_0, (List.forall_mem_cons.mpr ⟨zk_660_1, (List.forall_mem_cons.mpr ⟨zk_660_2, (List.forall_mem_cons.mpr ⟨zk_660_3, (List.forall_mem_cons.mpr ⟨zk_660_4, (List.forall_mem_cons.mpr ⟨zk_660_5, (List.forall_mem_cons.mpr ⟨zk_660_6, (List.forall_mem_cons.mpr ⟨zk_660_7, (List.forall_mem_cons.mpr ⟨zk_660_8, (List.forall_mem_cons.mpr ⟨zk_660_9, (List.forall_mem_cons.mpr ⟨zk_660_10, (List.forall_mem_cons.mpr ⟨zk_660_11, (List.forall_mem_cons.mpr ⟨zk_660_12, (List.forall_mem_cons.mpr ⟨zk_660_13, (List.forall_mem_cons.mpr ⟨zk_660_14, (List.forall_mem_cons.mpr ⟨zk_660_15, (List.forall_mem_cons.mpr ⟨zk_660_16, (List.forall_mem_cons.mpr ⟨zk_660_17, (List.forall_mem_cons.mpr ⟨zk_660_18, (List.forall_mem_cons.mpr ⟨zk_660_19, (List.forall_mem_cons.mpr ⟨zk_660_20, nilz⟩)⟩)⟩)⟩)⟩)⟩)⟩)⟩)⟩)⟩)⟩)⟩)⟩)⟩)⟩)⟩)⟩)⟩)⟩)⟩)⟩)
set_option maxRecDepth 100000 in
theorem zM_660 {l : Launch} {D : va_G} {cI cZ cB cJ cR : ClassId} {ks ad : List Nat} {Psi : va_W → Prop} (hw : zworld ks ad zuq zNS Psi) (hm : zMan l D cI cZ cB cJ cR ks ad Psi) : zMet l D cI cZ cB cJ cR zKS ks ad Psi yX5_explain (.code yX5_explain cX5_explain 3 none) 5 zc_660 :=
  zmet_of hw 5 (by decide) 4000 zk_660 (by decide) (by decide) (fun X => ⟨zg_RX5 X, zp_RX5 X, zl1_RX5 X, zl2_RX5 X, nilz, (List.forall_mem_cons.mpr ⟨zq_RX5_239 X (zM_420 hw hm) (by decide) rfl rfl, (List.forall_mem_cons.mpr ⟨zq_RX5_239 X (zM_421 hw hm) (by decide) rfl rfl, (List.forall_mem_cons.mpr ⟨zq_RX5_239 X (zM_422 hw hm) (by decide) rfl rfl, (List.forall_mem_cons.mpr ⟨zq_RX5_239 X (zM_423 hw hm) (by decide) rfl rfl, (List.forall_mem_cons.mpr ⟨zq_RX5_239 X (zM_424 hw hm) (by decide) rfl rfl, (List.forall_mem_cons.mpr ⟨zq_RX5_239 X (zM_425 hw hm) (by decide) rfl rfl, (List.forall_mem_cons.mpr ⟨zq_RX5_239 X (zM_426 hw hm) (by decide) rfl rfl, (List.forall_mem_cons.mpr ⟨zq_RX5_239 X (zM_427 hw hm) (by decide) rfl rfl, (List.forall_mem_cons.mpr ⟨zq_RX5_239 X (zM_428 hw hm) (by decide) rfl rfl, (List.forall_mem_cons.mpr ⟨zq_RX5_239 X (zM_429 hw hm) (by decide) rfl rfl, (List.forall_mem_cons.mpr ⟨zq_RX5_239 X (zM_430 hw hm) (by decide) rfl rfl, (List.forall_mem_cons.mpr ⟨zq_RX5_239 X (zM_431 hw hm) (by decide) rfl rfl, (List.forall_mem_cons.mpr ⟨zq_RX5_239 X (zM_432 hw hm) (by decide) rfl rfl, (List.forall_mem_cons.mpr ⟨zq_RX5_239 X (zM_433 hw hm) (by decide) rfl rfl, (List.forall_mem_cons.mpr ⟨zq_RX5_239 X (zM_434 hw hm) (by decide) rfl rfl, (List.forall_mem_cons.mpr ⟨zq_RX5_239 X (zM_435 hw hm) (by decide) rfl rfl, (List.forall_mem_cons.mpr ⟨zq_RX5_239 X (zM_436 hw hm) (by decide) rfl rfl, (List.forall_mem_cons.mpr ⟨zq_RX5_239 X (zM_437 hw hm) (by decide) rfl rfl, (List.forall_mem_cons.mpr ⟨zq_RX5_239 X (zM_438 hw hm) (by decide) rfl rfl, (List.forall_mem_cons.mpr ⟨zq_RX5_239 X (zM_439 hw hm) (by decide) rfl rfl, (List.forall_mem_cons.mpr ⟨zq_RX5_239 X (zM_440 hw hm) (by decide) rfl rfl, (List.forall_mem_cons.mpr ⟨zq_RX5_239 X (zM_441 hw hm) (by decide) rfl rfl, (List.forall_mem_cons.mpr ⟨zq_RX5_239 X (zM_442 hw hm) (by decide) rfl rfl, (List.forall_mem_cons.mpr ⟨zq_RX5_239 X (zM_443 hw hm) (by decide) rfl rfl, (List.forall_mem_cons.mpr ⟨zq_RX5_239 X (zM_444 hw hm) (by decide) rfl rfl, (List.forall_mem_cons.mpr ⟨zq_RX5_239 X (zM_445 hw hm) (by decide) rfl rfl, (List.forall_mem_cons.mpr ⟨zq_RX5_239 X (zM_446 hw hm) (by decide) rfl rfl, (List.forall_mem_cons.mpr ⟨zq_RX5_239 X (zM_447 hw hm) (by decide) rfl rfl, (List.forall_mem_cons.mpr ⟨zq_RX5_239 X (zM_448 hw hm) (by decide) rfl rfl, (List.forall_mem_cons.mpr ⟨zq_RX5_239 X (zM_449 hw hm) (by decide) rfl rfl, (List.forall_mem_cons.mpr ⟨zq_RX5_239 X (zM_450 hw hm) (by decide) rfl rfl, (List.forall_mem_cons.mpr ⟨zq_RX5_239 X (zM_451 hw hm) (by decide) rfl rfl, (List.forall_mem_cons.mpr ⟨zq_RX5_239 X (zM_452 hw hm) (by decide) rfl rfl, (List.forall_mem_cons.mpr ⟨zq_RX5_239 X (zM_453 hw hm) (by decide) rfl rfl, (List.forall_mem_cons.mpr ⟨zq_RX5_239 X (zM_454 hw hm) (by decide) rfl rfl, (List.forall_mem_cons.mpr ⟨zq_RX5_239 X (zM_455 hw hm) (by decide) rfl rfl, (List.forall_mem_cons.mpr ⟨zq_RX5_239 X (zM_456 hw hm) (by decide) rfl rfl, (List.forall_mem_cons.mpr ⟨zq_RX5_239 X (zM_457 hw hm) (by decide) rfl rfl, (List.forall_mem_cons.mpr ⟨zq_RX5_239 X (zM_458 hw hm) (by decide) rfl rfl, (List.forall_mem_cons.mpr ⟨zq_RX5_239 X (zM_459 hw hm) (by decide) rfl rfl, (List.forall_mem_cons.mpr ⟨zq_RX5_239 X (zM_460 hw hm) (by decide) rfl rfl, (List.forall_mem_cons.mpr ⟨zq_RX5_239 X (zM_461 hw hm) (by decide) rfl rfl, (List.forall_mem_cons.mpr ⟨zq_RX5_239 X (zM_462 hw hm) (by decide) rfl rfl, (List.forall_mem_cons.mpr ⟨zq_RX5_239 X (zM_463 hw hm) (by decide) rfl rfl, (List.forall_mem_cons.mpr ⟨zq_RX5_239 X (zM_464 hw hm) (by decide) rfl rfl, (List.forall_mem_cons.mpr ⟨zq_RX5_239 X (zM_465 hw hm) (by decide) rfl rfl, (List.forall_mem_cons.mpr ⟨zq_RX5_239 X (zM_466 hw hm) (by decide) rfl rfl, (List.forall_mem_cons.mpr ⟨zq_RX5_239 X (zM_467 hw hm) (by decide) rfl rfl, (List.forall_mem_cons.mpr ⟨zq_RX5_239 X (zM_468 hw hm) (by decide) rfl rfl, (List.forall_mem_cons.mpr ⟨zq_RX5_239 X (zM_469 hw hm) (by decide) rfl rfl, (List.forall_mem_cons.mpr ⟨zq_RX5_239 X (zM_470 hw hm) (by decide) rfl rfl, (List.forall_mem_cons.mpr ⟨zq_RX5_239 X (zM_471 hw hm) (by decide) rfl rfl, (List.forall_mem_cons.mpr ⟨zq_RX5_239 X (zM_472 hw hm) (by decide) rfl rfl, (List.forall_mem_cons.mpr ⟨zq_RX5_239 X (zM_473 hw hm) (by decide) rfl rfl, (List.forall_mem_cons.mpr ⟨zq_RX5_239 X (zM_474 hw hm) (by decide) rfl rfl, (List.forall_mem_cons.mpr ⟨zq_RX5_239 X (zM_475 hw hm) (by decide) rfl rfl, (List.forall_mem_cons.mpr ⟨zq_RX5_239 X (zM_476 hw hm) (by decide) rfl rfl, (List.forall_mem_cons.mpr ⟨zq_RX5_239 X (zM_477 hw hm) (by decide) rfl rfl, (List.forall_mem_cons.mpr ⟨zq_RX5_239 X (zM_478 hw hm) (by decide) rfl rfl, (List.forall_mem_cons.mpr ⟨zq_RX5_239 X (zM_479 hw hm) (by decide) rfl rfl, (List.forall_mem_cons.mpr ⟨zq_RX5_250 X (zM_603 hw hm) (by decide) rfl rfl, (List.forall_mem_cons.mpr ⟨zq_RX5_358 X (zM_344 hw hm) (by decide) rfl rfl, (List.forall_mem_cons.mpr ⟨zq_RX5_361 X (zM_343 hw hm) (by decide) rfl rfl, (List.forall_mem_cons.mpr ⟨zq_RX5_365 X (zM_345 hw hm) (by decide) rfl rfl, nilz⟩)⟩)⟩)⟩)⟩)⟩)⟩)⟩)⟩)⟩)⟩)⟩)⟩)⟩)⟩)⟩)⟩)⟩)⟩)⟩)⟩)⟩)⟩)⟩)⟩)⟩)⟩)⟩)⟩)⟩)⟩)⟩)⟩)⟩)⟩)⟩)⟩)⟩)⟩)⟩)⟩)⟩)⟩)⟩)⟩)⟩)⟩)⟩)⟩)⟩)⟩)⟩)⟩)⟩)⟩)⟩)⟩)⟩)⟩)⟩)⟩)⟩)⟩)⟩)⟩)
