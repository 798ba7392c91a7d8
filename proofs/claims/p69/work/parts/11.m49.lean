set_option maxRecDepth 100000 in
theorem zk_1170_0 : zm1 zKS zuq zNS zm_1170 4000 zt_1170_0 = true := z1F (zdt_X6_whoOf) (by decide +kernel)
set_option maxRecDepth 100000 in
theorem zk_1170_1 : zm1 zKS zuq zNS zm_1170 4000 zt_1170_1 = true := z1F (zdt_X6_whoOf) (by decide +kernel)
set_option maxRecDepth 100000 in
theorem zk_1170_2 : zm1 zKS zuq zNS zm_1170 4000 zt_1170_2 = true := z1F (zdt_X6_whoOf) (by decide +kernel)
set_option maxRecDepth 100000 in
theorem zk_1170_3 : zm1 zKS zuq zNS zm_1170 4000 zt_1170_3 = true := z1F (zdt_X6_whoOf) (by decide +kernel)
set_option maxRecDepth 100000 in
theorem zk_1170_4 : zm1 zKS zuq zNS zm_1170 4000 zt_1170_4 = true := z1F (zdt_X6_whoOf) (by decide +kernel)
set_option maxRecDepth 100000 in
theorem zk_1170_5 : zm1 zKS zuq zNS zm_1170 4000 zt_1170_5 = true := z1F (zdt_X6_whoOf) (by decide +kernel)
set_option maxRecDepth 100000 in
theorem zk_1170_6 : zm1 zKS zuq zNS zm_1170 4000 zt_1170_6 = true := z1F (zdt_X6_whoOf) (by decide +kernel)
set_option maxRecDepth 100000 in
theorem zk_1170_7 : zm1 zKS zuq zNS zm_1170 4000 zt_1170_7 = true := z1F (zdt_X6_whoOf) (by decide +kernel)
set_option maxRecDepth 100000 in
theorem zk_1170_8 : zm1 zKS zuq zNS zm_1170 4000 zt_1170_8 = true := z1F (zdt_X6_whoOf) (by decide +kernel)
set_option maxRecDepth 100000 in
theorem zk_1170_9 : zm1 zKS zuq zNS zm_1170 4000 zt_1170_9 = true := z1F (zdt_X6_whoOf) (by decide +kernel)
set_option maxRecDepth 100000 in
theorem zk_1170_10 : zm1 zKS zuq zNS zm_1170 4000 zt_1170_10 = true := z1F (zdt_X6_whoOf) (by decide +kernel)
set_option maxRecDepth 100000 in
theorem zk_1170_11 : zm1 zKS zuq zNS zm_1170 4000 zt_1170_11 = true := z1F (zdt_X6_whoOf) (by decide +kernel)
set_option maxRecDepth 100000 in
theorem zk_1170_12 : zm1 zKS zuq zNS zm_1170 4000 zt_1170_12 = true := z1F (zdt_X6_whoOf) (by decide +kernel)
set_option maxRecDepth 100000 in
theorem zk_1170_13 : zm1 zKS zuq zNS zm_1170 4000 zt_1170_13 = true := z1F (zdt_X6_whoOf) (by decide +kernel)
set_option maxRecDepth 100000 in
theorem zk_1170_14 : zm1 zKS zuq zNS zm_1170 4000 zt_1170_14 = true := z1F (zdt_X6_whoOf) (by decide +kernel)
set_option maxRecDepth 100000 in
theorem zk_1170_15 : zm1 zKS zuq zNS zm_1170 4000 zt_1170_15 = true := z1F (zdt_X6_whoOf) (by decide +kernel)
set_option maxRecDepth 100000 in
theorem zk_1170_16 : zm1 zKS zuq zNS zm_1170 4000 zt_1170_16 = true := z1F (zdt_X6_whoOf) (by decide +kernel)
set_option maxRecDepth 100000 in
theorem zk_1170_17 : zm1 zKS zuq zNS zm_1170 4000 zt_1170_17 = true := z1F (zdt_X6_whoOf) (by decide +kernel)
set_option maxRecDepth 100000 in
theorem zk_1170_18 : zm1 zKS zuq zNS zm_1170 4000 zt_1170_18 = true := z1F (zdt_X6_whoOf) (by decide +kernel)
set_option maxRecDepth 100000 in
theorem zk_1170_19 : zm1 zKS zuq zNS zm_1170 4000 zt_1170_19 = true := z1F (zdt_X6_whoOf) (by decide +kernel)
set_option maxRecDepth 100000 in
theorem zk_1170_20 : zm1 zKS zuq zNS zm_1170 4000 zt_1170_20 = true := z1F (zdt_X6_whoOf) (by decide +kernel)
set_option maxRecDepth 100000 in
theorem zk_1170_21 : zm1 zKS zuq zNS zm_1170 4000 zt_1170_21 = true := z1F (zdt_X6_whoOf) (by decide +kernel)
set_option maxRecDepth 100000 in
theorem zk_1170_22 : zm1 zKS zuq zNS zm_1170 4000 zt_1170_22 = true := z1F (zdt_X6_whoOf) (by decide +kernel)
set_option maxRecDepth 100000 in
theorem zk_1170_23 : zm1 zKS zuq zNS zm_1170 4000 zt_1170_23 = true := z1F (zdt_X6_whoOf) (by decide +kernel)
set_option maxRecDepth 100000 in
theorem zk_1170_24 : zm1 zKS zuq zNS zm_1170 4000 zt_1170_24 = true := z1F (zdt_X6_whoOf) (by decide +kernel)
set_option maxRecDepth 100000 in
theorem zk_1170_25 : zm1 zKS zuq zNS zm_1170 4000 zt_1170_25 = true := z1F (zdt_X6_whoOf) (by decide +kernel)
set_option maxRecDepth 100000 in
theorem zk_1170_26 : zm1 zKS zuq zNS zm_1170 4000 zt_1170_26 = true := z1F (zdt_X6_whoOf) (by decide +kernel)
set_option maxRecDepth 100000 in
theorem zk_1170_27 : zm1 zKS zuq zNS zm_1170 4000 zt_1170_27 = true := z1F (zdt_X6_whoOf) (by decide +kernel)
set_option maxRecDepth 100000 in
theorem zk_1170_28 : zm1 zKS zuq zNS zm_1170 4000 zt_1170_28 = true := z1F (zdt_X6_whoOf) (by decide +kernel)
set_option maxRecDepth 100000 in
theorem zk_1170_29 : zm1 zKS zuq zNS zm_1170 4000 zt_1170_29 = true := z1F (zdt_X6_whoOf) (by decide +kernel)
set_option maxRecDepth 100000 in
theorem zk_1170_30 : zm1 zKS zuq zNS zm_1170 4000 zt_1170_30 = true := z1F (zdt_X6_whoOf) (by decide +kernel)
set_option maxRecDepth 100000 in
theorem zk_1170_31 : zm1 zKS zuq zNS zm_1170 4000 zt_1170_31 = true := z1F (zdt_X6_whoOf) (by decide +kernel)
set_option maxRecDepth 100000 in
theorem zk_1170_32 : zm1 zKS zuq zNS zm_1170 4000 zt_1170_32 = true := z1F (zdt_X6_whoOf) (by decide +kernel)
set_option maxRecDepth 100000 in
theorem zk_1170_s : zm0 zKS zuq zNS zm_1170 4000 = true := z0F (zdt_X6_whoOf) (by decide +kernel)
set_option maxRecDepth 100000 in
theorem zk_1170 : zmeth zKS zuq zNS zm_1170 4000 = true := zmeth_by zk_1170_s (List.forall_mem_cons.mpr ⟨zk_1170_0, (List.forall_mem_cons.mpr ⟨zk_1170_1, (List.forall_mem_cons.mpr ⟨zk_1170_2, (List.forall_mem_cons.mpr ⟨zk_1170_3, (List.forall_mem_cons.mpr ⟨zk_1170_4, (List.forall_mem_cons.mpr ⟨zk_1170_5, (List.forall_mem_cons.mpr ⟨zk_1170_6, (List.forall_mem_cons.mpr ⟨zk_1170_7, (List.forall_mem_cons.mpr ⟨zk_1170_8, (List.forall_mem_cons.mpr ⟨zk_1170_9, (List.forall_mem_cons.mpr ⟨zk_1170_10, (List.forall_mem_cons.mpr ⟨zk_1170_11, (List.forall_mem_cons.mpr ⟨zk_1170_12, (List.forall_mem_cons.mpr ⟨zk_1170_13, (List.forall_mem_cons.mpr ⟨zk_1170_14, (List.forall_mem_cons.mpr ⟨zk_1170_15, (List.forall_mem_cons.mpr ⟨zk_1170_16, (List.forall_mem_cons.mpr ⟨zk_1170_17, (List.forall_mem_cons.mpr ⟨zk_1170_18, (List.forall_mem_cons.mpr ⟨zk_1170_19, (List.forall_mem_cons.mpr ⟨zk_1170_20, (List.forall_mem_cons.mpr ⟨zk_1170_21, (List.forall_mem_cons.mpr ⟨zk_1170_22, (List.forall_mem_cons.mpr ⟨zk_1170_23, (List.forall_mem_cons.mpr ⟨zk_1170_24, (List.forall_mem_cons.mpr ⟨zk_1170_25, (List.forall_mem_cons.mpr ⟨zk_1170_26, (List.forall_mem_cons.mpr ⟨zk_1170_27, (List.forall_mem_cons.mpr ⟨zk_1170_28, (List.forall_mem_cons.mpr ⟨zk_1170_29, (List.forall_mem_cons.mpr ⟨zk_1170_30, (List.forall_mem_cons.mpr ⟨zk_1170_31, (List.forall_mem_cons.mpr ⟨zk_1170_32, nilz⟩)⟩)⟩)⟩)⟩)⟩)⟩)⟩)⟩)⟩)⟩)⟩)⟩)⟩)⟩)⟩)⟩)⟩)⟩)⟩)⟩)⟩)⟩)⟩)⟩)⟩)⟩)⟩)⟩)⟩)⟩)⟩)⟩)
set_option maxRecDepth 100000 in
theorem zM_1170 {l : Launch} {D : va_G} {cI cZ cB cJ cR : ClassId} {ks ad : List Nat} {Psi : va_W → Prop} (hw : zworld ks ad zuq zNS Psi) (hm : zMan l D cI cZ cB cJ cR ks ad Psi) : zMet l D cI cZ cB cJ cR zKS ks ad Psi yX6_whoOf (.code yX6_whoOf cX6_whoOf 6 (some .int)) 6 zc_1170 :=
  zmet_of hw 6 (by decide) 4000 zk_1170 (by decide) (by decide) (fun X => ⟨zg_RX6 X, zp_RX6 X, zl1_RX6 X, zl2_RX6 X, nilz, (List.forall_mem_cons.mpr ⟨zq_RX6_227 X (zM_1065 hw hm) (by decide) rfl rfl, (List.forall_mem_cons.mpr ⟨zq_RX6_340 X (zM_846 hw hm) (by decide) rfl rfl, nilz⟩)⟩)⟩)
set_option maxRecDepth 100000 in
theorem zk_1193 : zmeth zKS zuq zNS zm_1193 4000 = true := zqF (zdt0 _) (by decide +kernel)
theorem zM_1193 {l : Launch} {D : va_G} {cI cZ cB cJ cR : ClassId} {ks ad : List Nat} {Psi : va_W → Prop} (hw : zworld ks ad zuq zNS Psi) (hm : zMan l D cI cZ cB cJ cR ks ad Psi) : zMet l D cI cZ cB cJ cR zKS ks ad Psi yX6_worst (.code yX6_worst cX6_worst 4 (some .int)) 6 zc_1193 :=
  zmet_of hw 6 (by decide) 4000 zk_1193 (by decide) (by decide) (fun X => ⟨zg_RX6 X, zp_RX6 X, zl1_RX6 X, zl2_RX6 X, nilz, (List.forall_mem_cons.mpr ⟨zq_RX6_227 X (zM_1065 hw hm) (by decide) rfl rfl, (List.forall_mem_cons.mpr ⟨zq_RX6_270 X (zman_1021 hm) (by decide) rfl rfl, (List.forall_mem_cons.mpr ⟨zq_RX6_276 X (zM_927 hw hm) (by decide) rfl rfl, (List.forall_mem_cons.mpr ⟨zq_RX6_282 X (zM_886 hw hm) (by decide) rfl rfl, nilz⟩)⟩)⟩)⟩)⟩)
set_option maxRecDepth 100000 in
theorem zk_832 : zmeth zKS zuq zNS zm_832 4000 = true := zqF (zdt0 _) (by decide +kernel)
theorem zM_832 {l : Launch} {D : va_G} {cI cZ cB cJ cR : ClassId} {ks ad : List Nat} {Psi : va_W → Prop} (hw : zworld ks ad zuq zNS Psi) (hm : zMan l D cI cZ cB cJ cR ks ad Psi) : zMet l D cI cZ cB cJ cR zKS ks ad Psi yX6_all (.code yX6_all cX6_all 1 (some .int)) 7 zc_832 :=
  zmet_of hw 7 (by decide) 4000 zk_832 (by decide) (by decide) (fun X => ⟨zg_RX6 X, zp_RX6 X, zl1_RX6 X, zl2_RX6 X, nilz, (List.forall_mem_cons.mpr ⟨zq_RX6_270 X (zman_1021 hm) (by decide) rfl rfl, (List.forall_mem_cons.mpr ⟨zq_RX6_276 X (zM_927 hw hm) (by decide) rfl rfl, (List.forall_mem_cons.mpr ⟨zq_RX6_279 X (zM_833 hw hm) (by decide) rfl rfl, nilz⟩)⟩)⟩)⟩)
set_option maxRecDepth 100000 in
theorem zk_850 : zmeth zKS zuq zNS zm_850 4000 = true := zqF (zdt0 _) (by decide +kernel)
theorem zM_850 {l : Launch} {D : va_G} {cI cZ cB cJ cR : ClassId} {ks ad : List Nat} {Psi : va_W → Prop} (hw : zworld ks ad zuq zNS Psi) (hm : zMan l D cI cZ cB cJ cR ks ad Psi) : zMet l D cI cZ cB cJ cR zKS ks ad Psi yX6_city (.code yX6_city cX6_city 2 (some .int)) 7 zc_850 :=
  zmet_of hw 7 (by decide) 4000 zk_850 (by decide) (by decide) (fun X => ⟨zg_RX6 X, zp_RX6 X, zl1_RX6 X, zl2_RX6 X, nilz, (List.forall_mem_cons.mpr ⟨zq_RX6_153 X (zM_899 hw hm) (by decide) rfl rfl, (List.forall_mem_cons.mpr ⟨zq_RX6_170 X (zM_930 hw hm) (by decide) rfl rfl, (List.forall_mem_cons.mpr ⟨zq_RX6_202 X (zM_853 hw hm) (by decide) rfl rfl, (List.forall_mem_cons.mpr ⟨zq_RX6_205 X (zM_841 hw hm) (by decide) rfl rfl, (List.forall_mem_cons.mpr ⟨zq_RX6_208 X (zM_851 hw hm) (by decide) rfl rfl, (List.forall_mem_cons.mpr ⟨zq_RX6_211 X (zM_1036 hw hm) (by decide) rfl rfl, (List.forall_mem_cons.mpr ⟨zq_RX6_214 X (zM_876 hw hm) (by decide) rfl rfl, (List.forall_mem_cons.mpr ⟨zq_RX6_217 X (zM_933 hw hm) (by decide) rfl rfl, (List.forall_mem_cons.mpr ⟨zq_RX6_220 X (zM_856 hw hm) (by decide) rfl rfl, nilz⟩)⟩)⟩)⟩)⟩)⟩)⟩)⟩)⟩)⟩)
set_option maxRecDepth 100000 in
theorem zk_871 : zmeth zKS zuq zNS zm_871 4000 = true := zqF (zdt0 _) (by decide +kernel)
theorem zM_871 {l : Launch} {D : va_G} {cI cZ cB cJ cR : ClassId} {ks ad : List Nat} {Psi : va_W → Prop} (hw : zworld ks ad zuq zNS Psi) (hm : zMan l D cI cZ cB cJ cR ks ad Psi) : zMet l D cI cZ cB cJ cR zKS ks ad Psi yX6_deeds (.code yX6_deeds cX6_deeds 3 (some .int)) 7 zc_871 :=
  zmet_of hw 7 (by decide) 4000 zk_871 (by decide) (by decide) (fun X => ⟨zg_RX6 X, zp_RX6 X, zl1_RX6 X, zl2_RX6 X, nilz, (List.forall_mem_cons.mpr ⟨zq_RX6_234 X (zM_934 hw hm) (by decide) rfl rfl, (List.forall_mem_cons.mpr ⟨zq_RX6_270 X (zman_1021 hm) (by decide) rfl rfl, (List.forall_mem_cons.mpr ⟨zq_RX6_322 X (zM_935 hw hm) (by decide) rfl rfl, (List.forall_mem_cons.mpr ⟨zq_RX6_343 X (zM_872 hw hm) (by decide) rfl rfl, nilz⟩)⟩)⟩)⟩)⟩)
set_option maxRecDepth 100000 in
theorem zk_893 : zmeth zKS zuq zNS zm_893 4000 = true := zqF (zdt0 _) (by decide +kernel)
theorem zM_893 {l : Launch} {D : va_G} {cI cZ cB cJ cR : ClassId} {ks ad : List Nat} {Psi : va_W → Prop} (hw : zworld ks ad zuq zNS Psi) (hm : zMan l D cI cZ cB cJ cR ks ad Psi) : zMet l D cI cZ cB cJ cR zKS ks ad Psi yX6_guard (.code yX6_guard cX6_guard 6 (some .int)) 7 zc_893 :=
  zmet_of hw 7 (by decide) 4000 zk_893 (by decide) (by decide) (fun X => ⟨zg_RX6 X, zp_RX6 X, zl1_RX6 X, zl2_RX6 X, nilz, (List.forall_mem_cons.mpr ⟨zq_RX6_227 X (zM_1065 hw hm) (by decide) rfl rfl, (List.forall_mem_cons.mpr ⟨zq_RX6_234 X (zM_934 hw hm) (by decide) rfl rfl, (List.forall_mem_cons.mpr ⟨zq_RX6_270 X (zman_1021 hm) (by decide) rfl rfl, (List.forall_mem_cons.mpr ⟨zq_RX6_322 X (zM_935 hw hm) (by decide) rfl rfl, (List.forall_mem_cons.mpr ⟨zq_RX6_328 X (zM_1119 hw hm) (by decide) rfl rfl, (List.forall_mem_cons.mpr ⟨zq_RX6_343 X (zM_872 hw hm) (by decide) rfl rfl, nilz⟩)⟩)⟩)⟩)⟩)⟩)⟩)
set_option maxRecDepth 100000 in
theorem zk_894 : zmeth zKS zuq zNS zm_894 4000 = true := zqF (zdt0 _) (by decide +kernel)
theorem zM_894 {l : Launch} {D : va_G} {cI cZ cB cJ cR : ClassId} {ks ad : List Nat} {Psi : va_W → Prop} (hw : zworld ks ad zuq zNS Psi) (hm : zMan l D cI cZ cB cJ cR ks ad Psi) : zMet l D cI cZ cB cJ cR zKS ks ad Psi yX6_guarded (.code yX6_guarded cX6_guarded 2 (some .int)) 7 zc_894 :=
  zmet_of hw 7 (by decide) 4000 zk_894 (by decide) (by decide) (fun X => ⟨zg_RX6 X, zp_RX6 X, zl1_RX6 X, zl2_RX6 X, nilz, (List.forall_mem_cons.mpr ⟨zq_RX6_234 X (zM_934 hw hm) (by decide) rfl rfl, (List.forall_mem_cons.mpr ⟨zq_RX6_346 X (zM_895 hw hm) (by decide) rfl rfl, nilz⟩)⟩)⟩)
set_option maxRecDepth 100000 in
theorem zk_896 : zmeth zKS zuq zNS zm_896 4000 = true := zqF (zdt0 _) (by decide +kernel)
theorem zM_896 {l : Launch} {D : va_G} {cI cZ cB cJ cR : ClassId} {ks ad : List Nat} {Psi : va_W → Prop} (hw : zworld ks ad zuq zNS Psi) (hm : zMan l D cI cZ cB cJ cR ks ad Psi) : zMet l D cI cZ cB cJ cR zKS ks ad Psi yX6_guards (.code yX6_guards cX6_guards 3 (some .int)) 7 zc_896 :=
  zmet_of hw 7 (by decide) 4000 zk_896 (by decide) (by decide) (fun X => ⟨zg_RX6 X, zp_RX6 X, zl1_RX6 X, zl2_RX6 X, nilz, (List.forall_mem_cons.mpr ⟨zq_RX6_234 X (zM_934 hw hm) (by decide) rfl rfl, (List.forall_mem_cons.mpr ⟨zq_RX6_264 X (zman_1123 hm) (by decide) rfl, (List.forall_mem_cons.mpr ⟨zq_RX6_346 X (zM_895 hw hm) (by decide) rfl rfl, nilz⟩)⟩)⟩)⟩)
set_option maxRecDepth 100000 in
theorem zk_901 : zmeth zKS zuq zNS zm_901 4000 = true := zqF (zdt0 _) (by decide +kernel)
theorem zM_901 {l : Launch} {D : va_G} {cI cZ cB cJ cR : ClassId} {ks ad : List Nat} {Psi : va_W → Prop} (hw : zworld ks ad zuq zNS Psi) (hm : zMan l D cI cZ cB cJ cR ks ad Psi) : zMet l D cI cZ cB cJ cR zKS ks ad Psi yX6_homebody (.code yX6_homebody cX6_homebody 5 (some .int)) 7 zc_901 :=
  zmet_of hw 7 (by decide) 4000 zk_901 (by decide) (by decide) (fun X => ⟨zg_RX6 X, zp_RX6 X, zl1_RX6 X, zl2_RX6 X, nilz, (List.forall_mem_cons.mpr ⟨zq_RX6_227 X (zM_1065 hw hm) (by decide) rfl rfl, (List.forall_mem_cons.mpr ⟨zq_RX6_231 X (zM_902 hw hm) (by decide) rfl rfl, (List.forall_mem_cons.mpr ⟨zq_RX6_270 X (zman_1021 hm) (by decide) rfl rfl, (List.forall_mem_cons.mpr ⟨zq_RX6_276 X (zM_927 hw hm) (by decide) rfl rfl, (List.forall_mem_cons.mpr ⟨zq_RX6_279 X (zM_833 hw hm) (by decide) rfl rfl, nilz⟩)⟩)⟩)⟩)⟩)⟩)
set_option maxRecDepth 100000 in
theorem zk_1022 : zmeth zKS zuq zNS zm_1022 4000 = true := zqF (zdt0 _) (by decide +kernel)
theorem zM_1022 {l : Launch} {D : va_G} {cI cZ cB cJ cR : ClassId} {ks ad : List Nat} {Psi : va_W → Prop} (hw : zworld ks ad zuq zNS Psi) (hm : zMan l D cI cZ cB cJ cR ks ad Psi) : zMet l D cI cZ cB cJ cR zKS ks ad Psi yX6_laysAsk (.code yX6_laysAsk cX6_laysAsk 8 none) 7 zc_1022 :=
  zmet_of hw 7 (by decide) 4000 zk_1022 (by decide) (by decide) (fun X => ⟨zg_RX6 X, zp_RX6 X, zl1_RX6 X, zl2_RX6 X, nilz, (List.forall_mem_cons.mpr ⟨zq_RX6_227 X (zM_1065 hw hm) (by decide) rfl rfl, (List.forall_mem_cons.mpr ⟨zq_RX6_240 X (zM_925 hw hm) (by decide) rfl, (List.forall_mem_cons.mpr ⟨zq_RX6_250 X (zM_937 hw hm) (by decide) rfl rfl, (List.forall_mem_cons.mpr ⟨zq_RX6_264 X (zman_1123 hm) (by decide) rfl, (List.forall_mem_cons.mpr ⟨zq_RX6_352 X (zM_1167 hw hm) (by decide) rfl rfl, nilz⟩)⟩)⟩)⟩)⟩)⟩)
set_option maxRecDepth 100000 in
theorem zk_1023 : zmeth zKS zuq zNS zm_1023 4000 = true := zqF (zdt0 _) (by decide +kernel)
theorem zM_1023 {l : Launch} {D : va_G} {cI cZ cB cJ cR : ClassId} {ks ad : List Nat} {Psi : va_W → Prop} (hw : zworld ks ad zuq zNS Psi) (hm : zMan l D cI cZ cB cJ cR ks ad Psi) : zMet l D cI cZ cB cJ cR zKS ks ad Psi yX6_laysAsk (.code yX6_laysAsk cX6_laysAsk 8 none) 7 zc_1023 :=
  zmet_of hw 7 (by decide) 4000 zk_1023 (by decide) (by decide) (fun X => ⟨zg_RX6 X, zp_RX6 X, zl1_RX6 X, zl2_RX6 X, nilz, (List.forall_mem_cons.mpr ⟨zq_RX6_227 X (zM_1065 hw hm) (by decide) rfl rfl, (List.forall_mem_cons.mpr ⟨zq_RX6_240 X (zM_925 hw hm) (by decide) rfl, (List.forall_mem_cons.mpr ⟨zq_RX6_250 X (zM_937 hw hm) (by decide) rfl rfl, (List.forall_mem_cons.mpr ⟨zq_RX6_264 X (zman_1123 hm) (by decide) rfl, (List.forall_mem_cons.mpr ⟨zq_RX6_352 X (zM_1168 hw hm) (by decide) rfl rfl, nilz⟩)⟩)⟩)⟩)⟩)⟩)
set_option maxRecDepth 100000 in
theorem zk_1024 : zmeth zKS zuq zNS zm_1024 4000 = true := zqF (zdt0 _) (by decide +kernel)
theorem zM_1024 {l : Launch} {D : va_G} {cI cZ cB cJ cR : ClassId} {ks ad : List Nat} {Psi : va_W → Prop} (hw : zworld ks ad zuq zNS Psi) (hm : zMan l D cI cZ cB cJ cR ks ad Psi) : zMet l D cI cZ cB cJ cR zKS ks ad Psi yX6_laysAsk (.code yX6_laysAsk cX6_laysAsk 8 none) 7 zc_1024 :=
  zmet_of hw 7 (by decide) 4000 zk_1024 (by decide) (by decide) (fun X => ⟨zg_RX6 X, zp_RX6 X, zl1_RX6 X, zl2_RX6 X, nilz, (List.forall_mem_cons.mpr ⟨zq_RX6_227 X (zM_1065 hw hm) (by decide) rfl rfl, (List.forall_mem_cons.mpr ⟨zq_RX6_240 X (zM_925 hw hm) (by decide) rfl, (List.forall_mem_cons.mpr ⟨zq_RX6_250 X (zM_937 hw hm) (by decide) rfl rfl, (List.forall_mem_cons.mpr ⟨zq_RX6_264 X (zman_1123 hm) (by decide) rfl, (List.forall_mem_cons.mpr ⟨zq_RX6_352 X (zM_1169 hw hm) (by decide) rfl rfl, nilz⟩)⟩)⟩)⟩)⟩)⟩)
set_option maxRecDepth 100000 in
theorem zk_1025 : zmeth zKS zuq zNS zm_1025 4000 = true := zqF (zdt0 _) (by decide +kernel)
theorem zM_1025 {l : Launch} {D : va_G} {cI cZ cB cJ cR : ClassId} {ks ad : List Nat} {Psi : va_W → Prop} (hw : zworld ks ad zuq zNS Psi) (hm : zMan l D cI cZ cB cJ cR ks ad Psi) : zMet l D cI cZ cB cJ cR zKS ks ad Psi yX6_laysAsk (.code yX6_laysAsk cX6_laysAsk 8 none) 7 zc_1025 :=
  zmet_of hw 7 (by decide) 4000 zk_1025 (by decide) (by decide) (fun X => ⟨zg_RX6 X, zp_RX6 X, zl1_RX6 X, zl2_RX6 X, nilz, (List.forall_mem_cons.mpr ⟨zq_RX6_227 X (zM_1065 hw hm) (by decide) rfl rfl, (List.forall_mem_cons.mpr ⟨zq_RX6_240 X (zM_925 hw hm) (by decide) rfl, (List.forall_mem_cons.mpr ⟨zq_RX6_250 X (zM_937 hw hm) (by decide) rfl rfl, (List.forall_mem_cons.mpr ⟨zq_RX6_264 X (zman_1123 hm) (by decide) rfl, (List.forall_mem_cons.mpr ⟨zq_RX6_352 X (zM_1170 hw hm) (by decide) rfl rfl, nilz⟩)⟩)⟩)⟩)⟩)⟩)
