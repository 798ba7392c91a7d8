set_option maxRecDepth 100000 in
theorem zk_1166_0 : zm1 zKS zuq zNS zm_1166 4000 zt_1166_0 = true := z1F (zdt_X6_whoOf) (by decide +kernel)
set_option maxRecDepth 100000 in
theorem zk_1166_1 : zm1 zKS zuq zNS zm_1166 4000 zt_1166_1 = true := z1F (zdt_X6_whoOf) (by decide +kernel)
set_option maxRecDepth 100000 in
theorem zk_1166_2 : zm1 zKS zuq zNS zm_1166 4000 zt_1166_2 = true := z1F (zdt_X6_whoOf) (by decide +kernel)
set_option maxRecDepth 100000 in
theorem zk_1166_3 : zm1 zKS zuq zNS zm_1166 4000 zt_1166_3 = true := z1F (zdt_X6_whoOf) (by decide +kernel)
set_option maxRecDepth 100000 in
theorem zk_1166_4 : zm1 zKS zuq zNS zm_1166 4000 zt_1166_4 = true := z1F (zdt_X6_whoOf) (by decide +kernel)
set_option maxRecDepth 100000 in
theorem zk_1166_5 : zm1 zKS zuq zNS zm_1166 4000 zt_1166_5 = true := z1F (zdt_X6_whoOf) (by decide +kernel)
set_option maxRecDepth 100000 in
theorem zk_1166_6 : zm1 zKS zuq zNS zm_1166 4000 zt_1166_6 = true := z1F (zdt_X6_whoOf) (by decide +kernel)
set_option maxRecDepth 100000 in
theorem zk_1166_7 : zm1 zKS zuq zNS zm_1166 4000 zt_1166_7 = true := z1F (zdt_X6_whoOf) (by decide +kernel)
set_option maxRecDepth 100000 in
theorem zk_1166_8 : zm1 zKS zuq zNS zm_1166 4000 zt_1166_8 = true := z1F (zdt_X6_whoOf) (by decide +kernel)
set_option maxRecDepth 100000 in
theorem zk_1166_9 : zm1 zKS zuq zNS zm_1166 4000 zt_1166_9 = true := z1F (zdt_X6_whoOf) (by decide +kernel)
set_option maxRecDepth 100000 in
theorem zk_1166_10 : zm1 zKS zuq zNS zm_1166 4000 zt_1166_10 = true := z1F (zdt_X6_whoOf) (by decide +kernel)
set_option maxRecDepth 100000 in
theorem zk_1166_11 : zm1 zKS zuq zNS zm_1166 4000 zt_1166_11 = true := z1F (zdt_X6_whoOf) (by decide +kernel)
set_option maxRecDepth 100000 in
theorem zk_1166_12 : zm1 zKS zuq zNS zm_1166 4000 zt_1166_12 = true := z1F (zdt_X6_whoOf) (by decide +kernel)
set_option maxRecDepth 100000 in
theorem zk_1166_13 : zm1 zKS zuq zNS zm_1166 4000 zt_1166_13 = true := z1F (zdt_X6_whoOf) (by decide +kernel)
set_option maxRecDepth 100000 in
theorem zk_1166_14 : zm1 zKS zuq zNS zm_1166 4000 zt_1166_14 = true := z1F (zdt_X6_whoOf) (by decide +kernel)
set_option maxRecDepth 100000 in
theorem zk_1166_15 : zm1 zKS zuq zNS zm_1166 4000 zt_1166_15 = true := z1F (zdt_X6_whoOf) (by decide +kernel)
set_option maxRecDepth 100000 in
theorem zk_1166_16 : zm1 zKS zuq zNS zm_1166 4000 zt_1166_16 = true := z1F (zdt_X6_whoOf) (by decide +kernel)
set_option maxRecDepth 100000 in
theorem zk_1166_17 : zm1 zKS zuq zNS zm_1166 4000 zt_1166_17 = true := z1F (zdt_X6_whoOf) (by decide +kernel)
set_option maxRecDepth 100000 in
theorem zk_1166_18 : zm1 zKS zuq zNS zm_1166 4000 zt_1166_18 = true := z1F (zdt_X6_whoOf) (by decide +kernel)
set_option maxRecDepth 100000 in
theorem zk_1166_19 : zm1 zKS zuq zNS zm_1166 4000 zt_1166_19 = true := z1F (zdt_X6_whoOf) (by decide +kernel)
set_option maxRecDepth 100000 in
theorem zk_1166_20 : zm1 zKS zuq zNS zm_1166 4000 zt_1166_20 = true := z1F (zdt_X6_whoOf) (by decide +kernel)
set_option maxRecDepth 100000 in
theorem zk_1166_21 : zm1 zKS zuq zNS zm_1166 4000 zt_1166_21 = true := z1F (zdt_X6_whoOf) (by decide +kernel)
set_option maxRecDepth 100000 in
theorem zk_1166_22 : zm1 zKS zuq zNS zm_1166 4000 zt_1166_22 = true := z1F (zdt_X6_whoOf) (by decide +kernel)
set_option maxRecDepth 100000 in
theorem zk_1166_23 : zm1 zKS zuq zNS zm_1166 4000 zt_1166_23 = true := z1F (zdt_X6_whoOf) (by decide +kernel)
set_option maxRecDepth 100000 in
theorem zk_1166_24 : zm1 zKS zuq zNS zm_1166 4000 zt_1166_24 = true := z1F (zdt_X6_whoOf) (by decide +kernel)
set_option maxRecDepth 100000 in
theorem zk_1166_25 : zm1 zKS zuq zNS zm_1166 4000 zt_1166_25 = true := z1F (zdt_X6_whoOf) (by decide +kernel)
set_option maxRecDepth 100000 in
theorem zk_1166_26 : zm1 zKS zuq zNS zm_1166 4000 zt_1166_26 = true := z1F (zdt_X6_whoOf) (by decide +kernel)
set_option maxRecDepth 100000 in
theorem zk_1166_27 : zm1 zKS zuq zNS zm_1166 4000 zt_1166_27 = true := z1F (zdt_X6_whoOf) (by decide +kernel)
set_option maxRecDepth 100000 in
theorem zk_1166_28 : zm1 zKS zuq zNS zm_1166 4000 zt_1166_28 = true := z1F (zdt_X6_whoOf) (by decide +kernel)
set_option maxRecDepth 100000 in
theorem zk_1166_29 : zm1 zKS zuq zNS zm_1166 4000 zt_1166_29 = true := z1F (zdt_X6_whoOf) (by decide +kernel)
set_option maxRecDepth 100000 in
theorem zk_1166_30 : zm1 zKS zuq zNS zm_1166 4000 zt_1166_30 = true := z1F (zdt_X6_whoOf) (by decide +kernel)
set_option maxRecDepth 100000 in
theorem zk_1166_31 : zm1 zKS zuq zNS zm_1166 4000 zt_1166_31 = true := z1F (zdt_X6_whoOf) (by decide +kernel)
set_option maxRecDepth 100000 in
theorem zk_1166_32 : zm1 zKS zuq zNS zm_1166 4000 zt_1166_32 = true := z1F (zdt_X6_whoOf) (by decide +kernel)
set_option maxRecDepth 100000 in
theorem zk_1166_s : zm0 zKS zuq zNS zm_1166 4000 = true := z0F (zdt_X6_whoOf) (by decide +kernel)
set_option maxRecDepth 100000 in
theorem zk_1166 : zmeth zKS zuq zNS zm_1166 4000 = true := zmeth_by zk_1166_s (List.forall_mem_cons.mpr ⟨zk_1166_0, (List.forall_mem_cons.mpr ⟨zk_1166_1, (List.forall_mem_cons.mpr ⟨zk_1166_2, (List.forall_mem_cons.mpr ⟨zk_1166_3, (List.forall_mem_cons.mpr ⟨zk_1166_4, (List.forall_mem_cons.mpr ⟨zk_1166_5, (List.forall_mem_cons.mpr ⟨zk_1166_6, (List.forall_mem_cons.mpr ⟨zk_1166_7, (List.forall_mem_cons.mpr ⟨zk_1166_8, (List.forall_mem_cons.mpr ⟨zk_1166_9, (List.forall_mem_cons.mpr ⟨zk_1166_10, (List.forall_mem_cons.mpr ⟨zk_1166_11, (List.forall_mem_cons.mpr ⟨zk_1166_12, (List.forall_mem_cons.mpr ⟨zk_1166_13, (List.forall_mem_cons.mpr ⟨zk_1166_14, (List.forall_mem_cons.mpr ⟨zk_1166_15, (List.forall_mem_cons.mpr ⟨zk_1166_16, (List.forall_mem_cons.mpr ⟨zk_1166_17, (List.forall_mem_cons.mpr ⟨zk_1166_18, (List.forall_mem_cons.mpr ⟨zk_1166_19, (List.forall_mem_cons.mpr ⟨zk_1166_20, (List.forall_mem_cons.mpr ⟨zk_1166_21, (List.forall_mem_cons.mpr ⟨zk_1166_22, (List.forall_mem_cons.mpr ⟨zk_1166_23, (List.forall_mem_cons.mpr ⟨zk_1166_24, (List.forall_mem_cons.mpr ⟨zk_1166_25, (List.forall_mem_cons.mpr ⟨zk_1166_26, (List.forall_mem_cons.mpr ⟨zk_1166_27, (List.forall_mem_cons.mpr ⟨zk_1166_28, (List.forall_mem_cons.mpr ⟨zk_1166_29, (List.forall_mem_cons.mpr ⟨zk_1166_30, (List.forall_mem_cons.mpr ⟨zk_1166_31, (List.forall_mem_cons.mpr ⟨zk_1166_32, nilz⟩)⟩)⟩)⟩)⟩)⟩)⟩)⟩)⟩)⟩)⟩)⟩)⟩)⟩)⟩)⟩)⟩)⟩)⟩)⟩)⟩)⟩)⟩)⟩)⟩)⟩)⟩)⟩)⟩)⟩)⟩)⟩)⟩)
set_option maxRecDepth 100000 in
theorem zM_1166 {l : Launch} {D : va_G} {cI cZ cB cJ cR : ClassId} {ks ad : List Nat} {Psi : va_W → Prop} (hw : zworld ks ad zuq zNS Psi) (hm : zMan l D cI cZ cB cJ cR ks ad Psi) : zMet l D cI cZ cB cJ cR zKS ks ad Psi yX6_whoOf (.code yX6_whoOf cX6_whoOf 6 (some .int)) 6 zc_1166 :=
  zmet_of hw 6 (by decide) 4000 zk_1166 (by decide) (by decide) (fun X => ⟨zg_RX6 X, zp_RX6 X, zl1_RX6 X, zl2_RX6 X, nilz, (List.forall_mem_cons.mpr ⟨zq_RX6_227 X (zM_1061 hw hm) (by decide) rfl rfl, (List.forall_mem_cons.mpr ⟨zq_RX6_340 X (zM_842 hw hm) (by decide) rfl rfl, nilz⟩)⟩)⟩)
set_option maxRecDepth 100000 in
theorem zk_1189 : zmeth zKS zuq zNS zm_1189 4000 = true := zqF (zdt0 _) (by decide +kernel)
theorem zM_1189 {l : Launch} {D : va_G} {cI cZ cB cJ cR : ClassId} {ks ad : List Nat} {Psi : va_W → Prop} (hw : zworld ks ad zuq zNS Psi) (hm : zMan l D cI cZ cB cJ cR ks ad Psi) : zMet l D cI cZ cB cJ cR zKS ks ad Psi yX6_worst (.code yX6_worst cX6_worst 4 (some .int)) 6 zc_1189 :=
  zmet_of hw 6 (by decide) 4000 zk_1189 (by decide) (by decide) (fun X => ⟨zg_RX6 X, zp_RX6 X, zl1_RX6 X, zl2_RX6 X, nilz, (List.forall_mem_cons.mpr ⟨zq_RX6_227 X (zM_1061 hw hm) (by decide) rfl rfl, (List.forall_mem_cons.mpr ⟨zq_RX6_270 X (zman_1017 hm) (by decide) rfl rfl, (List.forall_mem_cons.mpr ⟨zq_RX6_276 X (zM_923 hw hm) (by decide) rfl rfl, (List.forall_mem_cons.mpr ⟨zq_RX6_282 X (zM_882 hw hm) (by decide) rfl rfl, nilz⟩)⟩)⟩)⟩)⟩)
set_option maxRecDepth 100000 in
theorem zk_828 : zmeth zKS zuq zNS zm_828 4000 = true := zqF (zdt0 _) (by decide +kernel)
theorem zM_828 {l : Launch} {D : va_G} {cI cZ cB cJ cR : ClassId} {ks ad : List Nat} {Psi : va_W → Prop} (hw : zworld ks ad zuq zNS Psi) (hm : zMan l D cI cZ cB cJ cR ks ad Psi) : zMet l D cI cZ cB cJ cR zKS ks ad Psi yX6_all (.code yX6_all cX6_all 1 (some .int)) 7 zc_828 :=
  zmet_of hw 7 (by decide) 4000 zk_828 (by decide) (by decide) (fun X => ⟨zg_RX6 X, zp_RX6 X, zl1_RX6 X, zl2_RX6 X, nilz, (List.forall_mem_cons.mpr ⟨zq_RX6_270 X (zman_1017 hm) (by decide) rfl rfl, (List.forall_mem_cons.mpr ⟨zq_RX6_276 X (zM_923 hw hm) (by decide) rfl rfl, (List.forall_mem_cons.mpr ⟨zq_RX6_279 X (zM_829 hw hm) (by decide) rfl rfl, nilz⟩)⟩)⟩)⟩)
set_option maxRecDepth 100000 in
theorem zk_846 : zmeth zKS zuq zNS zm_846 4000 = true := zqF (zdt0 _) (by decide +kernel)
theorem zM_846 {l : Launch} {D : va_G} {cI cZ cB cJ cR : ClassId} {ks ad : List Nat} {Psi : va_W → Prop} (hw : zworld ks ad zuq zNS Psi) (hm : zMan l D cI cZ cB cJ cR ks ad Psi) : zMet l D cI cZ cB cJ cR zKS ks ad Psi yX6_city (.code yX6_city cX6_city 2 (some .int)) 7 zc_846 :=
  zmet_of hw 7 (by decide) 4000 zk_846 (by decide) (by decide) (fun X => ⟨zg_RX6 X, zp_RX6 X, zl1_RX6 X, zl2_RX6 X, nilz, (List.forall_mem_cons.mpr ⟨zq_RX6_153 X (zM_895 hw hm) (by decide) rfl rfl, (List.forall_mem_cons.mpr ⟨zq_RX6_170 X (zM_926 hw hm) (by decide) rfl rfl, (List.forall_mem_cons.mpr ⟨zq_RX6_202 X (zM_849 hw hm) (by decide) rfl rfl, (List.forall_mem_cons.mpr ⟨zq_RX6_205 X (zM_837 hw hm) (by decide) rfl rfl, (List.forall_mem_cons.mpr ⟨zq_RX6_208 X (zM_847 hw hm) (by decide) rfl rfl, (List.forall_mem_cons.mpr ⟨zq_RX6_211 X (zM_1032 hw hm) (by decide) rfl rfl, (List.forall_mem_cons.mpr ⟨zq_RX6_214 X (zM_872 hw hm) (by decide) rfl rfl, (List.forall_mem_cons.mpr ⟨zq_RX6_217 X (zM_929 hw hm) (by decide) rfl rfl, (List.forall_mem_cons.mpr ⟨zq_RX6_220 X (zM_852 hw hm) (by decide) rfl rfl, nilz⟩)⟩)⟩)⟩)⟩)⟩)⟩)⟩)⟩)⟩)
set_option maxRecDepth 100000 in
theorem zk_867 : zmeth zKS zuq zNS zm_867 4000 = true := zqF (zdt0 _) (by decide +kernel)
theorem zM_867 {l : Launch} {D : va_G} {cI cZ cB cJ cR : ClassId} {ks ad : List Nat} {Psi : va_W → Prop} (hw : zworld ks ad zuq zNS Psi) (hm : zMan l D cI cZ cB cJ cR ks ad Psi) : zMet l D cI cZ cB cJ cR zKS ks ad Psi yX6_deeds (.code yX6_deeds cX6_deeds 3 (some .int)) 7 zc_867 :=
  zmet_of hw 7 (by decide) 4000 zk_867 (by decide) (by decide) (fun X => ⟨zg_RX6 X, zp_RX6 X, zl1_RX6 X, zl2_RX6 X, nilz, (List.forall_mem_cons.mpr ⟨zq_RX6_234 X (zM_930 hw hm) (by decide) rfl rfl, (List.forall_mem_cons.mpr ⟨zq_RX6_270 X (zman_1017 hm) (by decide) rfl rfl, (List.forall_mem_cons.mpr ⟨zq_RX6_322 X (zM_931 hw hm) (by decide) rfl rfl, (List.forall_mem_cons.mpr ⟨zq_RX6_343 X (zM_868 hw hm) (by decide) rfl rfl, nilz⟩)⟩)⟩)⟩)⟩)
set_option maxRecDepth 100000 in
theorem zk_889 : zmeth zKS zuq zNS zm_889 4000 = true := zqF (zdt0 _) (by decide +kernel)
theorem zM_889 {l : Launch} {D : va_G} {cI cZ cB cJ cR : ClassId} {ks ad : List Nat} {Psi : va_W → Prop} (hw : zworld ks ad zuq zNS Psi) (hm : zMan l D cI cZ cB cJ cR ks ad Psi) : zMet l D cI cZ cB cJ cR zKS ks ad Psi yX6_guard (.code yX6_guard cX6_guard 6 (some .int)) 7 zc_889 :=
  zmet_of hw 7 (by decide) 4000 zk_889 (by decide) (by decide) (fun X => ⟨zg_RX6 X, zp_RX6 X, zl1_RX6 X, zl2_RX6 X, nilz, (List.forall_mem_cons.mpr ⟨zq_RX6_227 X (zM_1061 hw hm) (by decide) rfl rfl, (List.forall_mem_cons.mpr ⟨zq_RX6_234 X (zM_930 hw hm) (by decide) rfl rfl, (List.forall_mem_cons.mpr ⟨zq_RX6_270 X (zman_1017 hm) (by decide) rfl rfl, (List.forall_mem_cons.mpr ⟨zq_RX6_322 X (zM_931 hw hm) (by decide) rfl rfl, (List.forall_mem_cons.mpr ⟨zq_RX6_328 X (zM_1115 hw hm) (by decide) rfl rfl, (List.forall_mem_cons.mpr ⟨zq_RX6_343 X (zM_868 hw hm) (by decide) rfl rfl, nilz⟩)⟩)⟩)⟩)⟩)⟩)⟩)
set_option maxRecDepth 100000 in
theorem zk_890 : zmeth zKS zuq zNS zm_890 4000 = true := zqF (zdt0 _) (by decide +kernel)
theorem zM_890 {l : Launch} {D : va_G} {cI cZ cB cJ cR : ClassId} {ks ad : List Nat} {Psi : va_W → Prop} (hw : zworld ks ad zuq zNS Psi) (hm : zMan l D cI cZ cB cJ cR ks ad Psi) : zMet l D cI cZ cB cJ cR zKS ks ad Psi yX6_guarded (.code yX6_guarded cX6_guarded 2 (some .int)) 7 zc_890 :=
  zmet_of hw 7 (by decide) 4000 zk_890 (by decide) (by decide) (fun X => ⟨zg_RX6 X, zp_RX6 X, zl1_RX6 X, zl2_RX6 X, nilz, (List.forall_mem_cons.mpr ⟨zq_RX6_234 X (zM_930 hw hm) (by decide) rfl rfl, (List.forall_mem_cons.mpr ⟨zq_RX6_346 X (zM_891 hw hm) (by decide) rfl rfl, nilz⟩)⟩)⟩)
set_option maxRecDepth 100000 in
theorem zk_892 : zmeth zKS zuq zNS zm_892 4000 = true := zqF (zdt0 _) (by decide +kernel)
theorem zM_892 {l : Launch} {D : va_G} {cI cZ cB cJ cR : ClassId} {ks ad : List Nat} {Psi : va_W → Prop} (hw : zworld ks ad zuq zNS Psi) (hm : zMan l D cI cZ cB cJ cR ks ad Psi) : zMet l D cI cZ cB cJ cR zKS ks ad Psi yX6_guards (.code yX6_guards cX6_guards 3 (some .int)) 7 zc_892 :=
  zmet_of hw 7 (by decide) 4000 zk_892 (by decide) (by decide) (fun X => ⟨zg_RX6 X, zp_RX6 X, zl1_RX6 X, zl2_RX6 X, nilz, (List.forall_mem_cons.mpr ⟨zq_RX6_234 X (zM_930 hw hm) (by decide) rfl rfl, (List.forall_mem_cons.mpr ⟨zq_RX6_264 X (zman_1119 hm) (by decide) rfl, (List.forall_mem_cons.mpr ⟨zq_RX6_346 X (zM_891 hw hm) (by decide) rfl rfl, nilz⟩)⟩)⟩)⟩)
set_option maxRecDepth 100000 in
theorem zk_897 : zmeth zKS zuq zNS zm_897 4000 = true := zqF (zdt0 _) (by decide +kernel)
theorem zM_897 {l : Launch} {D : va_G} {cI cZ cB cJ cR : ClassId} {ks ad : List Nat} {Psi : va_W → Prop} (hw : zworld ks ad zuq zNS Psi) (hm : zMan l D cI cZ cB cJ cR ks ad Psi) : zMet l D cI cZ cB cJ cR zKS ks ad Psi yX6_homebody (.code yX6_homebody cX6_homebody 5 (some .int)) 7 zc_897 :=
  zmet_of hw 7 (by decide) 4000 zk_897 (by decide) (by decide) (fun X => ⟨zg_RX6 X, zp_RX6 X, zl1_RX6 X, zl2_RX6 X, nilz, (List.forall_mem_cons.mpr ⟨zq_RX6_227 X (zM_1061 hw hm) (by decide) rfl rfl, (List.forall_mem_cons.mpr ⟨zq_RX6_231 X (zM_898 hw hm) (by decide) rfl rfl, (List.forall_mem_cons.mpr ⟨zq_RX6_270 X (zman_1017 hm) (by decide) rfl rfl, (List.forall_mem_cons.mpr ⟨zq_RX6_276 X (zM_923 hw hm) (by decide) rfl rfl, (List.forall_mem_cons.mpr ⟨zq_RX6_279 X (zM_829 hw hm) (by decide) rfl rfl, nilz⟩)⟩)⟩)⟩)⟩)⟩)
set_option maxRecDepth 100000 in
theorem zk_1018 : zmeth zKS zuq zNS zm_1018 4000 = true := zqF (zdt0 _) (by decide +kernel)
theorem zM_1018 {l : Launch} {D : va_G} {cI cZ cB cJ cR : ClassId} {ks ad : List Nat} {Psi : va_W → Prop} (hw : zworld ks ad zuq zNS Psi) (hm : zMan l D cI cZ cB cJ cR ks ad Psi) : zMet l D cI cZ cB cJ cR zKS ks ad Psi yX6_laysAsk (.code yX6_laysAsk cX6_laysAsk 8 none) 7 zc_1018 :=
  zmet_of hw 7 (by decide) 4000 zk_1018 (by decide) (by decide) (fun X => ⟨zg_RX6 X, zp_RX6 X, zl1_RX6 X, zl2_RX6 X, nilz, (List.forall_mem_cons.mpr ⟨zq_RX6_227 X (zM_1061 hw hm) (by decide) rfl rfl, (List.forall_mem_cons.mpr ⟨zq_RX6_240 X (zM_921 hw hm) (by decide) rfl, (List.forall_mem_cons.mpr ⟨zq_RX6_250 X (zM_933 hw hm) (by decide) rfl rfl, (List.forall_mem_cons.mpr ⟨zq_RX6_264 X (zman_1119 hm) (by decide) rfl, (List.forall_mem_cons.mpr ⟨zq_RX6_352 X (zM_1163 hw hm) (by decide) rfl rfl, nilz⟩)⟩)⟩)⟩)⟩)⟩)
set_option maxRecDepth 100000 in
theorem zk_1019 : zmeth zKS zuq zNS zm_1019 4000 = true := zqF (zdt0 _) (by decide +kernel)
theorem zM_1019 {l : Launch} {D : va_G} {cI cZ cB cJ cR : ClassId} {ks ad : List Nat} {Psi : va_W → Prop} (hw : zworld ks ad zuq zNS Psi) (hm : zMan l D cI cZ cB cJ cR ks ad Psi) : zMet l D cI cZ cB cJ cR zKS ks ad Psi yX6_laysAsk (.code yX6_laysAsk cX6_laysAsk 8 none) 7 zc_1019 :=
  zmet_of hw 7 (by decide) 4000 zk_1019 (by decide) (by decide) (fun X => ⟨zg_RX6 X, zp_RX6 X, zl1_RX6 X, zl2_RX6 X, nilz, (List.forall_mem_cons.mpr ⟨zq_RX6_227 X (zM_1061 hw hm) (by decide) rfl rfl, (List.forall_mem_cons.mpr ⟨zq_RX6_240 X (zM_921 hw hm) (by decide) rfl, (List.forall_mem_cons.mpr ⟨zq_RX6_250 X (zM_933 hw hm) (by decide) rfl rfl, (List.forall_mem_cons.mpr ⟨zq_RX6_264 X (zman_1119 hm) (by decide) rfl, (List.forall_mem_cons.mpr ⟨zq_RX6_352 X (zM_1164 hw hm) (by decide) rfl rfl, nilz⟩)⟩)⟩)⟩)⟩)⟩)
set_option maxRecDepth 100000 in
theorem zk_1020 : zmeth zKS zuq zNS zm_1020 4000 = true := zqF (zdt0 _) (by decide +kernel)
theorem zM_1020 {l : Launch} {D : va_G} {cI cZ cB cJ cR : ClassId} {ks ad : List Nat} {Psi : va_W → Prop} (hw : zworld ks ad zuq zNS Psi) (hm : zMan l D cI cZ cB cJ cR ks ad Psi) : zMet l D cI cZ cB cJ cR zKS ks ad Psi yX6_laysAsk (.code yX6_laysAsk cX6_laysAsk 8 none) 7 zc_1020 :=
  zmet_of hw 7 (by decide) 4000 zk_1020 (by decide) (by decide) (fun X => ⟨zg_RX6 X, zp_RX6 X, zl1_RX6 X, zl2_RX6 X, nilz, (List.forall_mem_cons.mpr ⟨zq_RX6_227 X (zM_1061 hw hm) (by decide) rfl rfl, (List.forall_mem_cons.mpr ⟨zq_RX6_240 X (zM_921 hw hm) (by decide) rfl, (List.forall_mem_cons.mpr ⟨zq_RX6_250 X (zM_933 hw hm) (by decide) rfl rfl, (List.forall_mem_cons.mpr ⟨zq_RX6_264 X (zman_1119 hm) (by decide) rfl, (List.forall_mem_cons.mpr ⟨zq_RX6_352 X (zM_1165 hw hm) (by decide) rfl rfl, nilz⟩)⟩)⟩)⟩)⟩)⟩)
set_option maxRecDepth 100000 in
theorem zk_1021 : zmeth zKS zuq zNS zm_1021 4000 = true := zqF (zdt0 _) (by decide +kernel)
theorem zM_1021 {l : Launch} {D : va_G} {cI cZ cB cJ cR : ClassId} {ks ad : List Nat} {Psi : va_W → Prop} (hw : zworld ks ad zuq zNS Psi) (hm : zMan l D cI cZ cB cJ cR ks ad Psi) : zMet l D cI cZ cB cJ cR zKS ks ad Psi yX6_laysAsk (.code yX6_laysAsk cX6_laysAsk 8 none) 7 zc_1021 :=
  zmet_of hw 7 (by decide) 4000 zk_1021 (by decide) (by decide) (fun X => ⟨zg_RX6 X, zp_RX6 X, zl1_RX6 X, zl2_RX6 X, nilz, (List.forall_mem_cons.mpr ⟨zq_RX6_227 X (zM_1061 hw hm) (by decide) rfl rfl, (List.forall_mem_cons.mpr ⟨zq_RX6_240 X (zM_921 hw hm) (by decide) rfl, (List.forall_mem_cons.mpr ⟨zq_RX6_250 X (zM_933 hw hm) (by decide) rfl rfl, (List.forall_mem_cons.mpr ⟨zq_RX6_264 X (zman_1119 hm) (by decide) rfl, (List.forall_mem_cons.mpr ⟨zq_RX6_352 X (zM_1166 hw hm) (by decide) rfl rfl, nilz⟩)⟩)⟩)⟩)⟩)⟩)
