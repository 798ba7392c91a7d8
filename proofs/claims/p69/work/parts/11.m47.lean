set_option maxRecDepth 100000 in
theorem zk_1035 : zmeth zKS zuq zNS zm_1035 4000 = true := zqF (zdt0 _) (by decide +kernel)
theorem zM_1035 {l : Launch} {D : va_G} {cI cZ cB cJ cR : ClassId} {ks ad : List Nat} {Psi : va_W → Prop} (hw : zworld ks ad zuq zNS Psi) (hm : zMan l D cI cZ cB cJ cR ks ad Psi) : zMet l D cI cZ cB cJ cR zKS ks ad Psi yX6_likely (.code yX6_likely cX6_likely 5 (some .int)) 6 zc_1035 :=
  zmet_of hw 6 (by decide) 4000 zk_1035 (by decide) (by decide) (fun X => ⟨zg_RX6 X, zp_RX6 X, zl1_RX6 X, zl2_RX6 X, nilz, (List.forall_mem_cons.mpr ⟨zq_RX6_231 X (zM_902 hw hm) (by decide) rfl rfl, (List.forall_mem_cons.mpr ⟨zq_RX6_234 X (zM_934 hw hm) (by decide) rfl rfl, (List.forall_mem_cons.mpr ⟨zq_RX6_270 X (zman_1021 hm) (by decide) rfl rfl, (List.forall_mem_cons.mpr ⟨zq_RX6_385 X (zM_889 hw hm) (by decide) rfl rfl, nilz⟩)⟩)⟩)⟩)⟩)
set_option maxRecDepth 100000 in
theorem zk_1036 : zmeth zKS zuq zNS zm_1036 4000 = true := zqF (zdt0 _) (by decide +kernel)
theorem zM_1036 {l : Launch} {D : va_G} {cI cZ cB cJ cR : ClassId} {ks ad : List Nat} {Psi : va_W → Prop} (hw : zworld ks ad zuq zNS Psi) (hm : zMan l D cI cZ cB cJ cR ks ad Psi) : zMet l D cI cZ cB cJ cR zKS ks ad Psi yX6_line (.code yX6_line cX6_line 2 none) 6 zc_1036 :=
  zmet_of hw 6 (by decide) 4000 zk_1036 (by decide) (by decide) (fun X => ⟨zg_RX6 X, zp_RX6 X, zl1_RX6 X, zl2_RX6 X, nilz, (List.forall_mem_cons.mpr ⟨zq_RX6_129 X (zM_924 hw hm) (by decide) rfl rfl, (List.forall_mem_cons.mpr ⟨zq_RX6_133 X (zM_1042 hw hm) (by decide) rfl rfl, (List.forall_mem_cons.mpr ⟨zq_RX6_136 X (zM_1130 hw hm) (by decide) rfl rfl, (List.forall_mem_cons.mpr ⟨zq_RX6_139 X (zM_880 hw hm) (by decide) rfl rfl, (List.forall_mem_cons.mpr ⟨zq_RX6_142 X (zM_838 hw hm) (by decide) rfl rfl, (List.forall_mem_cons.mpr ⟨zq_RX6_146 X (zM_1046 hw hm) (by decide) rfl rfl, (List.forall_mem_cons.mpr ⟨zq_RX6_153 X (zM_897 hw hm) (by decide) rfl rfl, (List.forall_mem_cons.mpr ⟨zq_RX6_153 X (zM_899 hw hm) (by decide) rfl rfl, (List.forall_mem_cons.mpr ⟨zq_RX6_153 X (zM_900 hw hm) (by decide) rfl rfl, (List.forall_mem_cons.mpr ⟨zq_RX6_164 X (zM_1159 hw hm) (by decide) rfl rfl, (List.forall_mem_cons.mpr ⟨zq_RX6_170 X (zM_930 hw hm) (by decide) rfl rfl, (List.forall_mem_cons.mpr ⟨zq_RX6_178 X (zM_1066 hw hm) (by decide) rfl rfl, (List.forall_mem_cons.mpr ⟨zq_RX6_183 X (zM_878 hw hm) (by decide) rfl rfl, nilz⟩)⟩)⟩)⟩)⟩)⟩)⟩)⟩)⟩)⟩)⟩)⟩)⟩)⟩)
set_option maxRecDepth 100000 in
theorem zk_1038 : zmeth zKS zuq zNS zm_1038 4000 = true := zqF (zdt0 _) (by decide +kernel)
theorem zM_1038 {l : Launch} {D : va_G} {cI cZ cB cJ cR : ClassId} {ks ad : List Nat} {Psi : va_W → Prop} (hw : zworld ks ad zuq zNS Psi) (hm : zMan l D cI cZ cB cJ cR ks ad Psi) : zMet l D cI cZ cB cJ cR zKS ks ad Psi yX6_luck (.code yX6_luck cX6_luck 6 (some .int)) 6 zc_1038 :=
  zmet_of hw 6 (by decide) 4000 zk_1038 (by decide) (by decide) (fun X => ⟨zg_RX6 X, zp_RX6 X, zl1_RX6 X, zl2_RX6 X, nilz, (List.forall_mem_cons.mpr ⟨zq_RX6_76 X (zM_917 hw hm) (by decide) rfl, (List.forall_mem_cons.mpr ⟨zq_RX6_234 X (zM_934 hw hm) (by decide) rfl rfl, (List.forall_mem_cons.mpr ⟨zq_RX6_270 X (zman_1021 hm) (by decide) rfl rfl, (List.forall_mem_cons.mpr ⟨zq_RX6_400 X (zM_936 hw hm) (by decide) rfl rfl, (List.forall_mem_cons.mpr ⟨zq_RX6_405 X (zM_874 hw hm) (by decide) rfl rfl, (List.forall_mem_cons.mpr ⟨zq_RX6_409 X (zM_891 hw hm) (by decide) rfl rfl, nilz⟩)⟩)⟩)⟩)⟩)⟩)⟩)
set_option maxRecDepth 100000 in
theorem zk_1113 : zmeth zKS zuq zNS zm_1113 4000 = true := zqF (zdt_X6_rotas) (by decide +kernel)
theorem zM_1113 {l : Launch} {D : va_G} {cI cZ cB cJ cR : ClassId} {ks ad : List Nat} {Psi : va_W → Prop} (hw : zworld ks ad zuq zNS Psi) (hm : zMan l D cI cZ cB cJ cR ks ad Psi) : zMet l D cI cZ cB cJ cR zKS ks ad Psi yX6_rotas (.code yX6_rotas cX6_rotas 5 none) 6 zc_1113 :=
  zmet_of hw 6 (by decide) 4000 zk_1113 (by decide) (by decide) (fun X => ⟨zg_RX6 X, zp_RX6 X, zl1_RX6 X, zl2_RX6 X, nilz, (List.forall_mem_cons.mpr ⟨zq_RX6_227 X (zM_1065 hw hm) (by decide) rfl rfl, (List.forall_mem_cons.mpr ⟨zq_RX6_303 X (zM_1073 hw hm) (by decide) rfl rfl, nilz⟩)⟩)⟩)
set_option maxRecDepth 100000 in
theorem zk_1114 : zmeth zKS zuq zNS zm_1114 4000 = true := zqF (zdt_X6_rotas) (by decide +kernel)
theorem zM_1114 {l : Launch} {D : va_G} {cI cZ cB cJ cR : ClassId} {ks ad : List Nat} {Psi : va_W → Prop} (hw : zworld ks ad zuq zNS Psi) (hm : zMan l D cI cZ cB cJ cR ks ad Psi) : zMet l D cI cZ cB cJ cR zKS ks ad Psi yX6_rotas (.code yX6_rotas cX6_rotas 5 none) 6 zc_1114 :=
  zmet_of hw 6 (by decide) 4000 zk_1114 (by decide) (by decide) (fun X => ⟨zg_RX6 X, zp_RX6 X, zl1_RX6 X, zl2_RX6 X, nilz, (List.forall_mem_cons.mpr ⟨zq_RX6_227 X (zM_1065 hw hm) (by decide) rfl rfl, (List.forall_mem_cons.mpr ⟨zq_RX6_303 X (zM_1074 hw hm) (by decide) rfl rfl, nilz⟩)⟩)⟩)
set_option maxRecDepth 100000 in
theorem zk_1115 : zmeth zKS zuq zNS zm_1115 4000 = true := zqF (zdt_X6_rotas) (by decide +kernel)
theorem zM_1115 {l : Launch} {D : va_G} {cI cZ cB cJ cR : ClassId} {ks ad : List Nat} {Psi : va_W → Prop} (hw : zworld ks ad zuq zNS Psi) (hm : zMan l D cI cZ cB cJ cR ks ad Psi) : zMet l D cI cZ cB cJ cR zKS ks ad Psi yX6_rotas (.code yX6_rotas cX6_rotas 5 none) 6 zc_1115 :=
  zmet_of hw 6 (by decide) 4000 zk_1115 (by decide) (by decide) (fun X => ⟨zg_RX6 X, zp_RX6 X, zl1_RX6 X, zl2_RX6 X, nilz, (List.forall_mem_cons.mpr ⟨zq_RX6_227 X (zM_1065 hw hm) (by decide) rfl rfl, (List.forall_mem_cons.mpr ⟨zq_RX6_303 X (zM_1075 hw hm) (by decide) rfl rfl, nilz⟩)⟩)⟩)
set_option maxRecDepth 100000 in
theorem zk_1116 : zmeth zKS zuq zNS zm_1116 4000 = true := zqF (zdt_X6_rotas) (by decide +kernel)
theorem zM_1116 {l : Launch} {D : va_G} {cI cZ cB cJ cR : ClassId} {ks ad : List Nat} {Psi : va_W → Prop} (hw : zworld ks ad zuq zNS Psi) (hm : zMan l D cI cZ cB cJ cR ks ad Psi) : zMet l D cI cZ cB cJ cR zKS ks ad Psi yX6_rotas (.code yX6_rotas cX6_rotas 5 none) 6 zc_1116 :=
  zmet_of hw 6 (by decide) 4000 zk_1116 (by decide) (by decide) (fun X => ⟨zg_RX6 X, zp_RX6 X, zl1_RX6 X, zl2_RX6 X, nilz, (List.forall_mem_cons.mpr ⟨zq_RX6_227 X (zM_1065 hw hm) (by decide) rfl rfl, (List.forall_mem_cons.mpr ⟨zq_RX6_303 X (zM_1076 hw hm) (by decide) rfl rfl, nilz⟩)⟩)⟩)
set_option maxRecDepth 100000 in
theorem zk_1124 : zmeth zKS zuq zNS zm_1124 4000 = true := zqF (zdt0 _) (by decide +kernel)
theorem zM_1124 {l : Launch} {D : va_G} {cI cZ cB cJ cR : ClassId} {ks ad : List Nat} {Psi : va_W → Prop} (hw : zworld ks ad zuq zNS Psi) (hm : zMan l D cI cZ cB cJ cR ks ad Psi) : zMet l D cI cZ cB cJ cR zKS ks ad Psi yX6_steps (.code yX6_steps cX6_steps 6 (some .int)) 6 zc_1124 :=
  zmet_of hw 6 (by decide) 4000 zk_1124 (by decide) (by decide) (fun X => ⟨zg_RX6 X, zp_RX6 X, zl1_RX6 X, zl2_RX6 X, nilz, (List.forall_mem_cons.mpr ⟨zq_RX6_319 X (zM_836 hw hm) (by decide) rfl rfl, (List.forall_mem_cons.mpr ⟨zq_RX6_334 X (zM_1026 hw hm) (by decide) rfl rfl, (List.forall_mem_cons.mpr ⟨zq_RX6_337 X (zM_843 hw hm) (by decide) rfl rfl, nilz⟩)⟩)⟩)⟩)
set_option maxRecDepth 100000 in
theorem zk_1160 : zmeth zKS zuq zNS zm_1160 4000 = true := zqF (zdt0 _) (by decide +kernel)
theorem zM_1160 {l : Launch} {D : va_G} {cI cZ cB cJ cR : ClassId} {ks ad : List Nat} {Psi : va_W → Prop} (hw : zworld ks ad zuq zNS Psi) (hm : zMan l D cI cZ cB cJ cR ks ad Psi) : zMet l D cI cZ cB cJ cR zKS ks ad Psi yX6_tied (.code yX6_tied cX6_tied 4 (some .int)) 6 zc_1160 :=
  zmet_of hw 6 (by decide) 4000 zk_1160 (by decide) (by decide) (fun X => ⟨zg_RX6 X, zp_RX6 X, zl1_RX6 X, zl2_RX6 X, nilz, (List.forall_mem_cons.mpr ⟨zq_RX6_319 X (zM_836 hw hm) (by decide) rfl rfl, (List.forall_mem_cons.mpr ⟨zq_RX6_334 X (zM_1026 hw hm) (by decide) rfl rfl, (List.forall_mem_cons.mpr ⟨zq_RX6_337 X (zM_843 hw hm) (by decide) rfl rfl, nilz⟩)⟩)⟩)⟩)
set_option maxRecDepth 100000 in
theorem zk_1161 : zmeth zKS zuq zNS zm_1161 4000 = true := zqF (zdt0 _) (by decide +kernel)
theorem zM_1161 {l : Launch} {D : va_G} {cI cZ cB cJ cR : ClassId} {ks ad : List Nat} {Psi : va_W → Prop} (hw : zworld ks ad zuq zNS Psi) (hm : zMan l D cI cZ cB cJ cR ks ad Psi) : zMet l D cI cZ cB cJ cR zKS ks ad Psi yX6_ties (.code yX6_ties cX6_ties 9 (some .int)) 6 zc_1161 :=
  zmet_of hw 6 (by decide) 4000 zk_1161 (by decide) (by decide) (fun X => ⟨zg_RX6 X, zp_RX6 X, zl1_RX6 X, zl2_RX6 X, nilz, (List.forall_mem_cons.mpr ⟨zq_RX6_237 X (zM_882 hw hm) (by decide) rfl, (List.forall_mem_cons.mpr ⟨zq_RX6_267 X (zM_932 hw hm) (by decide) rfl rfl, (List.forall_mem_cons.mpr ⟨zq_RX6_319 X (zM_836 hw hm) (by decide) rfl rfl, (List.forall_mem_cons.mpr ⟨zq_RX6_334 X (zM_1026 hw hm) (by decide) rfl rfl, (List.forall_mem_cons.mpr ⟨zq_RX6_337 X (zM_843 hw hm) (by decide) rfl rfl, nilz⟩)⟩)⟩)⟩)⟩)⟩)
set_option maxRecDepth 100000 in
theorem zk_1167_0 : zm1 zKS zuq zNS zm_1167 4000 zt_1167_0 = true := z1F (zdt_X6_whoOf) (by decide +kernel)
set_option maxRecDepth 100000 in
theorem zk_1167_1 : zm1 zKS zuq zNS zm_1167 4000 zt_1167_1 = true := z1F (zdt_X6_whoOf) (by decide +kernel)
set_option maxRecDepth 100000 in
theorem zk_1167_2 : zm1 zKS zuq zNS zm_1167 4000 zt_1167_2 = true := z1F (zdt_X6_whoOf) (by decide +kernel)
set_option maxRecDepth 100000 in
theorem zk_1167_3 : zm1 zKS zuq zNS zm_1167 4000 zt_1167_3 = true := z1F (zdt_X6_whoOf) (by decide +kernel)
set_option maxRecDepth 100000 in
theorem zk_1167_4 : zm1 zKS zuq zNS zm_1167 4000 zt_1167_4 = true := z1F (zdt_X6_whoOf) (by decide +kernel)
set_option maxRecDepth 100000 in
theorem zk_1167_5 : zm1 zKS zuq zNS zm_1167 4000 zt_1167_5 = true := z1F (zdt_X6_whoOf) (by decide +kernel)
set_option maxRecDepth 100000 in
theorem zk_1167_6 : zm1 zKS zuq zNS zm_1167 4000 zt_1167_6 = true := z1F (zdt_X6_whoOf) (by decide +kernel)
set_option maxRecDepth 100000 in
theorem zk_1167_7 : zm1 zKS zuq zNS zm_1167 4000 zt_1167_7 = true := z1F (zdt_X6_whoOf) (by decide +kernel)
set_option maxRecDepth 100000 in
theorem zk_1167_8 : zm1 zKS zuq zNS zm_1167 4000 zt_1167_8 = true := z1F (zdt_X6_whoOf) (by decide +kernel)
set_option maxRecDepth 100000 in
theorem zk_1167_9 : zm1 zKS zuq zNS zm_1167 4000 zt_1167_9 = true := z1F (zdt_X6_whoOf) (by decide +kernel)
set_option maxRecDepth 100000 in
theorem zk_1167_10 : zm1 zKS zuq zNS zm_1167 4000 zt_1167_10 = true := z1F (zdt_X6_whoOf) (by decide +kernel)
set_option maxRecDepth 100000 in
theorem zk_1167_11 : zm1 zKS zuq zNS zm_1167 4000 zt_1167_11 = true := z1F (zdt_X6_whoOf) (by decide +kernel)
set_option maxRecDepth 100000 in
theorem zk_1167_12 : zm1 zKS zuq zNS zm_1167 4000 zt_1167_12 = true := z1F (zdt_X6_whoOf) (by decide +kernel)
set_option maxRecDepth 100000 in
theorem zk_1167_13 : zm1 zKS zuq zNS zm_1167 4000 zt_1167_13 = true := z1F (zdt_X6_whoOf) (by decide +kernel)
set_option maxRecDepth 100000 in
theorem zk_1167_14 : zm1 zKS zuq zNS zm_1167 4000 zt_1167_14 = true := z1F (zdt_X6_whoOf) (by decide +kernel)
set_option maxRecDepth 100000 in
theorem zk_1167_15 : zm1 zKS zuq zNS zm_1167 4000 zt_1167_15 = true := z1F (zdt_X6_whoOf) (by decide +kernel)
set_option maxRecDepth 100000 in
theorem zk_1167_16 : zm1 zKS zuq zNS zm_1167 4000 zt_1167_16 = true := z1F (zdt_X6_whoOf) (by decide +kernel)
set_option maxRecDepth 100000 in
theorem zk_1167_17 : zm1 zKS zuq zNS zm_1167 4000 zt_1167_17 = true := z1F (zdt_X6_whoOf) (by decide +kernel)
set_option maxRecDepth 100000 in
theorem zk_1167_18 : zm1 zKS zuq zNS zm_1167 4000 zt_1167_18 = true := z1F (zdt_X6_whoOf) (by decide +kernel)
set_option maxRecDepth 100000 in
theorem zk_1167_19 : zm1 zKS zuq zNS zm_1167 4000 zt_1167_19 = true := z1F (zdt_X6_whoOf) (by decide +kernel)
set_option maxRecDepth 100000 in
theorem zk_1167_20 : zm1 zKS zuq zNS zm_1167 4000 zt_1167_20 = true := z1F (zdt_X6_whoOf) (by decide +kernel)
set_option maxRecDepth 100000 in
theorem zk_1167_21 : zm1 zKS zuq zNS zm_1167 4000 zt_1167_21 = true := z1F (zdt_X6_whoOf) (by decide +kernel)
set_option maxRecDepth 100000 in
theorem zk_1167_22 : zm1 zKS zuq zNS zm_1167 4000 zt_1167_22 = true := z1F (zdt_X6_whoOf) (by decide +kernel)
set_option maxRecDepth 100000 in
theorem zk_1167_23 : zm1 zKS zuq zNS zm_1167 4000 zt_1167_23 = true := z1F (zdt_X6_whoOf) (by decide +kernel)
set_option maxRecDepth 100000 in
theorem zk_1167_24 : zm1 zKS zuq zNS zm_1167 4000 zt_1167_24 = true := z1F (zdt_X6_whoOf) (by decide +kernel)
set_option maxRecDepth 100000 in
theorem zk_1167_25 : zm1 zKS zuq zNS zm_1167 4000 zt_1167_25 = true := z1F (zdt_X6_whoOf) (by decide +kernel)
set_option maxRecDepth 100000 in
theorem zk_1167_26 : zm1 zKS zuq zNS zm_1167 4000 zt_1167_26 = true := z1F (zdt_X6_whoOf) (by decide +kernel)
set_option maxRecDepth 100000 in
theorem zk_1167_27 : zm1 zKS zuq zNS zm_1167 4000 zt_1167_27 = true := z1F (zdt_X6_whoOf) (by decide +kernel)
set_option maxRecDepth 100000 in
theorem zk_1167_28 : zm1 zKS zuq zNS zm_1167 4000 zt_1167_28 = true := z1F (zdt_X6_whoOf) (by decide +kernel)
set_option maxRecDepth 100000 in
theorem zk_1167_29 : zm1 zKS zuq zNS zm_1167 4000 zt_1167_29 = true := z1F (zdt_X6_whoOf) (by decide +kernel)
set_option maxRecDepth 100000 in
theorem zk_1167_30 : zm1 zKS zuq zNS zm_1167 4000 zt_1167_30 = true := z1F (zdt_X6_whoOf) (by decide +kernel)
set_option maxRecDepth 100000 in
theorem zk_1167_31 : zm1 zKS zuq zNS zm_1167 4000 zt_1167_31 = true := z1F (zdt_X6_whoOf) (by decide +kernel)
set_option maxRecDepth 100000 in
theorem zk_1167_32 : zm1 zKS zuq zNS zm_1167 4000 zt_1167_32 = true := z1F (zdt_X6_whoOf) (by decide +kernel)
set_option maxRecDepth 100000 in
theorem zk_1167_s : zm0 zKS zuq zNS zm_1167 4000 = true := z0F (zdt_X6_whoOf) (by decide +kernel)
set_option maxRecDepth 100000 in
theorem zk_1167 : zmeth zKS zuq zNS zm_1167 4000 = true := zmeth_by zk_1167_s (List.forall_mem_cons.mpr ⟨zk_1167_0, (List.forall_mem_cons.mpr ⟨zk_1167_1, (List.forall_mem_cons.mpr ⟨zk_1167_2, (List.forall_mem_cons.mpr ⟨zk_1167_3, (List.forall_mem_cons.mpr ⟨zk_1167_4, (List.forall_mem_cons.mpr ⟨zk_1167_5, (List.forall_mem_cons.mpr ⟨zk_1167_6, (List.forall_mem_cons.mpr ⟨zk_1167_7, (List.forall_mem_cons.mpr ⟨zk_1167_8, (List.forall_mem_cons.mpr ⟨zk_1167_9, (List.forall_mem_cons.mpr ⟨zk_1167_10, (List.forall_mem_cons.mpr ⟨zk_1167_11, (List.forall_mem_cons.mpr ⟨zk_1167_12, (List.forall_mem_cons.mpr ⟨zk_1167_13, (List.forall_mem_cons.mpr ⟨zk_1167_14, (List.forall_mem_cons.mpr ⟨zk_1167_15, (List.forall_mem_cons.mpr ⟨zk_1167_16, (List.forall_mem_cons.mpr ⟨zk_1167_17, (List.forall_mem_cons.mpr ⟨zk_1167_18, (List.forall_mem_cons.mpr ⟨zk_1167_19, (List.forall_mem_cons.mpr ⟨zk_1167_20, (List.forall_mem_cons.mpr ⟨zk_1167_21, (List.forall_mem_cons.mpr ⟨zk_1167_22, (List.forall_mem_cons.mpr ⟨zk_1167_23, (List.forall_mem_cons.mpr ⟨zk_1167_24, (List.forall_mem_cons.mpr ⟨zk_1167_25, (List.forall_mem_cons.mpr ⟨zk_1167_26, (List.forall_mem_cons.mpr ⟨zk_1167_27, (List.forall_mem_cons.mpr ⟨zk_1167_28, (List.forall_mem_cons.mpr ⟨zk_1167_29, (List.forall_mem_cons.mpr ⟨zk_1167_30, (List.forall_mem_cons.mpr ⟨zk_1167_31, (List.forall_mem_cons.mpr ⟨zk_1167_32, nilz⟩)⟩)⟩)⟩)⟩)⟩)⟩)⟩)⟩)⟩)⟩)⟩)⟩)⟩)⟩)⟩)⟩)⟩)⟩)⟩)⟩)⟩)⟩)⟩)⟩)⟩)⟩)⟩)⟩)⟩)⟩)⟩)⟩)
set_option maxRecDepth 100000 in
theorem zM_1167 {l : Launch} {D : va_G} {cI cZ cB cJ cR : ClassId} {ks ad : List Nat} {Psi : va_W → Prop} (hw : zworld ks ad zuq zNS Psi) (hm : zMan l D cI cZ cB cJ cR ks ad Psi) : zMet l D cI cZ cB cJ cR zKS ks ad Psi yX6_whoOf (.code yX6_whoOf cX6_whoOf 6 (some .int)) 6 zc_1167 :=
  zmet_of hw 6 (by decide) 4000 zk_1167 (by decide) (by decide) (fun X => ⟨zg_RX6 X, zp_RX6 X, zl1_RX6 X, zl2_RX6 X, nilz, (List.forall_mem_cons.mpr ⟨zq_RX6_227 X (zM_1065 hw hm) (by decide) rfl rfl, (List.forall_mem_cons.mpr ⟨zq_RX6_340 X (zM_846 hw hm) (by decide) rfl rfl, nilz⟩)⟩)⟩)
