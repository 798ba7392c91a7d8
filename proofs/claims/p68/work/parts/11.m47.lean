set_option maxRecDepth 100000 in
theorem zk_1031 : zmeth zKS zuq zNS zm_1031 4000 = true := zqF (zdt0 _) (by decide +kernel)
theorem zM_1031 {l : Launch} {D : va_G} {cI cZ cB cJ cR : ClassId} {ks ad : List Nat} {Psi : va_W → Prop} (hw : zworld ks ad zuq zNS Psi) (hm : zMan l D cI cZ cB cJ cR ks ad Psi) : zMet l D cI cZ cB cJ cR zKS ks ad Psi yX6_likely (.code yX6_likely cX6_likely 5 (some .int)) 6 zc_1031 :=
  zmet_of hw 6 (by decide) 4000 zk_1031 (by decide) (by decide) (fun X => ⟨zg_RX6 X, zp_RX6 X, zl1_RX6 X, zl2_RX6 X, nilz, (List.forall_mem_cons.mpr ⟨zq_RX6_231 X (zM_898 hw hm) (by decide) rfl rfl, (List.forall_mem_cons.mpr ⟨zq_RX6_234 X (zM_930 hw hm) (by decide) rfl rfl, (List.forall_mem_cons.mpr ⟨zq_RX6_270 X (zman_1017 hm) (by decide) rfl rfl, (List.forall_mem_cons.mpr ⟨zq_RX6_385 X (zM_885 hw hm) (by decide) rfl rfl, nilz⟩)⟩)⟩)⟩)⟩)
set_option maxRecDepth 100000 in
theorem zk_1032 : zmeth zKS zuq zNS zm_1032 4000 = true := zqF (zdt0 _) (by decide +kernel)
theorem zM_1032 {l : Launch} {D : va_G} {cI cZ cB cJ cR : ClassId} {ks ad : List Nat} {Psi : va_W → Prop} (hw : zworld ks ad zuq zNS Psi) (hm : zMan l D cI cZ cB cJ cR ks ad Psi) : zMet l D cI cZ cB cJ cR zKS ks ad Psi yX6_line (.code yX6_line cX6_line 2 none) 6 zc_1032 :=
  zmet_of hw 6 (by decide) 4000 zk_1032 (by decide) (by decide) (fun X => ⟨zg_RX6 X, zp_RX6 X, zl1_RX6 X, zl2_RX6 X, nilz, (List.forall_mem_cons.mpr ⟨zq_RX6_129 X (zM_920 hw hm) (by decide) rfl rfl, (List.forall_mem_cons.mpr ⟨zq_RX6_133 X (zM_1038 hw hm) (by decide) rfl rfl, (List.forall_mem_cons.mpr ⟨zq_RX6_136 X (zM_1126 hw hm) (by decide) rfl rfl, (List.forall_mem_cons.mpr ⟨zq_RX6_139 X (zM_876 hw hm) (by decide) rfl rfl, (List.forall_mem_cons.mpr ⟨zq_RX6_142 X (zM_834 hw hm) (by decide) rfl rfl, (List.forall_mem_cons.mpr ⟨zq_RX6_146 X (zM_1042 hw hm) (by decide) rfl rfl, (List.forall_mem_cons.mpr ⟨zq_RX6_153 X (zM_893 hw hm) (by decide) rfl rfl, (List.forall_mem_cons.mpr ⟨zq_RX6_153 X (zM_895 hw hm) (by decide) rfl rfl, (List.forall_mem_cons.mpr ⟨zq_RX6_153 X (zM_896 hw hm) (by decide) rfl rfl, (List.forall_mem_cons.mpr ⟨zq_RX6_164 X (zM_1155 hw hm) (by decide) rfl rfl, (List.forall_mem_cons.mpr ⟨zq_RX6_170 X (zM_926 hw hm) (by decide) rfl rfl, (List.forall_mem_cons.mpr ⟨zq_RX6_178 X (zM_1062 hw hm) (by decide) rfl rfl, (List.forall_mem_cons.mpr ⟨zq_RX6_183 X (zM_874 hw hm) (by decide) rfl rfl, nilz⟩)⟩)⟩)⟩)⟩)⟩)⟩)⟩)⟩)⟩)⟩)⟩)⟩)⟩)
set_option maxRecDepth 100000 in
theorem zk_1034 : zmeth zKS zuq zNS zm_1034 4000 = true := zqF (zdt0 _) (by decide +kernel)
theorem zM_1034 {l : Launch} {D : va_G} {cI cZ cB cJ cR : ClassId} {ks ad : List Nat} {Psi : va_W → Prop} (hw : zworld ks ad zuq zNS Psi) (hm : zMan l D cI cZ cB cJ cR ks ad Psi) : zMet l D cI cZ cB cJ cR zKS ks ad Psi yX6_luck (.code yX6_luck cX6_luck 6 (some .int)) 6 zc_1034 :=
  zmet_of hw 6 (by decide) 4000 zk_1034 (by decide) (by decide) (fun X => ⟨zg_RX6 X, zp_RX6 X, zl1_RX6 X, zl2_RX6 X, nilz, (List.forall_mem_cons.mpr ⟨zq_RX6_76 X (zM_913 hw hm) (by decide) rfl, (List.forall_mem_cons.mpr ⟨zq_RX6_234 X (zM_930 hw hm) (by decide) rfl rfl, (List.forall_mem_cons.mpr ⟨zq_RX6_270 X (zman_1017 hm) (by decide) rfl rfl, (List.forall_mem_cons.mpr ⟨zq_RX6_400 X (zM_932 hw hm) (by decide) rfl rfl, (List.forall_mem_cons.mpr ⟨zq_RX6_405 X (zM_870 hw hm) (by decide) rfl rfl, (List.forall_mem_cons.mpr ⟨zq_RX6_409 X (zM_887 hw hm) (by decide) rfl rfl, nilz⟩)⟩)⟩)⟩)⟩)⟩)⟩)
set_option maxRecDepth 100000 in
theorem zk_1109 : zmeth zKS zuq zNS zm_1109 4000 = true := zqF (zdt_X6_rotas) (by decide +kernel)
theorem zM_1109 {l : Launch} {D : va_G} {cI cZ cB cJ cR : ClassId} {ks ad : List Nat} {Psi : va_W → Prop} (hw : zworld ks ad zuq zNS Psi) (hm : zMan l D cI cZ cB cJ cR ks ad Psi) : zMet l D cI cZ cB cJ cR zKS ks ad Psi yX6_rotas (.code yX6_rotas cX6_rotas 5 none) 6 zc_1109 :=
  zmet_of hw 6 (by decide) 4000 zk_1109 (by decide) (by decide) (fun X => ⟨zg_RX6 X, zp_RX6 X, zl1_RX6 X, zl2_RX6 X, nilz, (List.forall_mem_cons.mpr ⟨zq_RX6_227 X (zM_1061 hw hm) (by decide) rfl rfl, (List.forall_mem_cons.mpr ⟨zq_RX6_303 X (zM_1069 hw hm) (by decide) rfl rfl, nilz⟩)⟩)⟩)
set_option maxRecDepth 100000 in
theorem zk_1110 : zmeth zKS zuq zNS zm_1110 4000 = true := zqF (zdt_X6_rotas) (by decide +kernel)
theorem zM_1110 {l : Launch} {D : va_G} {cI cZ cB cJ cR : ClassId} {ks ad : List Nat} {Psi : va_W → Prop} (hw : zworld ks ad zuq zNS Psi) (hm : zMan l D cI cZ cB cJ cR ks ad Psi) : zMet l D cI cZ cB cJ cR zKS ks ad Psi yX6_rotas (.code yX6_rotas cX6_rotas 5 none) 6 zc_1110 :=
  zmet_of hw 6 (by decide) 4000 zk_1110 (by decide) (by decide) (fun X => ⟨zg_RX6 X, zp_RX6 X, zl1_RX6 X, zl2_RX6 X, nilz, (List.forall_mem_cons.mpr ⟨zq_RX6_227 X (zM_1061 hw hm) (by decide) rfl rfl, (List.forall_mem_cons.mpr ⟨zq_RX6_303 X (zM_1070 hw hm) (by decide) rfl rfl, nilz⟩)⟩)⟩)
set_option maxRecDepth 100000 in
theorem zk_1111 : zmeth zKS zuq zNS zm_1111 4000 = true := zqF (zdt_X6_rotas) (by decide +kernel)
theorem zM_1111 {l : Launch} {D : va_G} {cI cZ cB cJ cR : ClassId} {ks ad : List Nat} {Psi : va_W → Prop} (hw : zworld ks ad zuq zNS Psi) (hm : zMan l D cI cZ cB cJ cR ks ad Psi) : zMet l D cI cZ cB cJ cR zKS ks ad Psi yX6_rotas (.code yX6_rotas cX6_rotas 5 none) 6 zc_1111 :=
  zmet_of hw 6 (by decide) 4000 zk_1111 (by decide) (by decide) (fun X => ⟨zg_RX6 X, zp_RX6 X, zl1_RX6 X, zl2_RX6 X, nilz, (List.forall_mem_cons.mpr ⟨zq_RX6_227 X (zM_1061 hw hm) (by decide) rfl rfl, (List.forall_mem_cons.mpr ⟨zq_RX6_303 X (zM_1071 hw hm) (by decide) rfl rfl, nilz⟩)⟩)⟩)
set_option maxRecDepth 100000 in
theorem zk_1112 : zmeth zKS zuq zNS zm_1112 4000 = true := zqF (zdt_X6_rotas) (by decide +kernel)
theorem zM_1112 {l : Launch} {D : va_G} {cI cZ cB cJ cR : ClassId} {ks ad : List Nat} {Psi : va_W → Prop} (hw : zworld ks ad zuq zNS Psi) (hm : zMan l D cI cZ cB cJ cR ks ad Psi) : zMet l D cI cZ cB cJ cR zKS ks ad Psi yX6_rotas (.code yX6_rotas cX6_rotas 5 none) 6 zc_1112 :=
  zmet_of hw 6 (by decide) 4000 zk_1112 (by decide) (by decide) (fun X => ⟨zg_RX6 X, zp_RX6 X, zl1_RX6 X, zl2_RX6 X, nilz, (List.forall_mem_cons.mpr ⟨zq_RX6_227 X (zM_1061 hw hm) (by decide) rfl rfl, (List.forall_mem_cons.mpr ⟨zq_RX6_303 X (zM_1072 hw hm) (by decide) rfl rfl, nilz⟩)⟩)⟩)
set_option maxRecDepth 100000 in
theorem zk_1120 : zmeth zKS zuq zNS zm_1120 4000 = true := zqF (zdt0 _) (by decide +kernel)
theorem zM_1120 {l : Launch} {D : va_G} {cI cZ cB cJ cR : ClassId} {ks ad : List Nat} {Psi : va_W → Prop} (hw : zworld ks ad zuq zNS Psi) (hm : zMan l D cI cZ cB cJ cR ks ad Psi) : zMet l D cI cZ cB cJ cR zKS ks ad Psi yX6_steps (.code yX6_steps cX6_steps 6 (some .int)) 6 zc_1120 :=
  zmet_of hw 6 (by decide) 4000 zk_1120 (by decide) (by decide) (fun X => ⟨zg_RX6 X, zp_RX6 X, zl1_RX6 X, zl2_RX6 X, nilz, (List.forall_mem_cons.mpr ⟨zq_RX6_319 X (zM_832 hw hm) (by decide) rfl rfl, (List.forall_mem_cons.mpr ⟨zq_RX6_334 X (zM_1022 hw hm) (by decide) rfl rfl, (List.forall_mem_cons.mpr ⟨zq_RX6_337 X (zM_839 hw hm) (by decide) rfl rfl, nilz⟩)⟩)⟩)⟩)
set_option maxRecDepth 100000 in
theorem zk_1156 : zmeth zKS zuq zNS zm_1156 4000 = true := zqF (zdt0 _) (by decide +kernel)
theorem zM_1156 {l : Launch} {D : va_G} {cI cZ cB cJ cR : ClassId} {ks ad : List Nat} {Psi : va_W → Prop} (hw : zworld ks ad zuq zNS Psi) (hm : zMan l D cI cZ cB cJ cR ks ad Psi) : zMet l D cI cZ cB cJ cR zKS ks ad Psi yX6_tied (.code yX6_tied cX6_tied 4 (some .int)) 6 zc_1156 :=
  zmet_of hw 6 (by decide) 4000 zk_1156 (by decide) (by decide) (fun X => ⟨zg_RX6 X, zp_RX6 X, zl1_RX6 X, zl2_RX6 X, nilz, (List.forall_mem_cons.mpr ⟨zq_RX6_319 X (zM_832 hw hm) (by decide) rfl rfl, (List.forall_mem_cons.mpr ⟨zq_RX6_334 X (zM_1022 hw hm) (by decide) rfl rfl, (List.forall_mem_cons.mpr ⟨zq_RX6_337 X (zM_839 hw hm) (by decide) rfl rfl, nilz⟩)⟩)⟩)⟩)
set_option maxRecDepth 100000 in
theorem zk_1157 : zmeth zKS zuq zNS zm_1157 4000 = true := zqF (zdt0 _) (by decide +kernel)
theorem zM_1157 {l : Launch} {D : va_G} {cI cZ cB cJ cR : ClassId} {ks ad : List Nat} {Psi : va_W → Prop} (hw : zworld ks ad zuq zNS Psi) (hm : zMan l D cI cZ cB cJ cR ks ad Psi) : zMet l D cI cZ cB cJ cR zKS ks ad Psi yX6_ties (.code yX6_ties cX6_ties 9 (some .int)) 6 zc_1157 :=
  zmet_of hw 6 (by decide) 4000 zk_1157 (by decide) (by decide) (fun X => ⟨zg_RX6 X, zp_RX6 X, zl1_RX6 X, zl2_RX6 X, nilz, (List.forall_mem_cons.mpr ⟨zq_RX6_237 X (zM_878 hw hm) (by decide) rfl, (List.forall_mem_cons.mpr ⟨zq_RX6_267 X (zM_928 hw hm) (by decide) rfl rfl, (List.forall_mem_cons.mpr ⟨zq_RX6_319 X (zM_832 hw hm) (by decide) rfl rfl, (List.forall_mem_cons.mpr ⟨zq_RX6_334 X (zM_1022 hw hm) (by decide) rfl rfl, (List.forall_mem_cons.mpr ⟨zq_RX6_337 X (zM_839 hw hm) (by decide) rfl rfl, nilz⟩)⟩)⟩)⟩)⟩)⟩)
set_option maxRecDepth 100000 in
theorem zk_1163_0 : zm1 zKS zuq zNS zm_1163 4000 zt_1163_0 = true := z1F (zdt_X6_whoOf) (by decide +kernel)
set_option maxRecDepth 100000 in
theorem zk_1163_1 : zm1 zKS zuq zNS zm_1163 4000 zt_1163_1 = true := z1F (zdt_X6_whoOf) (by decide +kernel)
set_option maxRecDepth 100000 in
theorem zk_1163_2 : zm1 zKS zuq zNS zm_1163 4000 zt_1163_2 = true := z1F (zdt_X6_whoOf) (by decide +kernel)
set_option maxRecDepth 100000 in
theorem zk_1163_3 : zm1 zKS zuq zNS zm_1163 4000 zt_1163_3 = true := z1F (zdt_X6_whoOf) (by decide +kernel)
set_option maxRecDepth 100000 in
theorem zk_1163_4 : zm1 zKS zuq zNS zm_1163 4000 zt_1163_4 = true := z1F (zdt_X6_whoOf) (by decide +kernel)
set_option maxRecDepth 100000 in
theorem zk_1163_5 : zm1 zKS zuq zNS zm_1163 4000 zt_1163_5 = true := z1F (zdt_X6_whoOf) (by decide +kernel)
set_option maxRecDepth 100000 in
theorem zk_1163_6 : zm1 zKS zuq zNS zm_1163 4000 zt_1163_6 = true := z1F (zdt_X6_whoOf) (by decide +kernel)
set_option maxRecDepth 100000 in
theorem zk_1163_7 : zm1 zKS zuq zNS zm_1163 4000 zt_1163_7 = true := z1F (zdt_X6_whoOf) (by decide +kernel)
set_option maxRecDepth 100000 in
theorem zk_1163_8 : zm1 zKS zuq zNS zm_1163 4000 zt_1163_8 = true := z1F (zdt_X6_whoOf) (by decide +kernel)
set_option maxRecDepth 100000 in
theorem zk_1163_9 : zm1 zKS zuq zNS zm_1163 4000 zt_1163_9 = true := z1F (zdt_X6_whoOf) (by decide +kernel)
set_option maxRecDepth 100000 in
theorem zk_1163_10 : zm1 zKS zuq zNS zm_1163 4000 zt_1163_10 = true := z1F (zdt_X6_whoOf) (by decide +kernel)
set_option maxRecDepth 100000 in
theorem zk_1163_11 : zm1 zKS zuq zNS zm_1163 4000 zt_1163_11 = true := z1F (zdt_X6_whoOf) (by decide +kernel)
set_option maxRecDepth 100000 in
theorem zk_1163_12 : zm1 zKS zuq zNS zm_1163 4000 zt_1163_12 = true := z1F (zdt_X6_whoOf) (by decide +kernel)
set_option maxRecDepth 100000 in
theorem zk_1163_13 : zm1 zKS zuq zNS zm_1163 4000 zt_1163_13 = true := z1F (zdt_X6_whoOf) (by decide +kernel)
set_option maxRecDepth 100000 in
theorem zk_1163_14 : zm1 zKS zuq zNS zm_1163 4000 zt_1163_14 = true := z1F (zdt_X6_whoOf) (by decide +kernel)
set_option maxRecDepth 100000 in
theorem zk_1163_15 : zm1 zKS zuq zNS zm_1163 4000 zt_1163_15 = true := z1F (zdt_X6_whoOf) (by decide +kernel)
set_option maxRecDepth 100000 in
theorem zk_1163_16 : zm1 zKS zuq zNS zm_1163 4000 zt_1163_16 = true := z1F (zdt_X6_whoOf) (by decide +kernel)
set_option maxRecDepth 100000 in
theorem zk_1163_17 : zm1 zKS zuq zNS zm_1163 4000 zt_1163_17 = true := z1F (zdt_X6_whoOf) (by decide +kernel)
set_option maxRecDepth 100000 in
theorem zk_1163_18 : zm1 zKS zuq zNS zm_1163 4000 zt_1163_18 = true := z1F (zdt_X6_whoOf) (by decide +kernel)
set_option maxRecDepth 100000 in
theorem zk_1163_19 : zm1 zKS zuq zNS zm_1163 4000 zt_1163_19 = true := z1F (zdt_X6_whoOf) (by decide +kernel)
set_option maxRecDepth 100000 in
theorem zk_1163_20 : zm1 zKS zuq zNS zm_1163 4000 zt_1163_20 = true := z1F (zdt_X6_whoOf) (by decide +kernel)
set_option maxRecDepth 100000 in
theorem zk_1163_21 : zm1 zKS zuq zNS zm_1163 4000 zt_1163_21 = true := z1F (zdt_X6_whoOf) (by decide +kernel)
set_option maxRecDepth 100000 in
theorem zk_1163_22 : zm1 zKS zuq zNS zm_1163 4000 zt_1163_22 = true := z1F (zdt_X6_whoOf) (by decide +kernel)
set_option maxRecDepth 100000 in
theorem zk_1163_23 : zm1 zKS zuq zNS zm_1163 4000 zt_1163_23 = true := z1F (zdt_X6_whoOf) (by decide +kernel)
set_option maxRecDepth 100000 in
theorem zk_1163_24 : zm1 zKS zuq zNS zm_1163 4000 zt_1163_24 = true := z1F (zdt_X6_whoOf) (by decide +kernel)
set_option maxRecDepth 100000 in
theorem zk_1163_25 : zm1 zKS zuq zNS zm_1163 4000 zt_1163_25 = true := z1F (zdt_X6_whoOf) (by decide +kernel)
set_option maxRecDepth 100000 in
theorem zk_1163_26 : zm1 zKS zuq zNS zm_1163 4000 zt_1163_26 = true := z1F (zdt_X6_whoOf) (by decide +kernel)
set_option maxRecDepth 100000 in
theorem zk_1163_27 : zm1 zKS zuq zNS zm_1163 4000 zt_1163_27 = true := z1F (zdt_X6_whoOf) (by decide +kernel)
set_option maxRecDepth 100000 in
theorem zk_1163_28 : zm1 zKS zuq zNS zm_1163 4000 zt_1163_28 = true := z1F (zdt_X6_whoOf) (by decide +kernel)
set_option maxRecDepth 100000 in
theorem zk_1163_29 : zm1 zKS zuq zNS zm_1163 4000 zt_1163_29 = true := z1F (zdt_X6_whoOf) (by decide +kernel)
set_option maxRecDepth 100000 in
theorem zk_1163_30 : zm1 zKS zuq zNS zm_1163 4000 zt_1163_30 = true := z1F (zdt_X6_whoOf) (by decide +kernel)
set_option maxRecDepth 100000 in
theorem zk_1163_31 : zm1 zKS zuq zNS zm_1163 4000 zt_1163_31 = true := z1F (zdt_X6_whoOf) (by decide +kernel)
set_option maxRecDepth 100000 in
theorem zk_1163_32 : zm1 zKS zuq zNS zm_1163 4000 zt_1163_32 = true := z1F (zdt_X6_whoOf) (by decide +kernel)
set_option maxRecDepth 100000 in
theorem zk_1163_s : zm0 zKS zuq zNS zm_1163 4000 = true := z0F (zdt_X6_whoOf) (by decide +kernel)
set_option maxRecDepth 100000 in
theorem zk_1163 : zmeth zKS zuq zNS zm_1163 4000 = true := zmeth_by zk_1163_s (List.forall_mem_cons.mpr ⟨zk_1163_0, (List.forall_mem_cons.mpr ⟨zk_1163_1, (List.forall_mem_cons.mpr ⟨zk_1163_2, (List.forall_mem_cons.mpr ⟨zk_1163_3, (List.forall_mem_cons.mpr ⟨zk_1163_4, (List.forall_mem_cons.mpr ⟨zk_1163_5, (List.forall_mem_cons.mpr ⟨zk_1163_6, (List.forall_mem_cons.mpr ⟨zk_1163_7, (List.forall_mem_cons.mpr ⟨zk_1163_8, (List.forall_mem_cons.mpr ⟨zk_1163_9, (List.forall_mem_cons.mpr ⟨zk_1163_10, (List.forall_mem_cons.mpr ⟨zk_1163_11, (List.forall_mem_cons.mpr ⟨zk_1163_12, (List.forall_mem_cons.mpr ⟨zk_1163_13, (List.forall_mem_cons.mpr ⟨zk_1163_14, (List.forall_mem_cons.mpr ⟨zk_1163_15, (List.forall_mem_cons.mpr ⟨zk_1163_16, (List.forall_mem_cons.mpr ⟨zk_1163_17, (List.forall_mem_cons.mpr ⟨zk_1163_18, (List.forall_mem_cons.mpr ⟨zk_1163_19, (List.forall_mem_cons.mpr ⟨zk_1163_20, (List.forall_mem_cons.mpr ⟨zk_1163_21, (List.forall_mem_cons.mpr ⟨zk_1163_22, (List.forall_mem_cons.mpr ⟨zk_1163_23, (List.forall_mem_cons.mpr ⟨zk_1163_24, (List.forall_mem_cons.mpr ⟨zk_1163_25, (List.forall_mem_cons.mpr ⟨zk_1163_26, (List.forall_mem_cons.mpr ⟨zk_1163_27, (List.forall_mem_cons.mpr ⟨zk_1163_28, (List.forall_mem_cons.mpr ⟨zk_1163_29, (List.forall_mem_cons.mpr ⟨zk_1163_30, (List.forall_mem_cons.mpr ⟨zk_1163_31, (List.forall_mem_cons.mpr ⟨zk_1163_32, nilz⟩)⟩)⟩)⟩)⟩)⟩)⟩)⟩)⟩)⟩)⟩)⟩)⟩)⟩)⟩)⟩)⟩)⟩)⟩)⟩)⟩)⟩)⟩)⟩)⟩)⟩)⟩)⟩)⟩)⟩)⟩)⟩)⟩)
set_option maxRecDepth 100000 in
theorem zM_1163 {l : Launch} {D : va_G} {cI cZ cB cJ cR : ClassId} {ks ad : List Nat} {Psi : va_W → Prop} (hw : zworld ks ad zuq zNS Psi) (hm : zMan l D cI cZ cB cJ cR ks ad Psi) : zMet l D cI cZ cB cJ cR zKS ks ad Psi yX6_whoOf (.code yX6_whoOf cX6_whoOf 6 (some .int)) 6 zc_1163 :=
  zmet_of hw 6 (by decide) 4000 zk_1163 (by decide) (by decide) (fun X => ⟨zg_RX6 X, zp_RX6 X, zl1_RX6 X, zl2_RX6 X, nilz, (List.forall_mem_cons.mpr ⟨zq_RX6_227 X (zM_1061 hw hm) (by decide) rfl rfl, (List.forall_mem_cons.mpr ⟨zq_RX6_340 X (zM_842 hw hm) (by decide) rfl rfl, nilz⟩)⟩)⟩)
