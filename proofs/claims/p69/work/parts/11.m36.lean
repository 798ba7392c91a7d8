set_option maxRecDepth 100000 in
theorem zk_878 : zmeth zKS zuq zNS zm_878 4000 = true := zqF (zdt0 _) (by decide +kernel)
theorem zM_878 {l : Launch} {D : va_G} {cI cZ cB cJ cR : ClassId} {ks ad : List Nat} {Psi : va_W → Prop} (hw : zworld ks ad zuq zNS Psi) (hm : zMan l D cI cZ cB cJ cR ks ad Psi) : zMet l D cI cZ cB cJ cR zKS ks ad Psi yX6_errandLine (.code yX6_errandLine cX6_errandLine 4 none) 5 zc_878 :=
  zmet_of hw 5 (by decide) 4000 zk_878 (by decide) (by decide) (fun X => ⟨zg_RX6 X, zp_RX6 X, zl1_RX6 X, zl2_RX6 X, nilz, (List.forall_mem_cons.mpr ⟨zq_RX6_146 X (zM_1044 hw hm) (by decide) rfl rfl, (List.forall_mem_cons.mpr ⟨zq_RX6_153 X (zM_897 hw hm) (by decide) rfl rfl, (List.forall_mem_cons.mpr ⟨zq_RX6_153 X (zM_898 hw hm) (by decide) rfl rfl, (List.forall_mem_cons.mpr ⟨zq_RX6_153 X (zM_899 hw hm) (by decide) rfl rfl, (List.forall_mem_cons.mpr ⟨zq_RX6_159 X (zM_1061 hw hm) (by decide) rfl rfl, (List.forall_mem_cons.mpr ⟨zq_RX6_159 X (zM_1060 hw hm) (by decide) rfl rfl, (List.forall_mem_cons.mpr ⟨zq_RX6_170 X (zM_930 hw hm) (by decide) rfl rfl, nilz⟩)⟩)⟩)⟩)⟩)⟩)⟩)⟩)
set_option maxRecDepth 100000 in
theorem zk_886 : zmeth zKS zuq zNS zm_886 4000 = true := zqF (zdt0 _) (by decide +kernel)
theorem zM_886 {l : Launch} {D : va_G} {cI cZ cB cJ cR : ClassId} {ks ad : List Nat} {Psi : va_W → Prop} (hw : zworld ks ad zuq zNS Psi) (hm : zMan l D cI cZ cB cJ cR ks ad Psi) : zMet l D cI cZ cB cJ cR zKS ks ad Psi yX6_fineOf (.code yX6_fineOf cX6_fineOf 5 (some .int)) 5 zc_886 :=
  zmet_of hw 5 (by decide) 4000 zk_886 (by decide) (by decide) (fun X => ⟨zg_RX6 X, zp_RX6 X, zl1_RX6 X, zl2_RX6 X, nilz, (List.forall_mem_cons.mpr ⟨zq_RX6_231 X (zM_902 hw hm) (by decide) rfl rfl, (List.forall_mem_cons.mpr ⟨zq_RX6_257 X (zM_929 hw hm) (by decide) rfl rfl, nilz⟩)⟩)⟩)
set_option maxRecDepth 100000 in
theorem zk_888 : zmeth zKS zuq zNS zm_888 4000 = true := zqF (zdt0 _) (by decide +kernel)
theorem zM_888 {l : Launch} {D : va_G} {cI cZ cB cJ cR : ClassId} {ks ad : List Nat} {Psi : va_W → Prop} (hw : zworld ks ad zuq zNS Psi) (hm : zMan l D cI cZ cB cJ cR ks ad Psi) : zMet l D cI cZ cB cJ cR zKS ks ad Psi yX6_friend (.code yX6_friend cX6_friend 4 (some .int)) 5 zc_888 :=
  zmet_of hw 5 (by decide) 4000 zk_888 (by decide) (by decide) (fun X => ⟨zg_RX6 X, zp_RX6 X, zl1_RX6 X, zl2_RX6 X, nilz, (List.forall_mem_cons.mpr ⟨zq_RX6_227 X (zM_1065 hw hm) (by decide) rfl rfl, (List.forall_mem_cons.mpr ⟨zq_RX6_234 X (zM_934 hw hm) (by decide) rfl rfl, (List.forall_mem_cons.mpr ⟨zq_RX6_270 X (zman_1021 hm) (by decide) rfl rfl, (List.forall_mem_cons.mpr ⟨zq_RX6_316 X (zM_1063 hw hm) (by decide) rfl rfl, nilz⟩)⟩)⟩)⟩)⟩)
set_option maxRecDepth 100000 in
theorem zk_889 : zmeth zKS zuq zNS zm_889 4000 = true := zqF (zdt0 _) (by decide +kernel)
theorem zM_889 {l : Launch} {D : va_G} {cI cZ cB cJ cR : ClassId} {ks ad : List Nat} {Psi : va_W → Prop} (hw : zworld ks ad zuq zNS Psi) (hm : zMan l D cI cZ cB cJ cR ks ad Psi) : zMet l D cI cZ cB cJ cR zKS ks ad Psi yX6_gapOdds (.code yX6_gapOdds cX6_gapOdds 3 (some .int)) 5 zc_889 :=
  zmet_of hw 5 (by decide) 4000 zk_889 (by decide) (by decide) (fun X => ⟨zg_RX6 X, zp_RX6 X, zl1_RX6 X, zl2_RX6 X, nilz, (List.forall_mem_cons.mpr ⟨zq_RX6_257 X (zM_929 hw hm) (by decide) rfl rfl, nilz⟩)⟩)
set_option maxRecDepth 100000 in
theorem zk_891 : zmeth zKS zuq zNS zm_891 4000 = true := zqF (zdt0 _) (by decide +kernel)
theorem zM_891 {l : Launch} {D : va_G} {cI cZ cB cJ cR : ClassId} {ks ad : List Nat} {Psi : va_W → Prop} (hw : zworld ks ad zuq zNS Psi) (hm : zMan l D cI cZ cB cJ cR ks ad Psi) : zMet l D cI cZ cB cJ cR zKS ks ad Psi yX6_gapsBy (.code yX6_gapsBy cX6_gapsBy 5 (some .int)) 5 zc_891 :=
  zmet_of hw 5 (by decide) 4000 zk_891 (by decide) (by decide) (fun X => ⟨zg_RX6 X, zp_RX6 X, zl1_RX6 X, zl2_RX6 X, nilz, (List.forall_mem_cons.mpr ⟨zq_RX6_231 X (zM_902 hw hm) (by decide) rfl rfl, (List.forall_mem_cons.mpr ⟨zq_RX6_240 X (zM_925 hw hm) (by decide) rfl, (List.forall_mem_cons.mpr ⟨zq_RX6_257 X (zM_929 hw hm) (by decide) rfl rfl, nilz⟩)⟩)⟩)⟩)
set_option maxRecDepth 100000 in
theorem zk_892 : zmeth zKS zuq zNS zm_892 4000 = true := zqF (zdt0 _) (by decide +kernel)
theorem zM_892 {l : Launch} {D : va_G} {cI cZ cB cJ cR : ClassId} {ks ad : List Nat} {Psi : va_W → Prop} (hw : zworld ks ad zuq zNS Psi) (hm : zMan l D cI cZ cB cJ cR ks ad Psi) : zMet l D cI cZ cB cJ cR zKS ks ad Psi yX6_gapsOf (.code yX6_gapsOf cX6_gapsOf 4 (some .int)) 5 zc_892 :=
  zmet_of hw 5 (by decide) 4000 zk_892 (by decide) (by decide) (fun X => ⟨zg_RX6 X, zp_RX6 X, zl1_RX6 X, zl2_RX6 X, nilz, (List.forall_mem_cons.mpr ⟨zq_RX6_231 X (zM_902 hw hm) (by decide) rfl rfl, (List.forall_mem_cons.mpr ⟨zq_RX6_257 X (zM_929 hw hm) (by decide) rfl rfl, nilz⟩)⟩)⟩)
set_option maxRecDepth 100000 in
theorem zk_1026 : zmeth zKS zuq zNS zm_1026 4000 = true := zqF (zdt0 _) (by decide +kernel)
theorem zM_1026 {l : Launch} {D : va_G} {cI cZ cB cJ cR : ClassId} {ks ad : List Nat} {Psi : va_W → Prop} (hw : zworld ks ad zuq zNS Psi) (hm : zMan l D cI cZ cB cJ cR ks ad Psi) : zMet l D cI cZ cB cJ cR zKS ks ad Psi yX6_laysDays (.code yX6_laysDays cX6_laysDays 10 none) 5 zc_1026 :=
  zmet_of hw 5 (by decide) 4000 zk_1026 (by decide) (by decide) (fun X => ⟨zg_RX6 X, zp_RX6 X, zl1_RX6 X, zl2_RX6 X, nilz, (List.forall_mem_cons.mpr ⟨zq_RX6_231 X (zM_902 hw hm) (by decide) rfl rfl, (List.forall_mem_cons.mpr ⟨zq_RX6_237 X (zM_882 hw hm) (by decide) rfl, (List.forall_mem_cons.mpr ⟨zq_RX6_244 X (zM_1067 hw hm) (by decide) rfl rfl, (List.forall_mem_cons.mpr ⟨zq_RX6_247 X (zM_1121 hw hm) (by decide) rfl rfl, (List.forall_mem_cons.mpr ⟨zq_RX6_270 X (zman_1021 hm) (by decide) rfl rfl, (List.forall_mem_cons.mpr ⟨zq_RX6_331 X (zM_1039 hw hm) (by decide) rfl rfl, nilz⟩)⟩)⟩)⟩)⟩)⟩)⟩)
set_option maxRecDepth 100000 in
theorem zk_1037 : zmeth zKS zuq zNS zm_1037 4000 = true := zqF (zdt0 _) (by decide +kernel)
theorem zM_1037 {l : Launch} {D : va_G} {cI cZ cB cJ cR : ClassId} {ks ad : List Nat} {Psi : va_W → Prop} (hw : zworld ks ad zuq zNS Psi) (hm : zMan l D cI cZ cB cJ cR ks ad Psi) : zMet l D cI cZ cB cJ cR zKS ks ad Psi yX6_longest (.code yX6_longest cX6_longest 5 (some .int)) 5 zc_1037 :=
  zmet_of hw 5 (by decide) 4000 zk_1037 (by decide) (by decide) (fun X => ⟨zg_RX6 X, zp_RX6 X, zl1_RX6 X, zl2_RX6 X, nilz, (List.forall_mem_cons.mpr ⟨zq_RX6_231 X (zM_902 hw hm) (by decide) rfl rfl, (List.forall_mem_cons.mpr ⟨zq_RX6_234 X (zM_934 hw hm) (by decide) rfl rfl, (List.forall_mem_cons.mpr ⟨zq_RX6_257 X (zM_929 hw hm) (by decide) rfl rfl, (List.forall_mem_cons.mpr ⟨zq_RX6_270 X (zman_1021 hm) (by decide) rfl rfl, nilz⟩)⟩)⟩)⟩)⟩)
set_option maxRecDepth 100000 in
theorem zk_1040 : zmeth zKS zuq zNS zm_1040 4000 = true := zqF (zdt0 _) (by decide +kernel)
theorem zM_1040 {l : Launch} {D : va_G} {cI cZ cB cJ cR : ClassId} {ks ad : List Nat} {Psi : va_W → Prop} (hw : zworld ks ad zuq zNS Psi) (hm : zMan l D cI cZ cB cJ cR ks ad Psi) : zMet l D cI cZ cB cJ cR zKS ks ad Psi yX6_move (.code yX6_move cX6_move 4 (some .int)) 5 zc_1040 :=
  zmet_of hw 5 (by decide) 4000 zk_1040 (by decide) (by decide) (fun X => ⟨zg_RX6 X, zp_RX6 X, zl1_RX6 X, zl2_RX6 X, nilz, (List.forall_mem_cons.mpr ⟨zq_RX6_234 X (zM_934 hw hm) (by decide) rfl rfl, (List.forall_mem_cons.mpr ⟨zq_RX6_244 X (zM_1067 hw hm) (by decide) rfl rfl, (List.forall_mem_cons.mpr ⟨zq_RX6_267 X (zM_932 hw hm) (by decide) rfl rfl, (List.forall_mem_cons.mpr ⟨zq_RX6_270 X (zman_1021 hm) (by decide) rfl rfl, (List.forall_mem_cons.mpr ⟨zq_RX6_322 X (zM_935 hw hm) (by decide) rfl rfl, (List.forall_mem_cons.mpr ⟨zq_RX6_414 X (zM_928 hw hm) (by decide) rfl rfl, (List.forall_mem_cons.mpr ⟨zq_RX6_417 X (zman_831 hm) (by decide) rfl rfl, nilz⟩)⟩)⟩)⟩)⟩)⟩)⟩)⟩)
set_option maxRecDepth 100000 in
theorem zk_1041 : zmeth zKS zuq zNS zm_1041 4000 = true := zqF (zdt0 _) (by decide +kernel)
theorem zM_1041 {l : Launch} {D : va_G} {cI cZ cB cJ cR : ClassId} {ks ad : List Nat} {Psi : va_W → Prop} (hw : zworld ks ad zuq zNS Psi) (hm : zMan l D cI cZ cB cJ cR ks ad Psi) : zMet l D cI cZ cB cJ cR zKS ks ad Psi yX6_mutual (.code yX6_mutual cX6_mutual 3 (some .int)) 5 zc_1041 :=
  zmet_of hw 5 (by decide) 4000 zk_1041 (by decide) (by decide) (fun X => ⟨zg_RX6 X, zp_RX6 X, zl1_RX6 X, zl2_RX6 X, nilz, (List.forall_mem_cons.mpr ⟨zq_RX6_227 X (zM_1065 hw hm) (by decide) rfl rfl, (List.forall_mem_cons.mpr ⟨zq_RX6_270 X (zman_1021 hm) (by decide) rfl rfl, (List.forall_mem_cons.mpr ⟨zq_RX6_276 X (zM_927 hw hm) (by decide) rfl rfl, nilz⟩)⟩)⟩)⟩)
set_option maxRecDepth 100000 in
theorem zk_1062 : zmeth zKS zuq zNS zm_1062 4000 = true := zqF (zdt0 _) (by decide +kernel)
theorem zM_1062 {l : Launch} {D : va_G} {cI cZ cB cJ cR : ClassId} {ks ad : List Nat} {Psi : va_W → Prop} (hw : zworld ks ad zuq zNS Psi) (hm : zMan l D cI cZ cB cJ cR ks ad Psi) : zMet l D cI cZ cB cJ cR zKS ks ad Psi yX6_often (.code yX6_often cX6_often 3 (some .int)) 5 zc_1062 :=
  zmet_of hw 5 (by decide) 4000 zk_1062 (by decide) (by decide) (fun X => ⟨zg_RX6 X, zp_RX6 X, zl1_RX6 X, zl2_RX6 X, nilz, (List.forall_mem_cons.mpr ⟨zq_RX6_270 X (zman_1021 hm) (by decide) rfl rfl, (List.forall_mem_cons.mpr ⟨zq_RX6_316 X (zM_1063 hw hm) (by decide) rfl rfl, (List.forall_mem_cons.mpr ⟨zq_RX6_319 X (zM_836 hw hm) (by decide) rfl rfl, nilz⟩)⟩)⟩)⟩)
set_option maxRecDepth 100000 in
theorem zk_1066_0 : zm1 zKS zuq zNS zm_1066 4000 zt_1066_0 = true := z1F (zdt_X6_personLine) (by decide +kernel)
set_option maxRecDepth 100000 in
theorem zk_1066_1 : zm1 zKS zuq zNS zm_1066 4000 zt_1066_1 = true := z1F (zdt_X6_personLine) (by decide +kernel)
set_option maxRecDepth 100000 in
theorem zk_1066_2 : zm1 zKS zuq zNS zm_1066 4000 zt_1066_2 = true := z1F (zdt_X6_personLine) (by decide +kernel)
set_option maxRecDepth 100000 in
theorem zk_1066_3 : zm1 zKS zuq zNS zm_1066 4000 zt_1066_3 = true := z1F (zdt_X6_personLine) (by decide +kernel)
set_option maxRecDepth 100000 in
theorem zk_1066_4 : zm1 zKS zuq zNS zm_1066 4000 zt_1066_4 = true := z1F (zdt_X6_personLine) (by decide +kernel)
set_option maxRecDepth 100000 in
theorem zk_1066_5 : zm1 zKS zuq zNS zm_1066 4000 zt_1066_5 = true := z1F (zdt_X6_personLine) (by decide +kernel)
set_option maxRecDepth 100000 in
theorem zk_1066_6 : zm1 zKS zuq zNS zm_1066 4000 zt_1066_6 = true := z1F (zdt_X6_personLine) (by decide +kernel)
set_option maxRecDepth 100000 in
theorem zk_1066_7 : zm1 zKS zuq zNS zm_1066 4000 zt_1066_7 = true := z1F (zdt_X6_personLine) (by decide +kernel)
set_option maxRecDepth 100000 in
theorem zk_1066_8 : zm1 zKS zuq zNS zm_1066 4000 zt_1066_8 = true := z1F (zdt_X6_personLine) (by decide +kernel)
set_option maxRecDepth 100000 in
theorem zk_1066_9 : zm1 zKS zuq zNS zm_1066 4000 zt_1066_9 = true := z1F (zdt_X6_personLine) (by decide +kernel)
set_option maxRecDepth 100000 in
theorem zk_1066_10 : zm1 zKS zuq zNS zm_1066 4000 zt_1066_10 = true := z1F (zdt_X6_personLine) (by decide +kernel)
set_option maxRecDepth 100000 in
theorem zk_1066_11 : zm1 zKS zuq zNS zm_1066 4000 zt_1066_11 = true := z1F (zdt_X6_personLine) (by decide +kernel)
set_option maxRecDepth 100000 in
theorem zk_1066_12 : zm1 zKS zuq zNS zm_1066 4000 zt_1066_12 = true := z1F (zdt_X6_personLine) (by decide +kernel)
set_option maxRecDepth 100000 in
theorem zk_1066_13 : zm1 zKS zuq zNS zm_1066 4000 zt_1066_13 = true := z1F (zdt_X6_personLine) (by decide +kernel)
set_option maxRecDepth 100000 in
theorem zk_1066_s : zm0 zKS zuq zNS zm_1066 4000 = true := z0F (zdt_X6_personLine) (by decide +kernel)
set_option maxRecDepth 100000 in
theorem zk_1066 : zmeth zKS zuq zNS zm_1066 4000 = true := zmeth_by zk_1066_s (List.forall_mem_cons.mpr ⟨zk_1066_0, (List.forall_mem_cons.mpr ⟨zk_1066_1, (List.forall_mem_cons.mpr ⟨zk_1066_2, (List.forall_mem_cons.mpr ⟨zk_1066_3, (List.forall_mem_cons.mpr ⟨zk_1066_4, (List.forall_mem_cons.mpr ⟨zk_1066_5, (List.forall_mem_cons.mpr ⟨zk_1066_6, (List.forall_mem_cons.mpr ⟨zk_1066_7, (List.forall_mem_cons.mpr ⟨zk_1066_8, (List.forall_mem_cons.mpr ⟨zk_1066_9, (List.forall_mem_cons.mpr ⟨zk_1066_10, (List.forall_mem_cons.mpr ⟨zk_1066_11, (List.forall_mem_cons.mpr ⟨zk_1066_12, (List.forall_mem_cons.mpr ⟨zk_1066_13, nilz⟩)⟩)⟩)⟩)⟩)⟩)⟩)⟩)⟩)⟩)⟩)⟩)⟩)⟩)
set_option maxRecDepth 100000 in
theorem zM_1066 {l : Launch} {D : va_G} {cI cZ cB cJ cR : ClassId} {ks ad : List Nat} {Psi : va_W → Prop} (hw : zworld ks ad zuq zNS Psi) (hm : zMan l D cI cZ cB cJ cR ks ad Psi) : zMet l D cI cZ cB cJ cR zKS ks ad Psi yX6_personLine (.code yX6_personLine cX6_personLine 4 none) 5 zc_1066 :=
  zmet_of hw 5 (by decide) 4000 zk_1066 (by decide) (by decide) (fun X => ⟨zg_RX6 X, zp_RX6 X, zl1_RX6 X, zl2_RX6 X, nilz, (List.forall_mem_cons.mpr ⟨zq_RX6_136 X (zM_1130 hw hm) (by decide) rfl rfl, (List.forall_mem_cons.mpr ⟨zq_RX6_139 X (zM_880 hw hm) (by decide) rfl rfl, (List.forall_mem_cons.mpr ⟨zq_RX6_146 X (zM_1048 hw hm) (by decide) rfl rfl, (List.forall_mem_cons.mpr ⟨zq_RX6_153 X (zM_897 hw hm) (by decide) rfl rfl, (List.forall_mem_cons.mpr ⟨zq_RX6_153 X (zM_899 hw hm) (by decide) rfl rfl, (List.forall_mem_cons.mpr ⟨zq_RX6_159 X (zM_1060 hw hm) (by decide) rfl rfl, (List.forall_mem_cons.mpr ⟨zq_RX6_164 X (zM_1152 hw hm) (by decide) rfl rfl, (List.forall_mem_cons.mpr ⟨zq_RX6_164 X (zM_1153 hw hm) (by decide) rfl rfl, (List.forall_mem_cons.mpr ⟨zq_RX6_164 X (zM_1154 hw hm) (by decide) rfl rfl, (List.forall_mem_cons.mpr ⟨zq_RX6_164 X (zM_1155 hw hm) (by decide) rfl rfl, (List.forall_mem_cons.mpr ⟨zq_RX6_164 X (zM_1156 hw hm) (by decide) rfl rfl, (List.forall_mem_cons.mpr ⟨zq_RX6_164 X (zM_1157 hw hm) (by decide) rfl rfl, (List.forall_mem_cons.mpr ⟨zq_RX6_164 X (zM_1158 hw hm) (by decide) rfl rfl, nilz⟩)⟩)⟩)⟩)⟩)⟩)⟩)⟩)⟩)⟩)⟩)⟩)⟩)⟩)
set_option maxRecDepth 100000 in
theorem zk_1068 : zmeth zKS zuq zNS zm_1068 4000 = true := zqF (zdt0 _) (by decide +kernel)
theorem zM_1068 {l : Launch} {D : va_G} {cI cZ cB cJ cR : ClassId} {ks ad : List Nat} {Psi : va_W → Prop} (hw : zworld ks ad zuq zNS Psi) (hm : zMan l D cI cZ cB cJ cR ks ad Psi) : zMet l D cI cZ cB cJ cR zKS ks ad Psi yX6_ring (.code yX6_ring cX6_ring 2 (some .int)) 5 zc_1068 :=
  zmet_of hw 5 (by decide) 4000 zk_1068 (by decide) (by decide) (fun X => ⟨zg_RX6 X, zp_RX6 X, zl1_RX6 X, zl2_RX6 X, nilz, (List.forall_mem_cons.mpr ⟨zq_RX6_234 X (zM_934 hw hm) (by decide) rfl rfl, (List.forall_mem_cons.mpr ⟨zq_RX6_270 X (zman_1021 hm) (by decide) rfl rfl, (List.forall_mem_cons.mpr ⟨zq_RX6_285 X (zman_1069 hm) (by decide) rfl rfl, nilz⟩)⟩)⟩)⟩)
set_option maxRecDepth 100000 in
theorem zk_1070 : zmeth zKS zuq zNS zm_1070 4000 = true := zqF (zdt0 _) (by decide +kernel)
theorem zM_1070 {l : Launch} {D : va_G} {cI cZ cB cJ cR : ClassId} {ks ad : List Nat} {Psi : va_W → Prop} (hw : zworld ks ad zuq zNS Psi) (hm : zMan l D cI cZ cB cJ cR ks ad Psi) : zMet l D cI cZ cB cJ cR zKS ks ad Psi yX6_rings (.code yX6_rings cX6_rings 3 (some .int)) 5 zc_1070 :=
  zmet_of hw 5 (by decide) 4000 zk_1070 (by decide) (by decide) (fun X => ⟨zg_RX6 X, zp_RX6 X, zl1_RX6 X, zl2_RX6 X, nilz, (List.forall_mem_cons.mpr ⟨zq_RX6_227 X (zM_1065 hw hm) (by decide) rfl rfl, (List.forall_mem_cons.mpr ⟨zq_RX6_270 X (zman_1021 hm) (by decide) rfl rfl, (List.forall_mem_cons.mpr ⟨zq_RX6_276 X (zM_927 hw hm) (by decide) rfl rfl, (List.forall_mem_cons.mpr ⟨zq_RX6_285 X (zman_1069 hm) (by decide) rfl rfl, nilz⟩)⟩)⟩)⟩)⟩)
set_option maxRecDepth 100000 in
theorem zk_1073_0 : zm1 zKS zuq zNS zm_1073 4000 zt_1073_0 = true := z1F (zdt_X6_rotaIs) (by decide +kernel)
set_option maxRecDepth 100000 in
theorem zk_1073_1 : zm1 zKS zuq zNS zm_1073 4000 zt_1073_1 = true := z1F (zdt_X6_rotaIs) (by decide +kernel)
set_option maxRecDepth 100000 in
theorem zk_1073_2 : zm1 zKS zuq zNS zm_1073 4000 zt_1073_2 = true := z1F (zdt_X6_rotaIs) (by decide +kernel)
set_option maxRecDepth 100000 in
theorem zk_1073_3 : zm1 zKS zuq zNS zm_1073 4000 zt_1073_3 = true := z1F (zdt_X6_rotaIs) (by decide +kernel)
set_option maxRecDepth 100000 in
theorem zk_1073_4 : zm1 zKS zuq zNS zm_1073 4000 zt_1073_4 = true := z1F (zdt_X6_rotaIs) (by decide +kernel)
set_option maxRecDepth 100000 in
theorem zk_1073_5 : zm1 zKS zuq zNS zm_1073 4000 zt_1073_5 = true := z1F (zdt_X6_rotaIs) (by decide +kernel)
set_option maxRecDepth 100000 in
theorem zk_1073_6 : zm1 zKS zuq zNS zm_1073 4000 zt_1073_6 = true := z1F (zdt_X6_rotaIs) (by decide +kernel)
set_option maxRecDepth 100000 in
theorem zk_1073_7 : zm1 zKS zuq zNS zm_1073 4000 zt_1073_7 = true := z1F (zdt_X6_rotaIs) (by decide +kernel)
set_option maxRecDepth 100000 in
theorem zk_1073_8 : zm1 zKS zuq zNS zm_1073 4000 zt_1073_8 = true := z1F (zdt_X6_rotaIs) (by decide +kernel)
set_option maxRecDepth 100000 in
theorem zk_1073_9 : zm1 zKS zuq zNS zm_1073 4000 zt_1073_9 = true := z1F (zdt_X6_rotaIs) (by decide +kernel)
set_option maxRecDepth 100000 in
theorem zk_1073_10 : zm1 zKS zuq zNS zm_1073 4000 zt_1073_10 = true := z1F (zdt_X6_rotaIs) (by decide +kernel)
set_option maxRecDepth 100000 in
theorem zk_1073_11 : zm1 zKS zuq zNS zm_1073 4000 zt_1073_11 = true := z1F (zdt_X6_rotaIs) (by decide +kernel)
set_option maxRecDepth 100000 in
theorem zk_1073_12 : zm1 zKS zuq zNS zm_1073 4000 zt_1073_12 = true := z1F (zdt_X6_rotaIs) (by decide +kernel)
set_option maxRecDepth 100000 in
theorem zk_1073_13 : zm1 zKS zuq zNS zm_1073 4000 zt_1073_13 = true := z1F (zdt_X6_rotaIs) (by decide +kernel)
set_option maxRecDepth 100000 in
theorem zk_1073_14 : zm1 zKS zuq zNS zm_1073 4000 zt_1073_14 = true := z1F (zdt_X6_rotaIs) (by decide +kernel)
set_option maxRecDepth 100000 in
theorem zk_1073_15 : zm1 zKS zuq zNS zm_1073 4000 zt_1073_15 = true := z1F (zdt_X6_rotaIs) (by decide +kernel)
set_option maxRecDepth 100000 in
theorem zk_1073_16 : zm1 zKS zuq zNS zm_1073 4000 zt_1073_16 = true := z1F (zdt_X6_rotaIs) (by decide +kernel)
set_option maxRecDepth 100000 in
theorem zk_1073_17 : zm1 zKS zuq zNS zm_1073 4000 zt_1073_17 = true := z1F (zdt_X6_rotaIs) (by decide +kernel)
set_option maxRecDepth 100000 in
theorem zk_1073_18 : zm1 zKS zuq zNS zm_1073 4000 zt_1073_18 = true := z1F (zdt_X6_rotaIs) (by decide +kernel)
set_option maxRecDepth 100000 in
theorem zk_1073_19 : zm1 zKS zuq zNS zm_1073 4000 zt_1073_19 = true := z1F (zdt_X6_rotaIs) (by decide +kernel)
set_option maxRecDepth 100000 in
theorem zk_1073_20 : zm1 zKS zuq zNS zm_1073 4000 zt_1073_20 = true := z1F (zdt_X6_rotaIs) (by decide +kernel)
set_option maxRecDepth 100000 in
theorem zk_1073_21 : zm1 zKS zuq zNS zm_1073 4000 zt_1073_21 = true := z1F (zdt_X6_rotaIs) (by decide +kernel)
set_option maxRecDepth 100000 in
theorem zk_1073_22 : zm1 zKS zuq zNS zm_1073 4000 zt_1073_22 = true := z1F (zdt_X6_rotaIs) (by decide +kernel)
set_option maxRecDepth 100000 in
theorem zk_1073_s : zm0 zKS zuq zNS zm_1073 4000 = true := z0F (zdt_X6_rotaIs) (by decide +kernel)
set_option maxRecDepth 100000 in
theorem zk_1073 : zmeth zKS zuq zNS zm_1073 4000 = true := zmeth_by zk_1073_s (List.forall_mem_cons.mpr ⟨zk_1073_0, (List.forall_mem_cons.mpr ⟨zk_1073_1, (List.forall_mem_cons.mpr ⟨zk_1073_2, (List.forall_mem_cons.mpr ⟨zk_1073_3, (List.forall_mem_cons.mpr ⟨zk_1073_4, (List.forall_mem_cons.mpr ⟨zk_1073_5, (List.forall_mem_cons.mpr ⟨zk_1073_6, (List.forall_mem_cons.mpr ⟨zk_1073_7, (List.forall_mem_cons.mpr ⟨zk_1073_8, (List.forall_mem_cons.mpr ⟨zk_1073_9, (List.forall_mem_cons.mpr ⟨zk_1073_10, (List.forall_mem_cons.mpr ⟨zk_1073_11, (List.forall_mem_cons.mpr ⟨zk_1073_12, (List.forall_mem_cons.mpr ⟨zk_1073_13, (List.forall_mem_cons.mpr ⟨zk_1073_14, (List.forall_mem_cons.mpr ⟨zk_1073_15, (List.forall_mem_cons.mpr ⟨zk_1073_16, (List.forall_mem_cons.mpr ⟨zk_1073_17, (List.forall_mem_cons.mpr ⟨zk_1073_18, (List.forall_mem_cons.mpr ⟨zk_1073_19, (List.forall_mem_cons.mpr ⟨zk_1073_20, (List.forall_mem_cons.mpr ⟨zk_1073_21, (List.forall_mem_cons.mpr ⟨zk_1073_22, nilz⟩)⟩)⟩)⟩)⟩)⟩)⟩)⟩)⟩)⟩)⟩)⟩)⟩)⟩)⟩)⟩)⟩)⟩)⟩)⟩)⟩)⟩)⟩)
set_option maxRecDepth 100000 in
theorem zM_1073 {l : Launch} {D : va_G} {cI cZ cB cJ cR : ClassId} {ks ad : List Nat} {Psi : va_W → Prop} (hw : zworld ks ad zuq zNS Psi) (hm : zMan l D cI cZ cB cJ cR ks ad Psi) : zMet l D cI cZ cB cJ cR zKS ks ad Psi yX6_rotaIs (.code yX6_rotaIs cX6_rotaIs 5 none) 5 zc_1073 :=
  zmet_of hw 5 (by decide) 4000 zk_1073 (by decide) (by decide) (fun X => ⟨zg_RX6 X, zp_RX6 X, zl1_RX6 X, zl2_RX6 X, nilz, (List.forall_mem_cons.mpr ⟨zq_RX6_227 X (zM_1065 hw hm) (by decide) rfl rfl, (List.forall_mem_cons.mpr ⟨zq_RX6_257 X (zM_929 hw hm) (by decide) rfl rfl, (List.forall_mem_cons.mpr ⟨zq_RX6_264 X (zman_1123 hm) (by decide) rfl, (List.forall_mem_cons.mpr ⟨zq_RX6_285 X (zman_1069 hm) (by decide) rfl rfl, nilz⟩)⟩)⟩)⟩)⟩)
