set_option maxRecDepth 100000 in
theorem zk_874 : zmeth zKS zuq zNS zm_874 4000 = true := zqF (zdt0 _) (by decide +kernel)
theorem zM_874 {l : Launch} {D : va_G} {cI cZ cB cJ cR : ClassId} {ks ad : List Nat} {Psi : va_W → Prop} (hw : zworld ks ad zuq zNS Psi) (hm : zMan l D cI cZ cB cJ cR ks ad Psi) : zMet l D cI cZ cB cJ cR zKS ks ad Psi yX6_errandLine (.code yX6_errandLine cX6_errandLine 4 none) 5 zc_874 :=
  zmet_of hw 5 (by decide) 4000 zk_874 (by decide) (by decide) (fun X => ⟨zg_RX6 X, zp_RX6 X, zl1_RX6 X, zl2_RX6 X, nilz, (List.forall_mem_cons.mpr ⟨zq_RX6_146 X (zM_1040 hw hm) (by decide) rfl rfl, (List.forall_mem_cons.mpr ⟨zq_RX6_153 X (zM_893 hw hm) (by decide) rfl rfl, (List.forall_mem_cons.mpr ⟨zq_RX6_153 X (zM_894 hw hm) (by decide) rfl rfl, (List.forall_mem_cons.mpr ⟨zq_RX6_153 X (zM_895 hw hm) (by decide) rfl rfl, (List.forall_mem_cons.mpr ⟨zq_RX6_159 X (zM_1057 hw hm) (by decide) rfl rfl, (List.forall_mem_cons.mpr ⟨zq_RX6_159 X (zM_1056 hw hm) (by decide) rfl rfl, (List.forall_mem_cons.mpr ⟨zq_RX6_170 X (zM_926 hw hm) (by decide) rfl rfl, nilz⟩)⟩)⟩)⟩)⟩)⟩)⟩)⟩)
set_option maxRecDepth 100000 in
theorem zk_882 : zmeth zKS zuq zNS zm_882 4000 = true := zqF (zdt0 _) (by decide +kernel)
theorem zM_882 {l : Launch} {D : va_G} {cI cZ cB cJ cR : ClassId} {ks ad : List Nat} {Psi : va_W → Prop} (hw : zworld ks ad zuq zNS Psi) (hm : zMan l D cI cZ cB cJ cR ks ad Psi) : zMet l D cI cZ cB cJ cR zKS ks ad Psi yX6_fineOf (.code yX6_fineOf cX6_fineOf 5 (some .int)) 5 zc_882 :=
  zmet_of hw 5 (by decide) 4000 zk_882 (by decide) (by decide) (fun X => ⟨zg_RX6 X, zp_RX6 X, zl1_RX6 X, zl2_RX6 X, nilz, (List.forall_mem_cons.mpr ⟨zq_RX6_231 X (zM_898 hw hm) (by decide) rfl rfl, (List.forall_mem_cons.mpr ⟨zq_RX6_257 X (zM_925 hw hm) (by decide) rfl rfl, nilz⟩)⟩)⟩)
set_option maxRecDepth 100000 in
theorem zk_884 : zmeth zKS zuq zNS zm_884 4000 = true := zqF (zdt0 _) (by decide +kernel)
theorem zM_884 {l : Launch} {D : va_G} {cI cZ cB cJ cR : ClassId} {ks ad : List Nat} {Psi : va_W → Prop} (hw : zworld ks ad zuq zNS Psi) (hm : zMan l D cI cZ cB cJ cR ks ad Psi) : zMet l D cI cZ cB cJ cR zKS ks ad Psi yX6_friend (.code yX6_friend cX6_friend 4 (some .int)) 5 zc_884 :=
  zmet_of hw 5 (by decide) 4000 zk_884 (by decide) (by decide) (fun X => ⟨zg_RX6 X, zp_RX6 X, zl1_RX6 X, zl2_RX6 X, nilz, (List.forall_mem_cons.mpr ⟨zq_RX6_227 X (zM_1061 hw hm) (by decide) rfl rfl, (List.forall_mem_cons.mpr ⟨zq_RX6_234 X (zM_930 hw hm) (by decide) rfl rfl, (List.forall_mem_cons.mpr ⟨zq_RX6_270 X (zman_1017 hm) (by decide) rfl rfl, (List.forall_mem_cons.mpr ⟨zq_RX6_316 X (zM_1059 hw hm) (by decide) rfl rfl, nilz⟩)⟩)⟩)⟩)⟩)
set_option maxRecDepth 100000 in
theorem zk_885 : zmeth zKS zuq zNS zm_885 4000 = true := zqF (zdt0 _) (by decide +kernel)
theorem zM_885 {l : Launch} {D : va_G} {cI cZ cB cJ cR : ClassId} {ks ad : List Nat} {Psi : va_W → Prop} (hw : zworld ks ad zuq zNS Psi) (hm : zMan l D cI cZ cB cJ cR ks ad Psi) : zMet l D cI cZ cB cJ cR zKS ks ad Psi yX6_gapOdds (.code yX6_gapOdds cX6_gapOdds 3 (some .int)) 5 zc_885 :=
  zmet_of hw 5 (by decide) 4000 zk_885 (by decide) (by decide) (fun X => ⟨zg_RX6 X, zp_RX6 X, zl1_RX6 X, zl2_RX6 X, nilz, (List.forall_mem_cons.mpr ⟨zq_RX6_257 X (zM_925 hw hm) (by decide) rfl rfl, nilz⟩)⟩)
set_option maxRecDepth 100000 in
theorem zk_887 : zmeth zKS zuq zNS zm_887 4000 = true := zqF (zdt0 _) (by decide +kernel)
theorem zM_887 {l : Launch} {D : va_G} {cI cZ cB cJ cR : ClassId} {ks ad : List Nat} {Psi : va_W → Prop} (hw : zworld ks ad zuq zNS Psi) (hm : zMan l D cI cZ cB cJ cR ks ad Psi) : zMet l D cI cZ cB cJ cR zKS ks ad Psi yX6_gapsBy (.code yX6_gapsBy cX6_gapsBy 5 (some .int)) 5 zc_887 :=
  zmet_of hw 5 (by decide) 4000 zk_887 (by decide) (by decide) (fun X => ⟨zg_RX6 X, zp_RX6 X, zl1_RX6 X, zl2_RX6 X, nilz, (List.forall_mem_cons.mpr ⟨zq_RX6_231 X (zM_898 hw hm) (by decide) rfl rfl, (List.forall_mem_cons.mpr ⟨zq_RX6_240 X (zM_921 hw hm) (by decide) rfl, (List.forall_mem_cons.mpr ⟨zq_RX6_257 X (zM_925 hw hm) (by decide) rfl rfl, nilz⟩)⟩)⟩)⟩)
set_option maxRecDepth 100000 in
theorem zk_888 : zmeth zKS zuq zNS zm_888 4000 = true := zqF (zdt0 _) (by decide +kernel)
theorem zM_888 {l : Launch} {D : va_G} {cI cZ cB cJ cR : ClassId} {ks ad : List Nat} {Psi : va_W → Prop} (hw : zworld ks ad zuq zNS Psi) (hm : zMan l D cI cZ cB cJ cR ks ad Psi) : zMet l D cI cZ cB cJ cR zKS ks ad Psi yX6_gapsOf (.code yX6_gapsOf cX6_gapsOf 4 (some .int)) 5 zc_888 :=
  zmet_of hw 5 (by decide) 4000 zk_888 (by decide) (by decide) (fun X => ⟨zg_RX6 X, zp_RX6 X, zl1_RX6 X, zl2_RX6 X, nilz, (List.forall_mem_cons.mpr ⟨zq_RX6_231 X (zM_898 hw hm) (by decide) rfl rfl, (List.forall_mem_cons.mpr ⟨zq_RX6_257 X (zM_925 hw hm) (by decide) rfl rfl, nilz⟩)⟩)⟩)
set_option maxRecDepth 100000 in
theorem zk_1022 : zmeth zKS zuq zNS zm_1022 4000 = true := zqF (zdt0 _) (by decide +kernel)
theorem zM_1022 {l : Launch} {D : va_G} {cI cZ cB cJ cR : ClassId} {ks ad : List Nat} {Psi : va_W → Prop} (hw : zworld ks ad zuq zNS Psi) (hm : zMan l D cI cZ cB cJ cR ks ad Psi) : zMet l D cI cZ cB cJ cR zKS ks ad Psi yX6_laysDays (.code yX6_laysDays cX6_laysDays 10 none) 5 zc_1022 :=
  zmet_of hw 5 (by decide) 4000 zk_1022 (by decide) (by decide) (fun X => ⟨zg_RX6 X, zp_RX6 X, zl1_RX6 X, zl2_RX6 X, nilz, (List.forall_mem_cons.mpr ⟨zq_RX6_231 X (zM_898 hw hm) (by decide) rfl rfl, (List.forall_mem_cons.mpr ⟨zq_RX6_237 X (zM_878 hw hm) (by decide) rfl, (List.forall_mem_cons.mpr ⟨zq_RX6_244 X (zM_1063 hw hm) (by decide) rfl rfl, (List.forall_mem_cons.mpr ⟨zq_RX6_247 X (zM_1117 hw hm) (by decide) rfl rfl, (List.forall_mem_cons.mpr ⟨zq_RX6_270 X (zman_1017 hm) (by decide) rfl rfl, (List.forall_mem_cons.mpr ⟨zq_RX6_331 X (zM_1035 hw hm) (by decide) rfl rfl, nilz⟩)⟩)⟩)⟩)⟩)⟩)⟩)
set_option maxRecDepth 100000 in
theorem zk_1033 : zmeth zKS zuq zNS zm_1033 4000 = true := zqF (zdt0 _) (by decide +kernel)
theorem zM_1033 {l : Launch} {D : va_G} {cI cZ cB cJ cR : ClassId} {ks ad : List Nat} {Psi : va_W → Prop} (hw : zworld ks ad zuq zNS Psi) (hm : zMan l D cI cZ cB cJ cR ks ad Psi) : zMet l D cI cZ cB cJ cR zKS ks ad Psi yX6_longest (.code yX6_longest cX6_longest 5 (some .int)) 5 zc_1033 :=
  zmet_of hw 5 (by decide) 4000 zk_1033 (by decide) (by decide) (fun X => ⟨zg_RX6 X, zp_RX6 X, zl1_RX6 X, zl2_RX6 X, nilz, (List.forall_mem_cons.mpr ⟨zq_RX6_231 X (zM_898 hw hm) (by decide) rfl rfl, (List.forall_mem_cons.mpr ⟨zq_RX6_234 X (zM_930 hw hm) (by decide) rfl rfl, (List.forall_mem_cons.mpr ⟨zq_RX6_257 X (zM_925 hw hm) (by decide) rfl rfl, (List.forall_mem_cons.mpr ⟨zq_RX6_270 X (zman_1017 hm) (by decide) rfl rfl, nilz⟩)⟩)⟩)⟩)⟩)
set_option maxRecDepth 100000 in
theorem zk_1036 : zmeth zKS zuq zNS zm_1036 4000 = true := zqF (zdt0 _) (by decide +kernel)
theorem zM_1036 {l : Launch} {D : va_G} {cI cZ cB cJ cR : ClassId} {ks ad : List Nat} {Psi : va_W → Prop} (hw : zworld ks ad zuq zNS Psi) (hm : zMan l D cI cZ cB cJ cR ks ad Psi) : zMet l D cI cZ cB cJ cR zKS ks ad Psi yX6_move (.code yX6_move cX6_move 4 (some .int)) 5 zc_1036 :=
  zmet_of hw 5 (by decide) 4000 zk_1036 (by decide) (by decide) (fun X => ⟨zg_RX6 X, zp_RX6 X, zl1_RX6 X, zl2_RX6 X, nilz, (List.forall_mem_cons.mpr ⟨zq_RX6_234 X (zM_930 hw hm) (by decide) rfl rfl, (List.forall_mem_cons.mpr ⟨zq_RX6_244 X (zM_1063 hw hm) (by decide) rfl rfl, (List.forall_mem_cons.mpr ⟨zq_RX6_267 X (zM_928 hw hm) (by decide) rfl rfl, (List.forall_mem_cons.mpr ⟨zq_RX6_270 X (zman_1017 hm) (by decide) rfl rfl, (List.forall_mem_cons.mpr ⟨zq_RX6_322 X (zM_931 hw hm) (by decide) rfl rfl, (List.forall_mem_cons.mpr ⟨zq_RX6_414 X (zM_924 hw hm) (by decide) rfl rfl, (List.forall_mem_cons.mpr ⟨zq_RX6_417 X (zman_827 hm) (by decide) rfl rfl, nilz⟩)⟩)⟩)⟩)⟩)⟩)⟩)⟩)
set_option maxRecDepth 100000 in
theorem zk_1037 : zmeth zKS zuq zNS zm_1037 4000 = true := zqF (zdt0 _) (by decide +kernel)
theorem zM_1037 {l : Launch} {D : va_G} {cI cZ cB cJ cR : ClassId} {ks ad : List Nat} {Psi : va_W → Prop} (hw : zworld ks ad zuq zNS Psi) (hm : zMan l D cI cZ cB cJ cR ks ad Psi) : zMet l D cI cZ cB cJ cR zKS ks ad Psi yX6_mutual (.code yX6_mutual cX6_mutual 3 (some .int)) 5 zc_1037 :=
  zmet_of hw 5 (by decide) 4000 zk_1037 (by decide) (by decide) (fun X => ⟨zg_RX6 X, zp_RX6 X, zl1_RX6 X, zl2_RX6 X, nilz, (List.forall_mem_cons.mpr ⟨zq_RX6_227 X (zM_1061 hw hm) (by decide) rfl rfl, (List.forall_mem_cons.mpr ⟨zq_RX6_270 X (zman_1017 hm) (by decide) rfl rfl, (List.forall_mem_cons.mpr ⟨zq_RX6_276 X (zM_923 hw hm) (by decide) rfl rfl, nilz⟩)⟩)⟩)⟩)
set_option maxRecDepth 100000 in
theorem zk_1058 : zmeth zKS zuq zNS zm_1058 4000 = true := zqF (zdt0 _) (by decide +kernel)
theorem zM_1058 {l : Launch} {D : va_G} {cI cZ cB cJ cR : ClassId} {ks ad : List Nat} {Psi : va_W → Prop} (hw : zworld ks ad zuq zNS Psi) (hm : zMan l D cI cZ cB cJ cR ks ad Psi) : zMet l D cI cZ cB cJ cR zKS ks ad Psi yX6_often (.code yX6_often cX6_often 3 (some .int)) 5 zc_1058 :=
  zmet_of hw 5 (by decide) 4000 zk_1058 (by decide) (by decide) (fun X => ⟨zg_RX6 X, zp_RX6 X, zl1_RX6 X, zl2_RX6 X, nilz, (List.forall_mem_cons.mpr ⟨zq_RX6_270 X (zman_1017 hm) (by decide) rfl rfl, (List.forall_mem_cons.mpr ⟨zq_RX6_316 X (zM_1059 hw hm) (by decide) rfl rfl, (List.forall_mem_cons.mpr ⟨zq_RX6_319 X (zM_832 hw hm) (by decide) rfl rfl, nilz⟩)⟩)⟩)⟩)
set_option maxRecDepth 100000 in
theorem zk_1062_0 : zm1 zKS zuq zNS zm_1062 4000 zt_1062_0 = true := z1F (zdt_X6_personLine) (by decide +kernel)
set_option maxRecDepth 100000 in
theorem zk_1062_1 : zm1 zKS zuq zNS zm_1062 4000 zt_1062_1 = true := z1F (zdt_X6_personLine) (by decide +kernel)
set_option maxRecDepth 100000 in
theorem zk_1062_2 : zm1 zKS zuq zNS zm_1062 4000 zt_1062_2 = true := z1F (zdt_X6_personLine) (by decide +kernel)
set_option maxRecDepth 100000 in
theorem zk_1062_3 : zm1 zKS zuq zNS zm_1062 4000 zt_1062_3 = true := z1F (zdt_X6_personLine) (by decide +kernel)
set_option maxRecDepth 100000 in
theorem zk_1062_4 : zm1 zKS zuq zNS zm_1062 4000 zt_1062_4 = true := z1F (zdt_X6_personLine) (by decide +kernel)
set_option maxRecDepth 100000 in
theorem zk_1062_5 : zm1 zKS zuq zNS zm_1062 4000 zt_1062_5 = true := z1F (zdt_X6_personLine) (by decide +kernel)
set_option maxRecDepth 100000 in
theorem zk_1062_6 : zm1 zKS zuq zNS zm_1062 4000 zt_1062_6 = true := z1F (zdt_X6_personLine) (by decide +kernel)
set_option maxRecDepth 100000 in
theorem zk_1062_7 : zm1 zKS zuq zNS zm_1062 4000 zt_1062_7 = true := z1F (zdt_X6_personLine) (by decide +kernel)
set_option maxRecDepth 100000 in
theorem zk_1062_8 : zm1 zKS zuq zNS zm_1062 4000 zt_1062_8 = true := z1F (zdt_X6_personLine) (by decide +kernel)
set_option maxRecDepth 100000 in
theorem zk_1062_9 : zm1 zKS zuq zNS zm_1062 4000 zt_1062_9 = true := z1F (zdt_X6_personLine) (by decide +kernel)
set_option maxRecDepth 100000 in
theorem zk_1062_10 : zm1 zKS zuq zNS zm_1062 4000 zt_1062_10 = true := z1F (zdt_X6_personLine) (by decide +kernel)
set_option maxRecDepth 100000 in
theorem zk_1062_11 : zm1 zKS zuq zNS zm_1062 4000 zt_1062_11 = true := z1F (zdt_X6_personLine) (by decide +kernel)
set_option maxRecDepth 100000 in
theorem zk_1062_12 : zm1 zKS zuq zNS zm_1062 4000 zt_1062_12 = true := z1F (zdt_X6_personLine) (by decide +kernel)
set_option maxRecDepth 100000 in
theorem zk_1062_13 : zm1 zKS zuq zNS zm_1062 4000 zt_1062_13 = true := z1F (zdt_X6_personLine) (by decide +kernel)
set_option maxRecDepth 100000 in
theorem zk_1062_s : zm0 zKS zuq zNS zm_1062 4000 = true := z0F (zdt_X6_personLine) (by decide +kernel)
set_option maxRecDepth 100000 in
theorem zk_1062 : zmeth zKS zuq zNS zm_1062 4000 = true := zmeth_by zk_1062_s (List.forall_mem_cons.mpr ⟨zk_1062_0, (List.forall_mem_cons.mpr ⟨zk_1062_1, (List.forall_mem_cons.mpr ⟨zk_1062_2, (List.forall_mem_cons.mpr ⟨zk_1062_3, (List.forall_mem_cons.mpr ⟨zk_1062_4, (List.forall_mem_cons.mpr ⟨zk_1062_5, (List.forall_mem_cons.mpr ⟨zk_1062_6, (List.forall_mem_cons.mpr ⟨zk_1062_7, (List.forall_mem_cons.mpr ⟨zk_1062_8, (List.forall_mem_cons.mpr ⟨zk_1062_9, (List.forall_mem_cons.mpr ⟨zk_1062_10, (List.forall_mem_cons.mpr ⟨zk_1062_11, (List.forall_mem_cons.mpr ⟨zk_1062_12, (List.forall_mem_cons.mpr ⟨zk_1062_13, nilz⟩)⟩)⟩)⟩)⟩)⟩)⟩)⟩)⟩)⟩)⟩)⟩)⟩)⟩)
set_option maxRecDepth 100000 in
theorem zM_1062 {l : Launch} {D : va_G} {cI cZ cB cJ cR : ClassId} {ks ad : List Nat} {Psi : va_W → Prop} (hw : zworld ks ad zuq zNS Psi) (hm : zMan l D cI cZ cB cJ cR ks ad Psi) : zMet l D cI cZ cB cJ cR zKS ks ad Psi yX6_personLine (.code yX6_personLine cX6_personLine 4 none) 5 zc_1062 :=
  zmet_of hw 5 (by decide) 4000 zk_1062 (by decide) (by decide) (fun X => ⟨zg_RX6 X, zp_RX6 X, zl1_RX6 X, zl2_RX6 X, nilz, (List.forall_mem_cons.mpr ⟨zq_RX6_136 X (zM_1126 hw hm) (by decide) rfl rfl, (List.forall_mem_cons.mpr ⟨zq_RX6_139 X (zM_876 hw hm) (by decide) rfl rfl, (List.forall_mem_cons.mpr ⟨zq_RX6_146 X (zM_1044 hw hm) (by decide) rfl rfl, (List.forall_mem_cons.mpr ⟨zq_RX6_153 X (zM_893 hw hm) (by decide) rfl rfl, (List.forall_mem_cons.mpr ⟨zq_RX6_153 X (zM_895 hw hm) (by decide) rfl rfl, (List.forall_mem_cons.mpr ⟨zq_RX6_159 X (zM_1056 hw hm) (by decide) rfl rfl, (List.forall_mem_cons.mpr ⟨zq_RX6_164 X (zM_1148 hw hm) (by decide) rfl rfl, (List.forall_mem_cons.mpr ⟨zq_RX6_164 X (zM_1149 hw hm) (by decide) rfl rfl, (List.forall_mem_cons.mpr ⟨zq_RX6_164 X (zM_1150 hw hm) (by decide) rfl rfl, (List.forall_mem_cons.mpr ⟨zq_RX6_164 X (zM_1151 hw hm) (by decide) rfl rfl, (List.forall_mem_cons.mpr ⟨zq_RX6_164 X (zM_1152 hw hm) (by decide) rfl rfl, (List.forall_mem_cons.mpr ⟨zq_RX6_164 X (zM_1153 hw hm) (by decide) rfl rfl, (List.forall_mem_cons.mpr ⟨zq_RX6_164 X (zM_1154 hw hm) (by decide) rfl rfl, nilz⟩)⟩)⟩)⟩)⟩)⟩)⟩)⟩)⟩)⟩)⟩)⟩)⟩)⟩)
set_option maxRecDepth 100000 in
theorem zk_1064 : zmeth zKS zuq zNS zm_1064 4000 = true := zqF (zdt0 _) (by decide +kernel)
theorem zM_1064 {l : Launch} {D : va_G} {cI cZ cB cJ cR : ClassId} {ks ad : List Nat} {Psi : va_W → Prop} (hw : zworld ks ad zuq zNS Psi) (hm : zMan l D cI cZ cB cJ cR ks ad Psi) : zMet l D cI cZ cB cJ cR zKS ks ad Psi yX6_ring (.code yX6_ring cX6_ring 2 (some .int)) 5 zc_1064 :=
  zmet_of hw 5 (by decide) 4000 zk_1064 (by decide) (by decide) (fun X => ⟨zg_RX6 X, zp_RX6 X, zl1_RX6 X, zl2_RX6 X, nilz, (List.forall_mem_cons.mpr ⟨zq_RX6_234 X (zM_930 hw hm) (by decide) rfl rfl, (List.forall_mem_cons.mpr ⟨zq_RX6_270 X (zman_1017 hm) (by decide) rfl rfl, (List.forall_mem_cons.mpr ⟨zq_RX6_285 X (zman_1065 hm) (by decide) rfl rfl, nilz⟩)⟩)⟩)⟩)
set_option maxRecDepth 100000 in
theorem zk_1066 : zmeth zKS zuq zNS zm_1066 4000 = true := zqF (zdt0 _) (by decide +kernel)
theorem zM_1066 {l : Launch} {D : va_G} {cI cZ cB cJ cR : ClassId} {ks ad : List Nat} {Psi : va_W → Prop} (hw : zworld ks ad zuq zNS Psi) (hm : zMan l D cI cZ cB cJ cR ks ad Psi) : zMet l D cI cZ cB cJ cR zKS ks ad Psi yX6_rings (.code yX6_rings cX6_rings 3 (some .int)) 5 zc_1066 :=
  zmet_of hw 5 (by decide) 4000 zk_1066 (by decide) (by decide) (fun X => ⟨zg_RX6 X, zp_RX6 X, zl1_RX6 X, zl2_RX6 X, nilz, (List.forall_mem_cons.mpr ⟨zq_RX6_227 X (zM_1061 hw hm) (by decide) rfl rfl, (List.forall_mem_cons.mpr ⟨zq_RX6_270 X (zman_1017 hm) (by decide) rfl rfl, (List.forall_mem_cons.mpr ⟨zq_RX6_276 X (zM_923 hw hm) (by decide) rfl rfl, (List.forall_mem_cons.mpr ⟨zq_RX6_285 X (zman_1065 hm) (by decide) rfl rfl, nilz⟩)⟩)⟩)⟩)⟩)
set_option maxRecDepth 100000 in
theorem zk_1069_0 : zm1 zKS zuq zNS zm_1069 4000 zt_1069_0 = true := z1F (zdt_X6_rotaIs) (by decide +kernel)
set_option maxRecDepth 100000 in
theorem zk_1069_1 : zm1 zKS zuq zNS zm_1069 4000 zt_1069_1 = true := z1F (zdt_X6_rotaIs) (by decide +kernel)
set_option maxRecDepth 100000 in
theorem zk_1069_2 : zm1 zKS zuq zNS zm_1069 4000 zt_1069_2 = true := z1F (zdt_X6_rotaIs) (by decide +kernel)
set_option maxRecDepth 100000 in
theorem zk_1069_3 : zm1 zKS zuq zNS zm_1069 4000 zt_1069_3 = true := z1F (zdt_X6_rotaIs) (by decide +kernel)
set_option maxRecDepth 100000 in
theorem zk_1069_4 : zm1 zKS zuq zNS zm_1069 4000 zt_1069_4 = true := z1F (zdt_X6_rotaIs) (by decide +kernel)
set_option maxRecDepth 100000 in
theorem zk_1069_5 : zm1 zKS zuq zNS zm_1069 4000 zt_1069_5 = true := z1F (zdt_X6_rotaIs) (by decide +kernel)
set_option maxRecDepth 100000 in
theorem zk_1069_6 : zm1 zKS zuq zNS zm_1069 4000 zt_1069_6 = true := z1F (zdt_X6_rotaIs) (by decide +kernel)
set_option maxRecDepth 100000 in
theorem zk_1069_7 : zm1 zKS zuq zNS zm_1069 4000 zt_1069_7 = true := z1F (zdt_X6_rotaIs) (by decide +kernel)
set_option maxRecDepth 100000 in
theorem zk_1069_8 : zm1 zKS zuq zNS zm_1069 4000 zt_1069_8 = true := z1F (zdt_X6_rotaIs) (by decide +kernel)
set_option maxRecDepth 100000 in
theorem zk_1069_9 : zm1 zKS zuq zNS zm_1069 4000 zt_1069_9 = true := z1F (zdt_X6_rotaIs) (by decide +kernel)
set_option maxRecDepth 100000 in
theorem zk_1069_10 : zm1 zKS zuq zNS zm_1069 4000 zt_1069_10 = true := z1F (zdt_X6_rotaIs) (by decide +kernel)
set_option maxRecDepth 100000 in
theorem zk_1069_11 : zm1 zKS zuq zNS zm_1069 4000 zt_1069_11 = true := z1F (zdt_X6_rotaIs) (by decide +kernel)
set_option maxRecDepth 100000 in
theorem zk_1069_12 : zm1 zKS zuq zNS zm_1069 4000 zt_1069_12 = true := z1F (zdt_X6_rotaIs) (by decide +kernel)
set_option maxRecDepth 100000 in
theorem zk_1069_13 : zm1 zKS zuq zNS zm_1069 4000 zt_1069_13 = true := z1F (zdt_X6_rotaIs) (by decide +kernel)
set_option maxRecDepth 100000 in
theorem zk_1069_14 : zm1 zKS zuq zNS zm_1069 4000 zt_1069_14 = true := z1F (zdt_X6_rotaIs) (by decide +kernel)
set_option maxRecDepth 100000 in
theorem zk_1069_15 : zm1 zKS zuq zNS zm_1069 4000 zt_1069_15 = true := z1F (zdt_X6_rotaIs) (by decide +kernel)
set_option maxRecDepth 100000 in
theorem zk_1069_16 : zm1 zKS zuq zNS zm_1069 4000 zt_1069_16 = true := z1F (zdt_X6_rotaIs) (by decide +kernel)
set_option maxRecDepth 100000 in
theorem zk_1069_17 : zm1 zKS zuq zNS zm_1069 4000 zt_1069_17 = true := z1F (zdt_X6_rotaIs) (by decide +kernel)
set_option maxRecDepth 100000 in
theorem zk_1069_18 : zm1 zKS zuq zNS zm_1069 4000 zt_1069_18 = true := z1F (zdt_X6_rotaIs) (by decide +kernel)
set_option maxRecDepth 100000 in
theorem zk_1069_19 : zm1 zKS zuq zNS zm_1069 4000 zt_1069_19 = true := z1F (zdt_X6_rotaIs) (by decide +kernel)
set_option maxRecDepth 100000 in
theorem zk_1069_20 : zm1 zKS zuq zNS zm_1069 4000 zt_1069_20 = true := z1F (zdt_X6_rotaIs) (by decide +kernel)
set_option maxRecDepth 100000 in
theorem zk_1069_21 : zm1 zKS zuq zNS zm_1069 4000 zt_1069_21 = true := z1F (zdt_X6_rotaIs) (by decide +kernel)
set_option maxRecDepth 100000 in
theorem zk_1069_22 : zm1 zKS zuq zNS zm_1069 4000 zt_1069_22 = true := z1F (zdt_X6_rotaIs) (by decide +kernel)
set_option maxRecDepth 100000 in
theorem zk_1069_s : zm0 zKS zuq zNS zm_1069 4000 = true := z0F (zdt_X6_rotaIs) (by decide +kernel)
set_option maxRecDepth 100000 in
theorem zk_1069 : zmeth zKS zuq zNS zm_1069 4000 = true := zmeth_by zk_1069_s (List.forall_mem_cons.mpr ⟨zk_1069_0, (List.forall_mem_cons.mpr ⟨zk_1069_1, (List.forall_mem_cons.mpr ⟨zk_1069_2, (List.forall_mem_cons.mpr ⟨zk_1069_3, (List.forall_mem_cons.mpr ⟨zk_1069_4, (List.forall_mem_cons.mpr ⟨zk_1069_5, (List.forall_mem_cons.mpr ⟨zk_1069_6, (List.forall_mem_cons.mpr ⟨zk_1069_7, (List.forall_mem_cons.mpr ⟨zk_1069_8, (List.forall_mem_cons.mpr ⟨zk_1069_9, (List.forall_mem_cons.mpr ⟨zk_1069_10, (List.forall_mem_cons.mpr ⟨zk_1069_11, (List.forall_mem_cons.mpr ⟨zk_1069_12, (List.forall_mem_cons.mpr ⟨zk_1069_13, (List.forall_mem_cons.mpr ⟨zk_1069_14, (List.forall_mem_cons.mpr ⟨zk_1069_15, (List.forall_mem_cons.mpr ⟨zk_1069_16, (List.forall_mem_cons.mpr ⟨zk_1069_17, (List.forall_mem_cons.mpr ⟨zk_1069_18, (List.forall_mem_cons.mpr ⟨zk_1069_19, (List.forall_mem_cons.mpr ⟨zk_1069_20, (List.forall_mem_cons.mpr ⟨zk_1069_21, (List.forall_mem_cons.mpr ⟨zk_1069_22, nilz⟩)⟩)⟩)⟩)⟩)⟩)⟩)⟩)⟩)⟩)⟩)⟩)⟩)⟩)⟩)⟩)⟩)⟩)⟩)⟩)⟩)⟩)⟩)
set_option maxRecDepth 100000 in
theorem zM_1069 {l : Launch} {D : va_G} {cI cZ cB cJ cR : ClassId} {ks ad : List Nat} {Psi : va_W → Prop} (hw : zworld ks ad zuq zNS Psi) (hm : zMan l D cI cZ cB cJ cR ks ad Psi) : zMet l D cI cZ cB cJ cR zKS ks ad Psi yX6_rotaIs (.code yX6_rotaIs cX6_rotaIs 5 none) 5 zc_1069 :=
  zmet_of hw 5 (by decide) 4000 zk_1069 (by decide) (by decide) (fun X => ⟨zg_RX6 X, zp_RX6 X, zl1_RX6 X, zl2_RX6 X, nilz, (List.forall_mem_cons.mpr ⟨zq_RX6_227 X (zM_1061 hw hm) (by decide) rfl rfl, (List.forall_mem_cons.mpr ⟨zq_RX6_257 X (zM_925 hw hm) (by decide) rfl rfl, (List.forall_mem_cons.mpr ⟨zq_RX6_264 X (zman_1119 hm) (by decide) rfl, (List.forall_mem_cons.mpr ⟨zq_RX6_285 X (zman_1065 hm) (by decide) rfl rfl, nilz⟩)⟩)⟩)⟩)⟩)
