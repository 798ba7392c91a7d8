set_option maxRecDepth 100000 in
theorem zk_1118 : zmeth zKS zuq zNS zm_1118 4000 = true := zqF (zdt0 _) (by decide +kernel)
theorem zM_1118 {l : Launch} {D : va_G} {cI cZ cB cJ cR : ClassId} {ks ad : List Nat} {Psi : va_W → Prop} (hw : zworld ks ad zuq zNS Psi) (hm : zMan l D cI cZ cB cJ cR ks ad Psi) : zMet l D cI cZ cB cJ cR zKS ks ad Psi yX6_sight (.code yX6_sight cX6_sight 5 (some .int)) 5 zc_1118 :=
  zmet_of hw 5 (by decide) 4000 zk_1118 (by decide) (by decide) (fun X => ⟨zg_RX6 X, zp_RX6 X, zl1_RX6 X, zl2_RX6 X, nilz, (List.forall_mem_cons.mpr ⟨zq_RX6_227 X (zM_1061 hw hm) (by decide) rfl rfl, (List.forall_mem_cons.mpr ⟨zq_RX6_234 X (zM_930 hw hm) (by decide) rfl rfl, (List.forall_mem_cons.mpr ⟨zq_RX6_250 X (zM_933 hw hm) (by decide) rfl rfl, (List.forall_mem_cons.mpr ⟨zq_RX6_267 X (zM_928 hw hm) (by decide) rfl rfl, (List.forall_mem_cons.mpr ⟨zq_RX6_270 X (zman_1017 hm) (by decide) rfl rfl, nilz⟩)⟩)⟩)⟩)⟩)⟩)
set_option maxRecDepth 100000 in
theorem zk_1122 : zmeth zKS zuq zNS zm_1122 4000 = true := zqF (zdt0 _) (by decide +kernel)
theorem zM_1122 {l : Launch} {D : va_G} {cI cZ cB cJ cR : ClassId} {ks ad : List Nat} {Psi : va_W → Prop} (hw : zworld ks ad zuq zNS Psi) (hm : zMan l D cI cZ cB cJ cR ks ad Psi) : zMet l D cI cZ cB cJ cR zKS ks ad Psi yX6_swear (.code yX6_swear cX6_swear 3 (some .int)) 5 zc_1122 :=
  zmet_of hw 5 (by decide) 4000 zk_1122 (by decide) (by decide) (fun X => ⟨zg_RX6 X, zp_RX6 X, zl1_RX6 X, zl2_RX6 X, nilz, (List.forall_mem_cons.mpr ⟨zq_RX6_234 X (zM_930 hw hm) (by decide) rfl rfl, (List.forall_mem_cons.mpr ⟨zq_RX6_270 X (zman_1017 hm) (by decide) rfl rfl, (List.forall_mem_cons.mpr ⟨zq_RX6_414 X (zM_924 hw hm) (by decide) rfl rfl, (List.forall_mem_cons.mpr ⟨zq_RX6_417 X (zman_826 hm) (by decide) rfl rfl, nilz⟩)⟩)⟩)⟩)⟩)
set_option maxRecDepth 100000 in
theorem zk_1123 : zmeth zKS zuq zNS zm_1123 4000 = true := zqF (zdt0 _) (by decide +kernel)
theorem zM_1123 {l : Launch} {D : va_G} {cI cZ cB cJ cR : ClassId} {ks ad : List Nat} {Psi : va_W → Prop} (hw : zworld ks ad zuq zNS Psi) (hm : zMan l D cI cZ cB cJ cR ks ad Psi) : zMet l D cI cZ cB cJ cR zKS ks ad Psi yX6_swears (.code yX6_swears cX6_swears 2 (some .int)) 5 zc_1123 :=
  zmet_of hw 5 (by decide) 4000 zk_1123 (by decide) (by decide) (fun X => ⟨zg_RX6 X, zp_RX6 X, zl1_RX6 X, zl2_RX6 X, nilz, (List.forall_mem_cons.mpr ⟨zq_RX6_234 X (zM_930 hw hm) (by decide) rfl rfl, (List.forall_mem_cons.mpr ⟨zq_RX6_270 X (zman_1017 hm) (by decide) rfl rfl, nilz⟩)⟩)⟩)
set_option maxRecDepth 100000 in
theorem zk_1124 : zmeth zKS zuq zNS zm_1124 4000 = true := zqF (zdt0 _) (by decide +kernel)
theorem zM_1124 {l : Launch} {D : va_G} {cI cZ cB cJ cR : ClassId} {ks ad : List Nat} {Psi : va_W → Prop} (hw : zworld ks ad zuq zNS Psi) (hm : zMan l D cI cZ cB cJ cR ks ad Psi) : zMet l D cI cZ cB cJ cR zKS ks ad Psi yX6_sworn (.code yX6_sworn cX6_sworn 2 (some .int)) 5 zc_1124 :=
  zmet_of hw 5 (by decide) 4000 zk_1124 (by decide) (by decide) (fun X => ⟨zg_RX6 X, zp_RX6 X, zl1_RX6 X, zl2_RX6 X, nilz, (List.forall_mem_cons.mpr ⟨zq_RX6_234 X (zM_930 hw hm) (by decide) rfl rfl, (List.forall_mem_cons.mpr ⟨zq_RX6_270 X (zman_1017 hm) (by decide) rfl rfl, (List.forall_mem_cons.mpr ⟨zq_RX6_273 X (zM_1125 hw hm) (by decide) rfl rfl, nilz⟩)⟩)⟩)⟩)
set_option maxRecDepth 100000 in
theorem zk_1160 : zmeth zKS zuq zNS zm_1160 4000 = true := zqF (zdt0 _) (by decide +kernel)
theorem zM_1160 {l : Launch} {D : va_G} {cI cZ cB cJ cR : ClassId} {ks ad : List Nat} {Psi : va_W → Prop} (hw : zworld ks ad zuq zNS Psi) (hm : zMan l D cI cZ cB cJ cR ks ad Psi) : zMet l D cI cZ cB cJ cR zKS ks ad Psi yX6_unsworn (.code yX6_unsworn cX6_unsworn 3 (some .int)) 5 zc_1160 :=
  zmet_of hw 5 (by decide) 4000 zk_1160 (by decide) (by decide) (fun X => ⟨zg_RX6 X, zp_RX6 X, zl1_RX6 X, zl2_RX6 X, nilz, (List.forall_mem_cons.mpr ⟨zq_RX6_227 X (zM_1061 hw hm) (by decide) rfl rfl, (List.forall_mem_cons.mpr ⟨zq_RX6_270 X (zman_1017 hm) (by decide) rfl rfl, (List.forall_mem_cons.mpr ⟨zq_RX6_273 X (zM_1125 hw hm) (by decide) rfl rfl, (List.forall_mem_cons.mpr ⟨zq_RX6_276 X (zM_923 hw hm) (by decide) rfl rfl, nilz⟩)⟩)⟩)⟩)⟩)
set_option maxRecDepth 100000 in
theorem zk_1168_0 : zm1 zKS zuq zNS zm_1168 4000 zt_1168_0 = true := z1F (zdt_X6_whyNotOaths) (by decide +kernel)
set_option maxRecDepth 100000 in
theorem zk_1168_1 : zm1 zKS zuq zNS zm_1168 4000 zt_1168_1 = true := z1F (zdt_X6_whyNotOaths) (by decide +kernel)
set_option maxRecDepth 100000 in
theorem zk_1168_2 : zm1 zKS zuq zNS zm_1168 4000 zt_1168_2 = true := z1F (zdt_X6_whyNotOaths) (by decide +kernel)
set_option maxRecDepth 100000 in
theorem zk_1168_3 : zm1 zKS zuq zNS zm_1168 4000 zt_1168_3 = true := z1F (zdt_X6_whyNotOaths) (by decide +kernel)
set_option maxRecDepth 100000 in
theorem zk_1168_4 : zm1 zKS zuq zNS zm_1168 4000 zt_1168_4 = true := z1F (zdt_X6_whyNotOaths) (by decide +kernel)
set_option maxRecDepth 100000 in
theorem zk_1168_5 : zm1 zKS zuq zNS zm_1168 4000 zt_1168_5 = true := z1F (zdt_X6_whyNotOaths) (by decide +kernel)
set_option maxRecDepth 100000 in
theorem zk_1168_6 : zm1 zKS zuq zNS zm_1168 4000 zt_1168_6 = true := z1F (zdt_X6_whyNotOaths) (by decide +kernel)
set_option maxRecDepth 100000 in
theorem zk_1168_7 : zm1 zKS zuq zNS zm_1168 4000 zt_1168_7 = true := z1F (zdt_X6_whyNotOaths) (by decide +kernel)
set_option maxRecDepth 100000 in
theorem zk_1168_8 : zm1 zKS zuq zNS zm_1168 4000 zt_1168_8 = true := z1F (zdt_X6_whyNotOaths) (by decide +kernel)
set_option maxRecDepth 100000 in
theorem zk_1168_9 : zm1 zKS zuq zNS zm_1168 4000 zt_1168_9 = true := z1F (zdt_X6_whyNotOaths) (by decide +kernel)
set_option maxRecDepth 100000 in
theorem zk_1168_10 : zm1 zKS zuq zNS zm_1168 4000 zt_1168_10 = true := z1F (zdt_X6_whyNotOaths) (by decide +kernel)
set_option maxRecDepth 100000 in
theorem zk_1168_11 : zm1 zKS zuq zNS zm_1168 4000 zt_1168_11 = true := z1F (zdt_X6_whyNotOaths) (by decide +kernel)
set_option maxRecDepth 100000 in
theorem zk_1168_12 : zm1 zKS zuq zNS zm_1168 4000 zt_1168_12 = true := z1F (zdt_X6_whyNotOaths) (by decide +kernel)
set_option maxRecDepth 100000 in
theorem zk_1168_13 : zm1 zKS zuq zNS zm_1168 4000 zt_1168_13 = true := z1F (zdt_X6_whyNotOaths) (by decide +kernel)
set_option maxRecDepth 100000 in
theorem zk_1168_14 : zm1 zKS zuq zNS zm_1168 4000 zt_1168_14 = true := z1F (zdt_X6_whyNotOaths) (by decide +kernel)
set_option maxRecDepth 100000 in
theorem zk_1168_15 : zm1 zKS zuq zNS zm_1168 4000 zt_1168_15 = true := z1F (zdt_X6_whyNotOaths) (by decide +kernel)
set_option maxRecDepth 100000 in
theorem zk_1168_16 : zm1 zKS zuq zNS zm_1168 4000 zt_1168_16 = true := z1F (zdt_X6_whyNotOaths) (by decide +kernel)
set_option maxRecDepth 100000 in
theorem zk_1168_17 : zm1 zKS zuq zNS zm_1168 4000 zt_1168_17 = true := z1F (zdt_X6_whyNotOaths) (by decide +kernel)
set_option maxRecDepth 100000 in
theorem zk_1168_18 : zm1 zKS zuq zNS zm_1168 4000 zt_1168_18 = true := z1F (zdt_X6_whyNotOaths) (by decide +kernel)
set_option maxRecDepth 100000 in
theorem zk_1168_19 : zm1 zKS zuq zNS zm_1168 4000 zt_1168_19 = true := z1F (zdt_X6_whyNotOaths) (by decide +kernel)
set_option maxRecDepth 100000 in
theorem zk_1168_20 : zm1 zKS zuq zNS zm_1168 4000 zt_1168_20 = true := z1F (zdt_X6_whyNotOaths) (by decide +kernel)
set_option maxRecDepth 100000 in
theorem zk_1168_s : zm0 zKS zuq zNS zm_1168 4000 = true := z0F (zdt_X6_whyNotOaths) (by decide +kernel)
set_option maxRecDepth 100000 in
theorem zk_1168 : zmeth zKS zuq zNS zm_1168 4000 = true := zmeth_by zk_1168_s (List.forall_mem_cons.mpr ⟨zk_1168_0, (List.forall_mem_cons.mpr ⟨zk_1168_1, (List.forall_mem_cons.mpr ⟨zk_1168_2, (List.forall_mem_cons.mpr ⟨zk_1168_3, (List.forall_mem_cons.mpr ⟨zk_1168_4, (List.forall_mem_cons.mpr ⟨zk_1168_5, (List.forall_mem_cons.mpr ⟨zk_1168_6, (List.forall_mem_cons.mpr ⟨zk_1168_7, (List.forall_mem_cons.mpr ⟨zk_1168_8, (List.forall_mem_cons.mpr ⟨zk_1168_9, (List.forall_mem_cons.mpr ⟨zk_1168_10, (List.forall_mem_cons.mpr ⟨zk_1168_11, (List.forall_mem_cons.mpr ⟨zk_1168_12, (List.forall_mem_cons.mpr ⟨zk_1168_13, (List.forall_mem_cons.mpr ⟨zk_1168_14, (List.forall_mem_cons.mpr ⟨zk_1168_15, (List.forall_mem_cons.mpr ⟨zk_1168_16, (List.forall_mem_cons.mpr ⟨zk_1168_17, (List.forall_mem_cons.mpr ⟨zk_1168_18, (List.forall_mem_cons.mpr ⟨zk_1168_19, (List.forall_mem_cons.mpr ⟨zk_1168_20, nilz⟩)⟩)⟩)⟩)⟩)⟩)⟩)⟩)⟩)⟩)⟩)⟩)⟩)⟩)⟩)⟩)⟩)⟩)⟩)⟩)⟩)
set_option maxRecDepth 100000 in
theorem zM_1168 {l : Launch} {D : va_G} {cI cZ cB cJ cR : ClassId} {ks ad : List Nat} {Psi : va_W → Prop} (hw : zworld ks ad zuq zNS Psi) (hm : zMan l D cI cZ cB cJ cR ks ad Psi) : zMet l D cI cZ cB cJ cR zKS ks ad Psi yX6_whyNotOaths (.code yX6_whyNotOaths cX6_whyNotOaths 4 (some .int)) 5 zc_1168 :=
  zmet_of hw 5 (by decide) 4000 zk_1168 (by decide) (by decide) (fun X => ⟨zg_RX6 X, zp_RX6 X, zl1_RX6 X, zl2_RX6 X, nilz, (List.forall_mem_cons.mpr ⟨zq_RX6_80 X (zM_935 hw hm) (by decide) rfl, (List.forall_mem_cons.mpr ⟨zq_RX6_234 X (zM_930 hw hm) (by decide) rfl rfl, (List.forall_mem_cons.mpr ⟨zq_RX6_267 X (zM_928 hw hm) (by decide) rfl rfl, (List.forall_mem_cons.mpr ⟨zq_RX6_270 X (zman_1017 hm) (by decide) rfl rfl, (List.forall_mem_cons.mpr ⟨zq_RX6_276 X (zM_923 hw hm) (by decide) rfl rfl, nilz⟩)⟩)⟩)⟩)⟩)⟩)
set_option maxRecDepth 100000 in
theorem zk_1169_0 : zm1 zKS zuq zNS zm_1169 4000 zt_1169_0 = true := z1F (zdt_X6_whyNotOaths) (by decide +kernel)
set_option maxRecDepth 100000 in
theorem zk_1169_1 : zm1 zKS zuq zNS zm_1169 4000 zt_1169_1 = true := z1F (zdt_X6_whyNotOaths) (by decide +kernel)
set_option maxRecDepth 100000 in
theorem zk_1169_2 : zm1 zKS zuq zNS zm_1169 4000 zt_1169_2 = true := z1F (zdt_X6_whyNotOaths) (by decide +kernel)
set_option maxRecDepth 100000 in
theorem zk_1169_3 : zm1 zKS zuq zNS zm_1169 4000 zt_1169_3 = true := z1F (zdt_X6_whyNotOaths) (by decide +kernel)
set_option maxRecDepth 100000 in
theorem zk_1169_4 : zm1 zKS zuq zNS zm_1169 4000 zt_1169_4 = true := z1F (zdt_X6_whyNotOaths) (by decide +kernel)
set_option maxRecDepth 100000 in
theorem zk_1169_5 : zm1 zKS zuq zNS zm_1169 4000 zt_1169_5 = true := z1F (zdt_X6_whyNotOaths) (by decide +kernel)
set_option maxRecDepth 100000 in
theorem zk_1169_6 : zm1 zKS zuq zNS zm_1169 4000 zt_1169_6 = true := z1F (zdt_X6_whyNotOaths) (by decide +kernel)
set_option maxRecDepth 100000 in
theorem zk_1169_7 : zm1 zKS zuq zNS zm_1169 4000 zt_1169_7 = true := z1F (zdt_X6_whyNotOaths) (by decide +kernel)
set_option maxRecDepth 100000 in
theorem zk_1169_8 : zm1 zKS zuq zNS zm_1169 4000 zt_1169_8 = true := z1F (zdt_X6_whyNotOaths) (by decide +kernel)
set_option maxRecDepth 100000 in
theorem zk_1169_9 : zm1 zKS zuq zNS zm_1169 4000 zt_1169_9 = true := z1F (zdt_X6_whyNotOaths) (by decide +kernel)
set_option maxRecDepth 100000 in
theorem zk_1169_10 : zm1 zKS zuq zNS zm_1169 4000 zt_1169_10 = true := z1F (zdt_X6_whyNotOaths) (by decide +kernel)
set_option maxRecDepth 100000 in
theorem zk_1169_11 : zm1 zKS zuq zNS zm_1169 4000 zt_1169_11 = true := z1F (zdt_X6_whyNotOaths) (by decide +kernel)
set_option maxRecDepth 100000 in
theorem zk_1169_12 : zm1 zKS zuq zNS zm_1169 4000 zt_1169_12 = true := z1F (zdt_X6_whyNotOaths) (by decide +kernel)
set_option maxRecDepth 100000 in
theorem zk_1169_13 : zm1 zKS zuq zNS zm_1169 4000 zt_1169_13 = true := z1F (zdt_X6_whyNotOaths) (by decide +kernel)
set_option maxRecDepth 100000 in
theorem zk_1169_14 : zm1 zKS zuq zNS zm_1169 4000 zt_1169_14 = true := z1F (zdt_X6_whyNotOaths) (by decide +kernel)
set_option maxRecDepth 100000 in
theorem zk_1169_15 : zm1 zKS zuq zNS zm_1169 4000 zt_1169_15 = true := z1F (zdt_X6_whyNotOaths) (by decide +kernel)
set_option maxRecDepth 100000 in
theorem zk_1169_16 : zm1 zKS zuq zNS zm_1169 4000 zt_1169_16 = true := z1F (zdt_X6_whyNotOaths) (by decide +kernel)
set_option maxRecDepth 100000 in
theorem zk_1169_17 : zm1 zKS zuq zNS zm_1169 4000 zt_1169_17 = true := z1F (zdt_X6_whyNotOaths) (by decide +kernel)
set_option maxRecDepth 100000 in
theorem zk_1169_18 : zm1 zKS zuq zNS zm_1169 4000 zt_1169_18 = true := z1F (zdt_X6_whyNotOaths) (by decide +kernel)
set_option maxRecDepth 100000 in
theorem zk_1169_19 : zm1 zKS zuq zNS zm_1169 4000 zt_1169_19 = true := z1F (zdt_X6_whyNotOaths) (by decide +kernel)
set_option maxRecDepth 100000 in
theorem zk_1169_20 : zm1 zKS zuq zNS zm_1169 4000 zt_1169_20 = true := z1F (zdt_X6_whyNotOaths) (by decide +kernel)
set_option maxRecDepth 100000 in
theorem zk_1169_s : zm0 zKS zuq zNS zm_1169 4000 = true := z0F (zdt_X6_whyNotOaths) (by decide +kernel)
set_option maxRecDepth 100000 in
theorem zk_1169 : zmeth zKS zuq zNS zm_1169 4000 = true := zmeth_by zk_1169_s (List.forall_mem_cons.mpr ⟨zk_1169_0, (List.forall_mem_cons.mpr ⟨zk_1169_1, (List.forall_mem_cons.mpr ⟨zk_1169_2, (List.forall_mem_cons.mpr ⟨zk_1169_3, (List.forall_mem_cons.mpr ⟨zk_1169_4, (List.forall_mem_cons.mpr ⟨zk_1169_5, (List.forall_mem_cons.mpr ⟨zk_1169_6, (List.forall_mem_cons.mpr ⟨zk_1169_7, (List.forall_mem_cons.mpr ⟨zk_1169_8, (List.forall_mem_cons.mpr ⟨zk_1169_9, (List.forall_mem_cons.mpr ⟨zk_1169_10, (List.forall_mem_cons.mpr ⟨zk_1169_11, (List.forall_mem_cons.mpr ⟨zk_1169_12, (List.forall_mem_cons.mpr ⟨zk_1169_13, (List.forall_mem_cons.mpr ⟨zk_1169_14, (List.forall_mem_cons.mpr ⟨zk_1169_15, (List.forall_mem_cons.mpr ⟨zk_1169_16, (List.forall_mem_cons.mpr ⟨zk_1169_17, (List.forall_mem_cons.mpr ⟨zk_1169_18, (List.forall_mem_cons.mpr ⟨zk_1169_19, (List.forall_mem_cons.mpr ⟨zk_1169_20, nilz⟩)⟩)⟩)⟩)⟩)⟩)⟩)⟩)⟩)⟩)⟩)⟩)⟩)⟩)⟩)⟩)⟩)⟩)⟩)⟩)⟩)
set_option maxRecDepth 100000 in
theorem zM_1169 {l : Launch} {D : va_G} {cI cZ cB cJ cR : ClassId} {ks ad : List Nat} {Psi : va_W → Prop} (hw : zworld ks ad zuq zNS Psi) (hm : zMan l D cI cZ cB cJ cR ks ad Psi) : zMet l D cI cZ cB cJ cR zKS ks ad Psi yX6_whyNotOaths (.code yX6_whyNotOaths cX6_whyNotOaths 4 (some .int)) 5 zc_1169 :=
  zmet_of hw 5 (by decide) 4000 zk_1169 (by decide) (by decide) (fun X => ⟨zg_RX6 X, zp_RX6 X, zl1_RX6 X, zl2_RX6 X, nilz, (List.forall_mem_cons.mpr ⟨zq_RX6_80 X (zM_935 hw hm) (by decide) rfl, (List.forall_mem_cons.mpr ⟨zq_RX6_234 X (zM_930 hw hm) (by decide) rfl rfl, (List.forall_mem_cons.mpr ⟨zq_RX6_267 X (zM_928 hw hm) (by decide) rfl rfl, (List.forall_mem_cons.mpr ⟨zq_RX6_270 X (zman_1017 hm) (by decide) rfl rfl, (List.forall_mem_cons.mpr ⟨zq_RX6_276 X (zM_923 hw hm) (by decide) rfl rfl, nilz⟩)⟩)⟩)⟩)⟩)⟩)
