set_option maxRecDepth 100000 in
theorem zk_1122 : zmeth zKS zuq zNS zm_1122 4000 = true := zqF (zdt0 _) (by decide +kernel)
theorem zM_1122 {l : Launch} {D : va_G} {cI cZ cB cJ cR : ClassId} {ks ad : List Nat} {Psi : va_W → Prop} (hw : zworld ks ad zuq zNS Psi) (hm : zMan l D cI cZ cB cJ cR ks ad Psi) : zMet l D cI cZ cB cJ cR zKS ks ad Psi yX6_sight (.code yX6_sight cX6_sight 5 (some .int)) 5 zc_1122 :=
  zmet_of hw 5 (by decide) 4000 zk_1122 (by decide) (by decide) (fun X => ⟨zg_RX6 X, zp_RX6 X, zl1_RX6 X, zl2_RX6 X, nilz, (List.forall_mem_cons.mpr ⟨zq_RX6_227 X (zM_1065 hw hm) (by decide) rfl rfl, (List.forall_mem_cons.mpr ⟨zq_RX6_234 X (zM_934 hw hm) (by decide) rfl rfl, (List.forall_mem_cons.mpr ⟨zq_RX6_250 X (zM_937 hw hm) (by decide) rfl rfl, (List.forall_mem_cons.mpr ⟨zq_RX6_267 X (zM_932 hw hm) (by decide) rfl rfl, (List.forall_mem_cons.mpr ⟨zq_RX6_270 X (zman_1021 hm) (by decide) rfl rfl, nilz⟩)⟩)⟩)⟩)⟩)⟩)
set_option maxRecDepth 100000 in
theorem zk_1126 : zmeth zKS zuq zNS zm_1126 4000 = true := zqF (zdt0 _) (by decide +kernel)
theorem zM_1126 {l : Launch} {D : va_G} {cI cZ cB cJ cR : ClassId} {ks ad : List Nat} {Psi : va_W → Prop} (hw : zworld ks ad zuq zNS Psi) (hm : zMan l D cI cZ cB cJ cR ks ad Psi) : zMet l D cI cZ cB cJ cR zKS ks ad Psi yX6_swear (.code yX6_swear cX6_swear 3 (some .int)) 5 zc_1126 :=
  zmet_of hw 5 (by decide) 4000 zk_1126 (by decide) (by decide) (fun X => ⟨zg_RX6 X, zp_RX6 X, zl1_RX6 X, zl2_RX6 X, nilz, (List.forall_mem_cons.mpr ⟨zq_RX6_234 X (zM_934 hw hm) (by decide) rfl rfl, (List.forall_mem_cons.mpr ⟨zq_RX6_270 X (zman_1021 hm) (by decide) rfl rfl, (List.forall_mem_cons.mpr ⟨zq_RX6_414 X (zM_928 hw hm) (by decide) rfl rfl, (List.forall_mem_cons.mpr ⟨zq_RX6_417 X (zman_830 hm) (by decide) rfl rfl, nilz⟩)⟩)⟩)⟩)⟩)
set_option maxRecDepth 100000 in
theorem zk_1127 : zmeth zKS zuq zNS zm_1127 4000 = true := zqF (zdt0 _) (by decide +kernel)
theorem zM_1127 {l : Launch} {D : va_G} {cI cZ cB cJ cR : ClassId} {ks ad : List Nat} {Psi : va_W → Prop} (hw : zworld ks ad zuq zNS Psi) (hm : zMan l D cI cZ cB cJ cR ks ad Psi) : zMet l D cI cZ cB cJ cR zKS ks ad Psi yX6_swears (.code yX6_swears cX6_swears 2 (some .int)) 5 zc_1127 :=
  zmet_of hw 5 (by decide) 4000 zk_1127 (by decide) (by decide) (fun X => ⟨zg_RX6 X, zp_RX6 X, zl1_RX6 X, zl2_RX6 X, nilz, (List.forall_mem_cons.mpr ⟨zq_RX6_234 X (zM_934 hw hm) (by decide) rfl rfl, (List.forall_mem_cons.mpr ⟨zq_RX6_270 X (zman_1021 hm) (by decide) rfl rfl, nilz⟩)⟩)⟩)
set_option maxRecDepth 100000 in
theorem zk_1128 : zmeth zKS zuq zNS zm_1128 4000 = true := zqF (zdt0 _) (by decide +kernel)
theorem zM_1128 {l : Launch} {D : va_G} {cI cZ cB cJ cR : ClassId} {ks ad : List Nat} {Psi : va_W → Prop} (hw : zworld ks ad zuq zNS Psi) (hm : zMan l D cI cZ cB cJ cR ks ad Psi) : zMet l D cI cZ cB cJ cR zKS ks ad Psi yX6_sworn (.code yX6_sworn cX6_sworn 2 (some .int)) 5 zc_1128 :=
  zmet_of hw 5 (by decide) 4000 zk_1128 (by decide) (by decide) (fun X => ⟨zg_RX6 X, zp_RX6 X, zl1_RX6 X, zl2_RX6 X, nilz, (List.forall_mem_cons.mpr ⟨zq_RX6_234 X (zM_934 hw hm) (by decide) rfl rfl, (List.forall_mem_cons.mpr ⟨zq_RX6_270 X (zman_1021 hm) (by decide) rfl rfl, (List.forall_mem_cons.mpr ⟨zq_RX6_273 X (zM_1129 hw hm) (by decide) rfl rfl, nilz⟩)⟩)⟩)⟩)
set_option maxRecDepth 100000 in
theorem zk_1164 : zmeth zKS zuq zNS zm_1164 4000 = true := zqF (zdt0 _) (by decide +kernel)
theorem zM_1164 {l : Launch} {D : va_G} {cI cZ cB cJ cR : ClassId} {ks ad : List Nat} {Psi : va_W → Prop} (hw : zworld ks ad zuq zNS Psi) (hm : zMan l D cI cZ cB cJ cR ks ad Psi) : zMet l D cI cZ cB cJ cR zKS ks ad Psi yX6_unsworn (.code yX6_unsworn cX6_unsworn 3 (some .int)) 5 zc_1164 :=
  zmet_of hw 5 (by decide) 4000 zk_1164 (by decide) (by decide) (fun X => ⟨zg_RX6 X, zp_RX6 X, zl1_RX6 X, zl2_RX6 X, nilz, (List.forall_mem_cons.mpr ⟨zq_RX6_227 X (zM_1065 hw hm) (by decide) rfl rfl, (List.forall_mem_cons.mpr ⟨zq_RX6_270 X (zman_1021 hm) (by decide) rfl rfl, (List.forall_mem_cons.mpr ⟨zq_RX6_273 X (zM_1129 hw hm) (by decide) rfl rfl, (List.forall_mem_cons.mpr ⟨zq_RX6_276 X (zM_927 hw hm) (by decide) rfl rfl, nilz⟩)⟩)⟩)⟩)⟩)
set_option maxRecDepth 100000 in
theorem zk_1172_0 : zm1 zKS zuq zNS zm_1172 4000 zt_1172_0 = true := z1F (zdt_X6_whyNotOaths) (by decide +kernel)
set_option maxRecDepth 100000 in
theorem zk_1172_1 : zm1 zKS zuq zNS zm_1172 4000 zt_1172_1 = true := z1F (zdt_X6_whyNotOaths) (by decide +kernel)
set_option maxRecDepth 100000 in
theorem zk_1172_2 : zm1 zKS zuq zNS zm_1172 4000 zt_1172_2 = true := z1F (zdt_X6_whyNotOaths) (by decide +kernel)
set_option maxRecDepth 100000 in
theorem zk_1172_3 : zm1 zKS zuq zNS zm_1172 4000 zt_1172_3 = true := z1F (zdt_X6_whyNotOaths) (by decide +kernel)
set_option maxRecDepth 100000 in
theorem zk_1172_4 : zm1 zKS zuq zNS zm_1172 4000 zt_1172_4 = true := z1F (zdt_X6_whyNotOaths) (by decide +kernel)
set_option maxRecDepth 100000 in
theorem zk_1172_5 : zm1 zKS zuq zNS zm_1172 4000 zt_1172_5 = true := z1F (zdt_X6_whyNotOaths) (by decide +kernel)
set_option maxRecDepth 100000 in
theorem zk_1172_6 : zm1 zKS zuq zNS zm_1172 4000 zt_1172_6 = true := z1F (zdt_X6_whyNotOaths) (by decide +kernel)
set_option maxRecDepth 100000 in
theorem zk_1172_7 : zm1 zKS zuq zNS zm_1172 4000 zt_1172_7 = true := z1F (zdt_X6_whyNotOaths) (by decide +kernel)
set_option maxRecDepth 100000 in
theorem zk_1172_8 : zm1 zKS zuq zNS zm_1172 4000 zt_1172_8 = true := z1F (zdt_X6_whyNotOaths) (by decide +kernel)
set_option maxRecDepth 100000 in
theorem zk_1172_9 : zm1 zKS zuq zNS zm_1172 4000 zt_1172_9 = true := z1F (zdt_X6_whyNotOaths) (by decide +kernel)
set_option maxRecDepth 100000 in
theorem zk_1172_10 : zm1 zKS zuq zNS zm_1172 4000 zt_1172_10 = true := z1F (zdt_X6_whyNotOaths) (by decide +kernel)
set_option maxRecDepth 100000 in
theorem zk_1172_11 : zm1 zKS zuq zNS zm_1172 4000 zt_1172_11 = true := z1F (zdt_X6_whyNotOaths) (by decide +kernel)
set_option maxRecDepth 100000 in
theorem zk_1172_12 : zm1 zKS zuq zNS zm_1172 4000 zt_1172_12 = true := z1F (zdt_X6_whyNotOaths) (by decide +kernel)
set_option maxRecDepth 100000 in
theorem zk_1172_13 : zm1 zKS zuq zNS zm_1172 4000 zt_1172_13 = true := z1F (zdt_X6_whyNotOaths) (by decide +kernel)
set_option maxRecDepth 100000 in
theorem zk_1172_14 : zm1 zKS zuq zNS zm_1172 4000 zt_1172_14 = true := z1F (zdt_X6_whyNotOaths) (by decide +kernel)
set_option maxRecDepth 100000 in
theorem zk_1172_15 : zm1 zKS zuq zNS zm_1172 4000 zt_1172_15 = true := z1F (zdt_X6_whyNotOaths) (by decide +kernel)
set_option maxRecDepth 100000 in
theorem zk_1172_16 : zm1 zKS zuq zNS zm_1172 4000 zt_1172_16 = true := z1F (zdt_X6_whyNotOaths) (by decide +kernel)
set_option maxRecDepth 100000 in
theorem zk_1172_17 : zm1 zKS zuq zNS zm_1172 4000 zt_1172_17 = true := z1F (zdt_X6_whyNotOaths) (by decide +kernel)
set_option maxRecDepth 100000 in
theorem zk_1172_18 : zm1 zKS zuq zNS zm_1172 4000 zt_1172_18 = true := z1F (zdt_X6_whyNotOaths) (by decide +kernel)
set_option maxRecDepth 100000 in
theorem zk_1172_19 : zm1 zKS zuq zNS zm_1172 4000 zt_1172_19 = true := z1F (zdt_X6_whyNotOaths) (by decide +kernel)
set_option maxRecDepth 100000 in
theorem zk_1172_20 : zm1 zKS zuq zNS zm_1172 4000 zt_1172_20 = true := z1F (zdt_X6_whyNotOaths) (by decide +kernel)
set_option maxRecDepth 100000 in
theorem zk_1172_s : zm0 zKS zuq zNS zm_1172 4000 = true := z0F (zdt_X6_whyNotOaths) (by decide +kernel)
set_option maxRecDepth 100000 in
theorem zk_1172 : zmeth zKS zuq zNS zm_1172 4000 = true := zmeth_by zk_1172_s (List.forall_mem_cons.mpr ⟨zk_1172_0, (List.forall_mem_cons.mpr ⟨zk_1172_1, (List.forall_mem_cons.mpr ⟨zk_1172_2, (List.forall_mem_cons.mpr ⟨zk_1172_3, (List.forall_mem_cons.mpr ⟨zk_1172_4, (List.forall_mem_cons.mpr ⟨zk_1172_5, (List.forall_mem_cons.mpr ⟨zk_1172_6, (List.forall_mem_cons.mpr ⟨zk_1172_7, (List.forall_mem_cons.mpr ⟨zk_1172_8, (List.forall_mem_cons.mpr ⟨zk_1172_9, (List.forall_mem_cons.mpr ⟨zk_1172_10, (List.forall_mem_cons.mpr ⟨zk_1172_11, (List.forall_mem_cons.mpr ⟨zk_1172_12, (List.forall_mem_cons.mpr ⟨zk_1172_13, (List.forall_mem_cons.mpr ⟨zk_1172_14, (List.forall_mem_cons.mpr ⟨zk_1172_15, (List.forall_mem_cons.mpr ⟨zk_1172_16, (List.forall_mem_cons.mpr ⟨zk_1172_17, (List.forall_mem_cons.mpr ⟨zk_1172_18, (List.forall_mem_cons.mpr ⟨zk_1172_19, (List.forall_mem_cons.mpr ⟨zk_1172_20, nilz⟩)⟩)⟩)⟩)⟩)⟩)⟩)⟩)⟩)⟩)⟩)⟩)⟩)⟩)⟩)⟩)⟩)⟩)⟩)⟩)⟩)
set_option maxRecDepth 100000 in
theorem zM_1172 {l : Launch} {D : va_G} {cI cZ cB cJ cR : ClassId} {ks ad : List Nat} {Psi : va_W → Prop} (hw : zworld ks ad zuq zNS Psi) (hm : zMan l D cI cZ cB cJ cR ks ad Psi) : zMet l D cI cZ cB cJ cR zKS ks ad Psi yX6_whyNotOaths (.code yX6_whyNotOaths cX6_whyNotOaths 4 (some .int)) 5 zc_1172 :=
  zmet_of hw 5 (by decide) 4000 zk_1172 (by decide) (by decide) (fun X => ⟨zg_RX6 X, zp_RX6 X, zl1_RX6 X, zl2_RX6 X, nilz, (List.forall_mem_cons.mpr ⟨zq_RX6_80 X (zM_939 hw hm) (by decide) rfl, (List.forall_mem_cons.mpr ⟨zq_RX6_234 X (zM_934 hw hm) (by decide) rfl rfl, (List.forall_mem_cons.mpr ⟨zq_RX6_267 X (zM_932 hw hm) (by decide) rfl rfl, (List.forall_mem_cons.mpr ⟨zq_RX6_270 X (zman_1021 hm) (by decide) rfl rfl, (List.forall_mem_cons.mpr ⟨zq_RX6_276 X (zM_927 hw hm) (by decide) rfl rfl, nilz⟩)⟩)⟩)⟩)⟩)⟩)
set_option maxRecDepth 100000 in
theorem zk_1173_0 : zm1 zKS zuq zNS zm_1173 4000 zt_1173_0 = true := z1F (zdt_X6_whyNotOaths) (by decide +kernel)
set_option maxRecDepth 100000 in
theorem zk_1173_1 : zm1 zKS zuq zNS zm_1173 4000 zt_1173_1 = true := z1F (zdt_X6_whyNotOaths) (by decide +kernel)
set_option maxRecDepth 100000 in
theorem zk_1173_2 : zm1 zKS zuq zNS zm_1173 4000 zt_1173_2 = true := z1F (zdt_X6_whyNotOaths) (by decide +kernel)
set_option maxRecDepth 100000 in
theorem zk_1173_3 : zm1 zKS zuq zNS zm_1173 4000 zt_1173_3 = true := z1F (zdt_X6_whyNotOaths) (by decide +kernel)
set_option maxRecDepth 100000 in
theorem zk_1173_4 : zm1 zKS zuq zNS zm_1173 4000 zt_1173_4 = true := z1F (zdt_X6_whyNotOaths) (by decide +kernel)
set_option maxRecDepth 100000 in
theorem zk_1173_5 : zm1 zKS zuq zNS zm_1173 4000 zt_1173_5 = true := z1F (zdt_X6_whyNotOaths) (by decide +kernel)
set_option maxRecDepth 100000 in
theorem zk_1173_6 : zm1 zKS zuq zNS zm_1173 4000 zt_1173_6 = true := z1F (zdt_X6_whyNotOaths) (by decide +kernel)
set_option maxRecDepth 100000 in
theorem zk_1173_7 : zm1 zKS zuq zNS zm_1173 4000 zt_1173_7 = true := z1F (zdt_X6_whyNotOaths) (by decide +kernel)
set_option maxRecDepth 100000 in
theorem zk_1173_8 : zm1 zKS zuq zNS zm_1173 4000 zt_1173_8 = true := z1F (zdt_X6_whyNotOaths) (by decide +kernel)
set_option maxRecDepth 100000 in
theorem zk_1173_9 : zm1 zKS zuq zNS zm_1173 4000 zt_1173_9 = true := z1F (zdt_X6_whyNotOaths) (by decide +kernel)
set_option maxRecDepth 100000 in
theorem zk_1173_10 : zm1 zKS zuq zNS zm_1173 4000 zt_1173_10 = true := z1F (zdt_X6_whyNotOaths) (by decide +kernel)
set_option maxRecDepth 100000 in
theorem zk_1173_11 : zm1 zKS zuq zNS zm_1173 4000 zt_1173_11 = true := z1F (zdt_X6_whyNotOaths) (by decide +kernel)
set_option maxRecDepth 100000 in
theorem zk_1173_12 : zm1 zKS zuq zNS zm_1173 4000 zt_1173_12 = true := z1F (zdt_X6_whyNotOaths) (by decide +kernel)
set_option maxRecDepth 100000 in
theorem zk_1173_13 : zm1 zKS zuq zNS zm_1173 4000 zt_1173_13 = true := z1F (zdt_X6_whyNotOaths) (by decide +kernel)
set_option maxRecDepth 100000 in
theorem zk_1173_14 : zm1 zKS zuq zNS zm_1173 4000 zt_1173_14 = true := z1F (zdt_X6_whyNotOaths) (by decide +kernel)
set_option maxRecDepth 100000 in
theorem zk_1173_15 : zm1 zKS zuq zNS zm_1173 4000 zt_1173_15 = true := z1F (zdt_X6_whyNotOaths) (by decide +kernel)
set_option maxRecDepth 100000 in
theorem zk_1173_16 : zm1 zKS zuq zNS zm_1173 4000 zt_1173_16 = true := z1F (zdt_X6_whyNotOaths) (by decide +kernel)
set_option maxRecDepth 100000 in
theorem zk_1173_17 : zm1 zKS zuq zNS zm_1173 4000 zt_1173_17 = true := z1F (zdt_X6_whyNotOaths) (by decide +kernel)
set_option maxRecDepth 100000 in
theorem zk_1173_18 : zm1 zKS zuq zNS zm_1173 4000 zt_1173_18 = true := z1F (zdt_X6_whyNotOaths) (by decide +kernel)
set_option maxRecDepth 100000 in
theorem zk_1173_19 : zm1 zKS zuq zNS zm_1173 4000 zt_1173_19 = true := z1F (zdt_X6_whyNotOaths) (by decide +kernel)
set_option maxRecDepth 100000 in
theorem zk_1173_20 : zm1 zKS zuq zNS zm_1173 4000 zt_1173_20 = true := z1F (zdt_X6_whyNotOaths) (by decide +kernel)
set_option maxRecDepth 100000 in
theorem zk_1173_s : zm0 zKS zuq zNS zm_1173 4000 = true := z0F (zdt_X6_whyNotOaths) (by decide +kernel)
set_option maxRecDepth 100000 in
theorem zk_1173 : zmeth zKS zuq zNS zm_1173 4000 = true := zmeth_by zk_1173_s (List.forall_mem_cons.mpr ⟨zk_1173_0, (List.forall_mem_cons.mpr ⟨zk_1173_1, (List.forall_mem_cons.mpr ⟨zk_1173_2, (List.forall_mem_cons.mpr ⟨zk_1173_3, (List.forall_mem_cons.mpr ⟨zk_1173_4, (List.forall_mem_cons.mpr ⟨zk_1173_5, (List.forall_mem_cons.mpr ⟨zk_1173_6, (List.forall_mem_cons.mpr ⟨zk_1173_7, (List.forall_mem_cons.mpr ⟨zk_1173_8, (List.forall_mem_cons.mpr ⟨zk_1173_9, (List.forall_mem_cons.mpr ⟨zk_1173_10, (List.forall_mem_cons.mpr ⟨zk_1173_11, (List.forall_mem_cons.mpr ⟨zk_1173_12, (List.forall_mem_cons.mpr ⟨zk_1173_13, (List.forall_mem_cons.mpr ⟨zk_1173_14, (List.forall_mem_cons.mpr ⟨zk_1173_15, (List.forall_mem_cons.mpr ⟨zk_1173_16, (List.forall_mem_cons.mpr ⟨zk_1173_17, (List.forall_mem_cons.mpr ⟨zk_1173_18, (List.forall_mem_cons.mpr ⟨zk_1173_19, (List.forall_mem_cons.mpr ⟨zk_1173_20, nilz⟩)⟩)⟩)⟩)⟩)⟩)⟩)⟩)⟩)⟩)⟩)⟩)⟩)⟩)⟩)⟩)⟩)⟩)⟩)⟩)⟩)
set_option maxRecDepth 100000 in
theorem zM_1173 {l : Launch} {D : va_G} {cI cZ cB cJ cR : ClassId} {ks ad : List Nat} {Psi : va_W → Prop} (hw : zworld ks ad zuq zNS Psi) (hm : zMan l D cI cZ cB cJ cR ks ad Psi) : zMet l D cI cZ cB cJ cR zKS ks ad Psi yX6_whyNotOaths (.code yX6_whyNotOaths cX6_whyNotOaths 4 (some .int)) 5 zc_1173 :=
  zmet_of hw 5 (by decide) 4000 zk_1173 (by decide) (by decide) (fun X => ⟨zg_RX6 X, zp_RX6 X, zl1_RX6 X, zl2_RX6 X, nilz, (List.forall_mem_cons.mpr ⟨zq_RX6_80 X (zM_939 hw hm) (by decide) rfl, (List.forall_mem_cons.mpr ⟨zq_RX6_234 X (zM_934 hw hm) (by decide) rfl rfl, (List.forall_mem_cons.mpr ⟨zq_RX6_267 X (zM_932 hw hm) (by decide) rfl rfl, (List.forall_mem_cons.mpr ⟨zq_RX6_270 X (zman_1021 hm) (by decide) rfl rfl, (List.forall_mem_cons.mpr ⟨zq_RX6_276 X (zM_927 hw hm) (by decide) rfl rfl, nilz⟩)⟩)⟩)⟩)⟩)⟩)
