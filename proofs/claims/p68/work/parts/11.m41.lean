set_option maxRecDepth 100000 in
theorem zk_1176_0 : zm1 zKS zuq zNS zm_1176 4000 zt_1176_0 = true := z1F (zdt_X6_whyNotWho) (by decide +kernel)
set_option maxRecDepth 100000 in
theorem zk_1176_1 : zm1 zKS zuq zNS zm_1176 4000 zt_1176_1 = true := z1F (zdt_X6_whyNotWho) (by decide +kernel)
set_option maxRecDepth 100000 in
theorem zk_1176_2 : zm1 zKS zuq zNS zm_1176 4000 zt_1176_2 = true := z1F (zdt_X6_whyNotWho) (by decide +kernel)
set_option maxRecDepth 100000 in
theorem zk_1176_3 : zm1 zKS zuq zNS zm_1176 4000 zt_1176_3 = true := z1F (zdt_X6_whyNotWho) (by decide +kernel)
set_option maxRecDepth 100000 in
theorem zk_1176_4 : zm1 zKS zuq zNS zm_1176 4000 zt_1176_4 = true := z1F (zdt_X6_whyNotWho) (by decide +kernel)
set_option maxRecDepth 100000 in
theorem zk_1176_5 : zm1 zKS zuq zNS zm_1176 4000 zt_1176_5 = true := z1F (zdt_X6_whyNotWho) (by decide +kernel)
set_option maxRecDepth 100000 in
theorem zk_1176_6 : zm1 zKS zuq zNS zm_1176 4000 zt_1176_6 = true := z1F (zdt_X6_whyNotWho) (by decide +kernel)
set_option maxRecDepth 100000 in
theorem zk_1176_7 : zm1 zKS zuq zNS zm_1176 4000 zt_1176_7 = true := z1F (zdt_X6_whyNotWho) (by decide +kernel)
set_option maxRecDepth 100000 in
theorem zk_1176_8 : zm1 zKS zuq zNS zm_1176 4000 zt_1176_8 = true := z1F (zdt_X6_whyNotWho) (by decide +kernel)
set_option maxRecDepth 100000 in
theorem zk_1176_9 : zm1 zKS zuq zNS zm_1176 4000 zt_1176_9 = true := z1F (zdt_X6_whyNotWho) (by decide +kernel)
set_option maxRecDepth 100000 in
theorem zk_1176_10 : zm1 zKS zuq zNS zm_1176 4000 zt_1176_10 = true := z1F (zdt_X6_whyNotWho) (by decide +kernel)
set_option maxRecDepth 100000 in
theorem zk_1176_11 : zm1 zKS zuq zNS zm_1176 4000 zt_1176_11 = true := z1F (zdt_X6_whyNotWho) (by decide +kernel)
set_option maxRecDepth 100000 in
theorem zk_1176_12 : zm1 zKS zuq zNS zm_1176 4000 zt_1176_12 = true := z1F (zdt_X6_whyNotWho) (by decide +kernel)
set_option maxRecDepth 100000 in
theorem zk_1176_13 : zm1 zKS zuq zNS zm_1176 4000 zt_1176_13 = true := z1F (zdt_X6_whyNotWho) (by decide +kernel)
set_option maxRecDepth 100000 in
theorem zk_1176_14 : zm1 zKS zuq zNS zm_1176 4000 zt_1176_14 = true := z1F (zdt_X6_whyNotWho) (by decide +kernel)
set_option maxRecDepth 100000 in
theorem zk_1176_15 : zm1 zKS zuq zNS zm_1176 4000 zt_1176_15 = true := z1F (zdt_X6_whyNotWho) (by decide +kernel)
set_option maxRecDepth 100000 in
theorem zk_1176_16 : zm1 zKS zuq zNS zm_1176 4000 zt_1176_16 = true := z1F (zdt_X6_whyNotWho) (by decide +kernel)
set_option maxRecDepth 100000 in
theorem zk_1176_17 : zm1 zKS zuq zNS zm_1176 4000 zt_1176_17 = true := z1F (zdt_X6_whyNotWho) (by decide +kernel)
set_option maxRecDepth 100000 in
theorem zk_1176_18 : zm1 zKS zuq zNS zm_1176 4000 zt_1176_18 = true := z1F (zdt_X6_whyNotWho) (by decide +kernel)
set_option maxRecDepth 100000 in
theorem zk_1176_19 : zm1 zKS zuq zNS zm_1176 4000 zt_1176_19 = true := z1F (zdt_X6_whyNotWho) (by decide +kernel)
set_option maxRecDepth 100000 in
theorem zk_1176_20 : zm1 zKS zuq zNS zm_1176 4000 zt_1176_20 = true := z1F (zdt_X6_whyNotWho) (by decide +kernel)
set_option maxRecDepth 100000 in
theorem zk_1176_21 : zm1 zKS zuq zNS zm_1176 4000 zt_1176_21 = true := z1F (zdt_X6_whyNotWho) (by decide +kernel)
set_option maxRecDepth 100000 in
theorem zk_1176_22 : zm1 zKS zuq zNS zm_1176 4000 zt_1176_22 = true := z1F (zdt_X6_whyNotWho) (by decide +kernel)
set_option maxRecDepth 100000 in
theorem zk_1176_23 : zm1 zKS zuq zNS zm_1176 4000 zt_1176_23 = true := z1F (zdt_X6_whyNotWho) (by decide +kernel)
set_option maxRecDepth 100000 in
theorem zk_1176_24 : zm1 zKS zuq zNS zm_1176 4000 zt_1176_24 = true := z1F (zdt_X6_whyNotWho) (by decide +kernel)
set_option maxRecDepth 100000 in
theorem zk_1176_25 : zm1 zKS zuq zNS zm_1176 4000 zt_1176_25 = true := z1F (zdt_X6_whyNotWho) (by decide +kernel)
set_option maxRecDepth 100000 in
theorem zk_1176_26 : zm1 zKS zuq zNS zm_1176 4000 zt_1176_26 = true := z1F (zdt_X6_whyNotWho) (by decide +kernel)
set_option maxRecDepth 100000 in
theorem zk_1176_27 : zm1 zKS zuq zNS zm_1176 4000 zt_1176_27 = true := z1F (zdt_X6_whyNotWho) (by decide +kernel)
set_option maxRecDepth 100000 in
theorem zk_1176_28 : zm1 zKS zuq zNS zm_1176 4000 zt_1176_28 = true := z1F (zdt_X6_whyNotWho) (by decide +kernel)
set_option maxRecDepth 100000 in
theorem zk_1176_29 : zm1 zKS zuq zNS zm_1176 4000 zt_1176_29 = true := z1F (zdt_X6_whyNotWho) (by decide +kernel)
set_option maxRecDepth 100000 in
theorem zk_1176_30 : zm1 zKS zuq zNS zm_1176 4000 zt_1176_30 = true := z1F (zdt_X6_whyNotWho) (by decide +kernel)
set_option maxRecDepth 100000 in
theorem zk_1176_s : zm0 zKS zuq zNS zm_1176 4000 = true := z0F (zdt_X6_whyNotWho) (by decide +kernel)
set_option maxRecDepth 100000 in
theorem zk_1176 : zmeth zKS zuq zNS zm_1176 4000 = true := zmeth_by zk_1176_s (List.forall_mem_cons.mpr ⟨zk_1176_0, (List.forall_mem_cons.mpr ⟨zk_1176_1, (List.forall_mem_cons.mpr ⟨zk_1176_2, (List.forall_mem_cons.mpr ⟨zk_1176_3, (List.forall_mem_cons.mpr ⟨zk_1176_4, (List.forall_mem_cons.mpr ⟨zk_1176_5, (List.forall_mem_cons.mpr ⟨zk_1176_6, (List.forall_mem_cons.mpr ⟨zk_1176_7, (List.forall_mem_cons.mpr ⟨zk_1176_8, (List.forall_mem_cons.mpr ⟨zk_1176_9, (List.forall_mem_cons.mpr ⟨zk_1176_10, (List.forall_mem_cons.mpr ⟨zk_1176_11, (List.forall_mem_cons.mpr ⟨zk_1176_12, (List.forall_mem_cons.mpr ⟨zk_1176_13, (List.forall_mem_cons.mpr ⟨zk_1176_14, (List.forall_mem_cons.mpr ⟨zk_1176_15, (List.forall_mem_cons.mpr ⟨zk_1176_16, (List.forall_mem_cons.mpr ⟨zk_1176_17, (List.forall_mem_cons.mpr ⟨zk_1176_18, (List.forall_mem_cons.mpr ⟨zk_1176_19, (List.forall_mem_cons.mpr ⟨zk_1176_20, (List.forall_mem_cons.mpr ⟨zk_1176_21, (List.forall_mem_cons.mpr ⟨zk_1176_22, (List.forall_mem_cons.mpr ⟨zk_1176_23, (List.forall_mem_cons.mpr ⟨zk_1176_24, (List.forall_mem_cons.mpr ⟨zk_1176_25, (List.forall_mem_cons.mpr ⟨zk_1176_26, (List.forall_mem_cons.mpr ⟨zk_1176_27, (List.forall_mem_cons.mpr ⟨zk_1176_28, (List.forall_mem_cons.mpr ⟨zk_1176_29, (List.forall_mem_cons.mpr ⟨zk_1176_30, nilz⟩)⟩)⟩)⟩)⟩)⟩)⟩)⟩)⟩)⟩)⟩)⟩)⟩)⟩)⟩)⟩)⟩)⟩)⟩)⟩)⟩)⟩)⟩)⟩)⟩)⟩)⟩)⟩)⟩)⟩)⟩)
set_option maxRecDepth 100000 in
theorem zM_1176 {l : Launch} {D : va_G} {cI cZ cB cJ cR : ClassId} {ks ad : List Nat} {Psi : va_W → Prop} (hw : zworld ks ad zuq zNS Psi) (hm : zMan l D cI cZ cB cJ cR ks ad Psi) : zMet l D cI cZ cB cJ cR zKS ks ad Psi yX6_whyNotWho (.code yX6_whyNotWho cX6_whyNotWho 3 (some .int)) 5 zc_1176 :=
  zmet_of hw 5 (by decide) 4000 zk_1176 (by decide) (by decide) (fun X => ⟨zg_RX6 X, zp_RX6 X, zl1_RX6 X, zl2_RX6 X, nilz, (List.forall_mem_cons.mpr ⟨zq_RX6_80 X (zM_935 hw hm) (by decide) rfl, (List.forall_mem_cons.mpr ⟨zq_RX6_267 X (zM_928 hw hm) (by decide) rfl rfl, (List.forall_mem_cons.mpr ⟨zq_RX6_270 X (zman_1017 hm) (by decide) rfl rfl, (List.forall_mem_cons.mpr ⟨zq_RX6_276 X (zM_923 hw hm) (by decide) rfl rfl, (List.forall_mem_cons.mpr ⟨zq_RX6_322 X (zM_931 hw hm) (by decide) rfl rfl, nilz⟩)⟩)⟩)⟩)⟩)⟩)
set_option maxRecDepth 100000 in
theorem zk_1177_0 : zm1 zKS zuq zNS zm_1177 4000 zt_1177_0 = true := z1F (zdt_X6_whyNotWho) (by decide +kernel)
set_option maxRecDepth 100000 in
theorem zk_1177_1 : zm1 zKS zuq zNS zm_1177 4000 zt_1177_1 = true := z1F (zdt_X6_whyNotWho) (by decide +kernel)
set_option maxRecDepth 100000 in
theorem zk_1177_2 : zm1 zKS zuq zNS zm_1177 4000 zt_1177_2 = true := z1F (zdt_X6_whyNotWho) (by decide +kernel)
set_option maxRecDepth 100000 in
theorem zk_1177_3 : zm1 zKS zuq zNS zm_1177 4000 zt_1177_3 = true := z1F (zdt_X6_whyNotWho) (by decide +kernel)
set_option maxRecDepth 100000 in
theorem zk_1177_4 : zm1 zKS zuq zNS zm_1177 4000 zt_1177_4 = true := z1F (zdt_X6_whyNotWho) (by decide +kernel)
set_option maxRecDepth 100000 in
theorem zk_1177_5 : zm1 zKS zuq zNS zm_1177 4000 zt_1177_5 = true := z1F (zdt_X6_whyNotWho) (by decide +kernel)
set_option maxRecDepth 100000 in
theorem zk_1177_6 : zm1 zKS zuq zNS zm_1177 4000 zt_1177_6 = true := z1F (zdt_X6_whyNotWho) (by decide +kernel)
set_option maxRecDepth 100000 in
theorem zk_1177_7 : zm1 zKS zuq zNS zm_1177 4000 zt_1177_7 = true := z1F (zdt_X6_whyNotWho) (by decide +kernel)
set_option maxRecDepth 100000 in
theorem zk_1177_8 : zm1 zKS zuq zNS zm_1177 4000 zt_1177_8 = true := z1F (zdt_X6_whyNotWho) (by decide +kernel)
set_option maxRecDepth 100000 in
theorem zk_1177_9 : zm1 zKS zuq zNS zm_1177 4000 zt_1177_9 = true := z1F (zdt_X6_whyNotWho) (by decide +kernel)
set_option maxRecDepth 100000 in
theorem zk_1177_10 : zm1 zKS zuq zNS zm_1177 4000 zt_1177_10 = true := z1F (zdt_X6_whyNotWho) (by decide +kernel)
set_option maxRecDepth 100000 in
theorem zk_1177_11 : zm1 zKS zuq zNS zm_1177 4000 zt_1177_11 = true := z1F (zdt_X6_whyNotWho) (by decide +kernel)
set_option maxRecDepth 100000 in
theorem zk_1177_12 : zm1 zKS zuq zNS zm_1177 4000 zt_1177_12 = true := z1F (zdt_X6_whyNotWho) (by decide +kernel)
set_option maxRecDepth 100000 in
theorem zk_1177_13 : zm1 zKS zuq zNS zm_1177 4000 zt_1177_13 = true := z1F (zdt_X6_whyNotWho) (by decide +kernel)
set_option maxRecDepth 100000 in
theorem zk_1177_14 : zm1 zKS zuq zNS zm_1177 4000 zt_1177_14 = true := z1F (zdt_X6_whyNotWho) (by decide +kernel)
set_option maxRecDepth 100000 in
theorem zk_1177_15 : zm1 zKS zuq zNS zm_1177 4000 zt_1177_15 = true := z1F (zdt_X6_whyNotWho) (by decide +kernel)
set_option maxRecDepth 100000 in
theorem zk_1177_16 : zm1 zKS zuq zNS zm_1177 4000 zt_1177_16 = true := z1F (zdt_X6_whyNotWho) (by decide +kernel)
set_option maxRecDepth 100000 in
theorem zk_1177_17 : zm1 zKS zuq zNS zm_1177 4000 zt_1177_17 = true := z1F (zdt_X6_whyNotWho) (by decide +kernel)
set_option maxRecDepth 100000 in
theorem zk_1177_18 : zm1 zKS zuq zNS zm_1177 4000 zt_1177_18 = true := z1F (zdt_X6_whyNotWho) (by decide +kernel)
set_option maxRecDepth 100000 in
theorem zk_1177_19 : zm1 zKS zuq zNS zm_1177 4000 zt_1177_19 = true := z1F (zdt_X6_whyNotWho) (by decide +kernel)
set_option maxRecDepth 100000 in
theorem zk_1177_20 : zm1 zKS zuq zNS zm_1177 4000 zt_1177_20 = true := z1F (zdt_X6_whyNotWho) (by decide +kernel)
set_option maxRecDepth 100000 in
theorem zk_1177_21 : zm1 zKS zuq zNS zm_1177 4000 zt_1177_21 = true := z1F (zdt_X6_whyNotWho) (by decide +kernel)
set_option maxRecDepth 100000 in
theorem zk_1177_22 : zm1 zKS zuq zNS zm_1177 4000 zt_1177_22 = true := z1F (zdt_X6_whyNotWho) (by decide +kernel)
set_option maxRecDepth 100000 in
theorem zk_1177_23 : zm1 zKS zuq zNS zm_1177 4000 zt_1177_23 = true := z1F (zdt_X6_whyNotWho) (by decide +kernel)
set_option maxRecDepth 100000 in
theorem zk_1177_24 : zm1 zKS zuq zNS zm_1177 4000 zt_1177_24 = true := z1F (zdt_X6_whyNotWho) (by decide +kernel)
set_option maxRecDepth 100000 in
theorem zk_1177_25 : zm1 zKS zuq zNS zm_1177 4000 zt_1177_25 = true := z1F (zdt_X6_whyNotWho) (by decide +kernel)
set_option maxRecDepth 100000 in
theorem zk_1177_26 : zm1 zKS zuq zNS zm_1177 4000 zt_1177_26 = true := z1F (zdt_X6_whyNotWho) (by decide +kernel)
set_option maxRecDepth 100000 in
theorem zk_1177_27 : zm1 zKS zuq zNS zm_1177 4000 zt_1177_27 = true := z1F (zdt_X6_whyNotWho) (by decide +kernel)
set_option maxRecDepth 100000 in
theorem zk_1177_28 : zm1 zKS zuq zNS zm_1177 4000 zt_1177_28 = true := z1F (zdt_X6_whyNotWho) (by decide +kernel)
set_option maxRecDepth 100000 in
theorem zk_1177_29 : zm1 zKS zuq zNS zm_1177 4000 zt_1177_29 = true := z1F (zdt_X6_whyNotWho) (by decide +kernel)
set_option maxRecDepth 100000 in
theorem zk_1177_30 : zm1 zKS zuq zNS zm_1177 4000 zt_1177_30 = true := z1F (zdt_X6_whyNotWho) (by decide +kernel)
set_option maxRecDepth 100000 in
theorem zk_1177_s : zm0 zKS zuq zNS zm_1177 4000 = true := z0F (zdt_X6_whyNotWho) (by decide +kernel)
set_option maxRecDepth 100000 in
theorem zk_1177 : zmeth zKS zuq zNS zm_1177 4000 = true := zmeth_by zk_1177_s (List.forall_mem_cons.mpr ⟨zk_1177_0, (List.forall_mem_cons.mpr ⟨zk_1177_1, (List.forall_mem_cons.mpr ⟨zk_1177_2, (List.forall_mem_cons.mpr ⟨zk_1177_3, (List.forall_mem_cons.mpr ⟨zk_1177_4, (List.forall_mem_cons.mpr ⟨zk_1177_5, (List.forall_mem_cons.mpr ⟨zk_1177_6, (List.forall_mem_cons.mpr ⟨zk_1177_7, (List.forall_mem_cons.mpr ⟨zk_1177_8, (List.forall_mem_cons.mpr ⟨zk_1177_9, (List.forall_mem_cons.mpr ⟨zk_1177_10, (List.forall_mem_cons.mpr ⟨zk_1177_11, (List.forall_mem_cons.mpr ⟨zk_1177_12, (List.forall_mem_cons.mpr ⟨zk_1177_13, (List.forall_mem_cons.mpr ⟨zk_1177_14, (List.forall_mem_cons.mpr ⟨zk_1177_15, (List.forall_mem_cons.mpr ⟨zk_1177_16, (List.forall_mem_cons.mpr ⟨zk_1177_17, (List.forall_mem_cons.mpr ⟨zk_1177_18, (List.forall_mem_cons.mpr ⟨zk_1177_19, (List.forall_mem_cons.mpr ⟨zk_1177_20, (List.forall_mem_cons.mpr ⟨zk_1177_21, (List.forall_mem_cons.mpr ⟨zk_1177_22, (List.forall_mem_cons.mpr ⟨zk_1177_23, (List.forall_mem_cons.mpr ⟨zk_1177_24, (List.forall_mem_cons.mpr ⟨zk_1177_25, (List.forall_mem_cons.mpr ⟨zk_1177_26, (List.forall_mem_cons.mpr ⟨zk_1177_27, (List.forall_mem_cons.mpr ⟨zk_1177_28, (List.forall_mem_cons.mpr ⟨zk_1177_29, (List.forall_mem_cons.mpr ⟨zk_1177_30, nilz⟩)⟩)⟩)⟩)⟩)⟩)⟩)⟩)⟩)⟩)⟩)⟩)⟩)⟩)⟩)⟩)⟩)⟩)⟩)⟩)⟩)⟩)⟩)⟩)⟩)⟩)⟩)⟩)⟩)⟩)⟩)
set_option maxRecDepth 100000 in
theorem zM_1177 {l : Launch} {D : va_G} {cI cZ cB cJ cR : ClassId} {ks ad : List Nat} {Psi : va_W → Prop} (hw : zworld ks ad zuq zNS Psi) (hm : zMan l D cI cZ cB cJ cR ks ad Psi) : zMet l D cI cZ cB cJ cR zKS ks ad Psi yX6_whyNotWho (.code yX6_whyNotWho cX6_whyNotWho 3 (some .int)) 5 zc_1177 :=
  zmet_of hw 5 (by decide) 4000 zk_1177 (by decide) (by decide) (fun X => ⟨zg_RX6 X, zp_RX6 X, zl1_RX6 X, zl2_RX6 X, nilz, (List.forall_mem_cons.mpr ⟨zq_RX6_80 X (zM_935 hw hm) (by decide) rfl, (List.forall_mem_cons.mpr ⟨zq_RX6_267 X (zM_928 hw hm) (by decide) rfl rfl, (List.forall_mem_cons.mpr ⟨zq_RX6_270 X (zman_1017 hm) (by decide) rfl rfl, (List.forall_mem_cons.mpr ⟨zq_RX6_276 X (zM_923 hw hm) (by decide) rfl rfl, (List.forall_mem_cons.mpr ⟨zq_RX6_322 X (zM_931 hw hm) (by decide) rfl rfl, nilz⟩)⟩)⟩)⟩)⟩)⟩)
set_option maxRecDepth 100000 in
theorem zk_1185 : zmeth zKS zuq zNS zm_1185 4000 = true := zqF (zdt0 _) (by decide +kernel)
theorem zM_1185 {l : Launch} {D : va_G} {cI cZ cB cJ cR : ClassId} {ks ad : List Nat} {Psi : va_W → Prop} (hw : zworld ks ad zuq zNS Psi) (hm : zMan l D cI cZ cB cJ cR ks ad Psi) : zMet l D cI cZ cB cJ cR zKS ks ad Psi yX6_witness (.code yX6_witness cX6_witness 3 (some .int)) 5 zc_1185 :=
  zmet_of hw 5 (by decide) 4000 zk_1185 (by decide) (by decide) (fun X => ⟨zg_RX6 X, zp_RX6 X, zl1_RX6 X, zl2_RX6 X, nilz, (List.forall_mem_cons.mpr ⟨zq_RX6_267 X (zM_928 hw hm) (by decide) rfl rfl, (List.forall_mem_cons.mpr ⟨zq_RX6_270 X (zman_1017 hm) (by decide) rfl rfl, (List.forall_mem_cons.mpr ⟨zq_RX6_322 X (zM_931 hw hm) (by decide) rfl rfl, (List.forall_mem_cons.mpr ⟨zq_RX6_325 X (zM_1186 hw hm) (by decide) rfl rfl, nilz⟩)⟩)⟩)⟩)⟩)
set_option maxRecDepth 100000 in
theorem zk_632 : zmeth zKS zuq zNS zm_632 4000 = true := zqF (zdt0 _) (by decide +kernel)
theorem zM_632 {l : Launch} {D : va_G} {cI cZ cB cJ cR : ClassId} {ks ad : List Nat} {Psi : va_W → Prop} (hw : zworld ks ad zuq zNS Psi) (hm : zMan l D cI cZ cB cJ cR ks ad Psi) : zMet l D cI cZ cB cJ cR zKS ks ad Psi yX5_ask (.code yX5_ask cX5_ask 3 (some .int)) 6 zc_632 :=
  zmet_of hw 6 (by decide) 4000 zk_632 (by decide) (by decide) (fun X => ⟨zg_RX5 X, zp_RX5 X, zl1_RX5 X, zl2_RX5 X, nilz, (List.forall_mem_cons.mpr ⟨zq_RX5_230 X (zM_767 hw hm) (by decide) rfl rfl, (List.forall_mem_cons.mpr ⟨zq_RX5_230 X (zM_768 hw hm) (by decide) rfl rfl, (List.forall_mem_cons.mpr ⟨zq_RX5_230 X (zM_769 hw hm) (by decide) rfl rfl, (List.forall_mem_cons.mpr ⟨zq_RX5_230 X (zM_770 hw hm) (by decide) rfl rfl, (List.forall_mem_cons.mpr ⟨zq_RX5_230 X (zM_771 hw hm) (by decide) rfl rfl, (List.forall_mem_cons.mpr ⟨zq_RX5_230 X (zM_766 hw hm) (by decide) rfl rfl, (List.forall_mem_cons.mpr ⟨zq_RX5_236 X (zM_636 hw hm) (by decide) rfl rfl, (List.forall_mem_cons.mpr ⟨zq_RX5_236 X (zM_637 hw hm) (by decide) rfl rfl, (List.forall_mem_cons.mpr ⟨zq_RX5_236 X (zM_638 hw hm) (by decide) rfl rfl, (List.forall_mem_cons.mpr ⟨zq_RX5_236 X (zM_639 hw hm) (by decide) rfl rfl, nilz⟩)⟩)⟩)⟩)⟩)⟩)⟩)⟩)⟩)⟩)⟩)
set_option maxRecDepth 100000 in
theorem zk_635 : zmeth zKS zuq zNS zm_635 4000 = true := zqF (zdt0 _) (by decide +kernel)
theorem zM_635 {l : Launch} {D : va_G} {cI cZ cB cJ cR : ClassId} {ks ad : List Nat} {Psi : va_W → Prop} (hw : zworld ks ad zuq zNS Psi) (hm : zMan l D cI cZ cB cJ cR ks ad Psi) : zMet l D cI cZ cB cJ cR zKS ks ad Psi yX5_best (.code yX5_best cX5_best 1 (some .int)) 6 zc_635 :=
  zmet_of hw 6 (by decide) 4000 zk_635 (by decide) (by decide) (fun X => ⟨zg_RX5 X, zp_RX5 X, zl1_RX5 X, zl2_RX5 X, nilz, (List.forall_mem_cons.mpr ⟨zq_RX5_115 X (zM_287 hw hm) (by decide) rfl rfl, (List.forall_mem_cons.mpr ⟨zq_RX5_154 X (zM_805 hw hm) (by decide) rfl rfl, nilz⟩)⟩)⟩)
set_option maxRecDepth 100000 in
theorem zk_645 : zmeth zKS zuq zNS zm_645 4000 = true := zqF (zdt0 _) (by decide +kernel)
theorem zM_645 {l : Launch} {D : va_G} {cI cZ cB cJ cR : ClassId} {ks ad : List Nat} {Psi : va_W → Prop} (hw : zworld ks ad zuq zNS Psi) (hm : zMan l D cI cZ cB cJ cR ks ad Psi) : zMet l D cI cZ cB cJ cR zKS ks ad Psi yX5_clean (.code yX5_clean cX5_clean 1 (some .int)) 6 zc_645 :=
  zmet_of hw 6 (by decide) 4000 zk_645 (by decide) (by decide) (fun X => ⟨zg_RX5 X, zp_RX5 X, zl1_RX5 X, zl2_RX5 X, nilz, (List.forall_mem_cons.mpr ⟨zq_RX5_115 X (zM_287 hw hm) (by decide) rfl rfl, (List.forall_mem_cons.mpr ⟨zq_RX5_154 X (zM_805 hw hm) (by decide) rfl rfl, nilz⟩)⟩)⟩)
