set_option maxRecDepth 100000 in
theorem zk_1180_0 : zm1 zKS zuq zNS zm_1180 4000 zt_1180_0 = true := z1F (zdt_X6_whyNotWho) (by decide +kernel)
set_option maxRecDepth 100000 in
theorem zk_1180_1 : zm1 zKS zuq zNS zm_1180 4000 zt_1180_1 = true := z1F (zdt_X6_whyNotWho) (by decide +kernel)
set_option maxRecDepth 100000 in
theorem zk_1180_2 : zm1 zKS zuq zNS zm_1180 4000 zt_1180_2 = true := z1F (zdt_X6_whyNotWho) (by decide +kernel)
set_option maxRecDepth 100000 in
theorem zk_1180_3 : zm1 zKS zuq zNS zm_1180 4000 zt_1180_3 = true := z1F (zdt_X6_whyNotWho) (by decide +kernel)
set_option maxRecDepth 100000 in
theorem zk_1180_4 : zm1 zKS zuq zNS zm_1180 4000 zt_1180_4 = true := z1F (zdt_X6_whyNotWho) (by decide +kernel)
set_option maxRecDepth 100000 in
theorem zk_1180_5 : zm1 zKS zuq zNS zm_1180 4000 zt_1180_5 = true := z1F (zdt_X6_whyNotWho) (by decide +kernel)
set_option maxRecDepth 100000 in
theorem zk_1180_6 : zm1 zKS zuq zNS zm_1180 4000 zt_1180_6 = true := z1F (zdt_X6_whyNotWho) (by decide +kernel)
set_option maxRecDepth 100000 in
theorem zk_1180_7 : zm1 zKS zuq zNS zm_1180 4000 zt_1180_7 = true := z1F (zdt_X6_whyNotWho) (by decide +kernel)
set_option maxRecDepth 100000 in
theorem zk_1180_8 : zm1 zKS zuq zNS zm_1180 4000 zt_1180_8 = true := z1F (zdt_X6_whyNotWho) (by decide +kernel)
set_option maxRecDepth 100000 in
theorem zk_1180_9 : zm1 zKS zuq zNS zm_1180 4000 zt_1180_9 = true := z1F (zdt_X6_whyNotWho) (by decide +kernel)
set_option maxRecDepth 100000 in
theorem zk_1180_10 : zm1 zKS zuq zNS zm_1180 4000 zt_1180_10 = true := z1F (zdt_X6_whyNotWho) (by decide +kernel)
set_option maxRecDepth 100000 in
theorem zk_1180_11 : zm1 zKS zuq zNS zm_1180 4000 zt_1180_11 = true := z1F (zdt_X6_whyNotWho) (by decide +kernel)
set_option maxRecDepth 100000 in
theorem zk_1180_12 : zm1 zKS zuq zNS zm_1180 4000 zt_1180_12 = true := z1F (zdt_X6_whyNotWho) (by decide +kernel)
set_option maxRecDepth 100000 in
theorem zk_1180_13 : zm1 zKS zuq zNS zm_1180 4000 zt_1180_13 = true := z1F (zdt_X6_whyNotWho) (by decide +kernel)
set_option maxRecDepth 100000 in
theorem zk_1180_14 : zm1 zKS zuq zNS zm_1180 4000 zt_1180_14 = true := z1F (zdt_X6_whyNotWho) (by decide +kernel)
set_option maxRecDepth 100000 in
theorem zk_1180_15 : zm1 zKS zuq zNS zm_1180 4000 zt_1180_15 = true := z1F (zdt_X6_whyNotWho) (by decide +kernel)
set_option maxRecDepth 100000 in
theorem zk_1180_16 : zm1 zKS zuq zNS zm_1180 4000 zt_1180_16 = true := z1F (zdt_X6_whyNotWho) (by decide +kernel)
set_option maxRecDepth 100000 in
theorem zk_1180_17 : zm1 zKS zuq zNS zm_1180 4000 zt_1180_17 = true := z1F (zdt_X6_whyNotWho) (by decide +kernel)
set_option maxRecDepth 100000 in
theorem zk_1180_18 : zm1 zKS zuq zNS zm_1180 4000 zt_1180_18 = true := z1F (zdt_X6_whyNotWho) (by decide +kernel)
set_option maxRecDepth 100000 in
theorem zk_1180_19 : zm1 zKS zuq zNS zm_1180 4000 zt_1180_19 = true := z1F (zdt_X6_whyNotWho) (by decide +kernel)
set_option maxRecDepth 100000 in
theorem zk_1180_20 : zm1 zKS zuq zNS zm_1180 4000 zt_1180_20 = true := z1F (zdt_X6_whyNotWho) (by decide +kernel)
set_option maxRecDepth 100000 in
theorem zk_1180_21 : zm1 zKS zuq zNS zm_1180 4000 zt_1180_21 = true := z1F (zdt_X6_whyNotWho) (by decide +kernel)
set_option maxRecDepth 100000 in
theorem zk_1180_22 : zm1 zKS zuq zNS zm_1180 4000 zt_1180_22 = true := z1F (zdt_X6_whyNotWho) (by decide +kernel)
set_option maxRecDepth 100000 in
theorem zk_1180_23 : zm1 zKS zuq zNS zm_1180 4000 zt_1180_23 = true := z1F (zdt_X6_whyNotWho) (by decide +kernel)
set_option maxRecDepth 100000 in
theorem zk_1180_24 : zm1 zKS zuq zNS zm_1180 4000 zt_1180_24 = true := z1F (zdt_X6_whyNotWho) (by decide +kernel)
set_option maxRecDepth 100000 in
theorem zk_1180_25 : zm1 zKS zuq zNS zm_1180 4000 zt_1180_25 = true := z1F (zdt_X6_whyNotWho) (by decide +kernel)
set_option maxRecDepth 100000 in
theorem zk_1180_26 : zm1 zKS zuq zNS zm_1180 4000 zt_1180_26 = true := z1F (zdt_X6_whyNotWho) (by decide +kernel)
set_option maxRecDepth 100000 in
theorem zk_1180_27 : zm1 zKS zuq zNS zm_1180 4000 zt_1180_27 = true := z1F (zdt_X6_whyNotWho) (by decide +kernel)
set_option maxRecDepth 100000 in
theorem zk_1180_28 : zm1 zKS zuq zNS zm_1180 4000 zt_1180_28 = true := z1F (zdt_X6_whyNotWho) (by decide +kernel)
set_option maxRecDepth 100000 in
theorem zk_1180_29 : zm1 zKS zuq zNS zm_1180 4000 zt_1180_29 = true := z1F (zdt_X6_whyNotWho) (by decide +kernel)
set_option maxRecDepth 100000 in
theorem zk_1180_30 : zm1 zKS zuq zNS zm_1180 4000 zt_1180_30 = true := z1F (zdt_X6_whyNotWho) (by decide +kernel)
set_option maxRecDepth 100000 in
theorem zk_1180_s : zm0 zKS zuq zNS zm_1180 4000 = true := z0F (zdt_X6_whyNotWho) (by decide +kernel)
set_option maxRecDepth 100000 in
theorem zk_1180 : zmeth zKS zuq zNS zm_1180 4000 = true := zmeth_by zk_1180_s (List.forall_mem_cons.mpr ⟨zk_1180_0, (List.forall_mem_cons.mpr ⟨zk_1180_1, (List.forall_mem_cons.mpr ⟨zk_1180_2, (List.forall_mem_cons.mpr ⟨zk_1180_3, (List.forall_mem_cons.mpr ⟨zk_1180_4, (List.forall_mem_cons.mpr ⟨zk_1180_5, (List.forall_mem_cons.mpr ⟨zk_1180_6, (List.forall_mem_cons.mpr ⟨zk_1180_7, (List.forall_mem_cons.mpr ⟨zk_1180_8, (List.forall_mem_cons.mpr ⟨zk_1180_9, (List.forall_mem_cons.mpr ⟨zk_1180_10, (List.forall_mem_cons.mpr ⟨zk_1180_11, (List.forall_mem_cons.mpr ⟨zk_1180_12, (List.forall_mem_cons.mpr ⟨zk_1180_13, (List.forall_mem_cons.mpr ⟨zk_1180_14, (List.forall_mem_cons.mpr ⟨zk_1180_15, (List.forall_mem_cons.mpr ⟨zk_1180_16, (List.forall_mem_cons.mpr ⟨zk_1180_17, (List.forall_mem_cons.mpr ⟨zk_1180_18, (List.forall_mem_cons.mpr ⟨zk_1180_19, (List.forall_mem_cons.mpr ⟨zk_1180_20, (List.forall_mem_cons.mpr ⟨zk_1180_21, (List.forall_mem_cons.mpr ⟨zk_1180_22, (List.forall_mem_cons.mpr ⟨zk_1180_23, (List.forall_mem_cons.mpr ⟨zk_1180_24, (List.forall_mem_cons.mpr ⟨zk_1180_25, (List.forall_mem_cons.mpr ⟨zk_1180_26, (List.forall_mem_cons.mpr ⟨zk_1180_27, (List.forall_mem_cons.mpr ⟨zk_1180_28, (List.forall_mem_cons.mpr ⟨zk_1180_29, (List.forall_mem_cons.mpr ⟨zk_1180_30, nilz⟩)⟩)⟩)⟩)⟩)⟩)⟩)⟩)⟩)⟩)⟩)⟩)⟩)⟩)⟩)⟩)⟩)⟩)⟩)⟩)⟩)⟩)⟩)⟩)⟩)⟩)⟩)⟩)⟩)⟩)⟩)
set_option maxRecDepth 100000 in
theorem zM_1180 {l : Launch} {D : va_G} {cI cZ cB cJ cR : ClassId} {ks ad : List Nat} {Psi : va_W → Prop} (hw : zworld ks ad zuq zNS Psi) (hm : zMan l D cI cZ cB cJ cR ks ad Psi) : zMet l D cI cZ cB cJ cR zKS ks ad Psi yX6_whyNotWho (.code yX6_whyNotWho cX6_whyNotWho 3 (some .int)) 5 zc_1180 :=
  zmet_of hw 5 (by decide) 4000 zk_1180 (by decide) (by decide) (fun X => ⟨zg_RX6 X, zp_RX6 X, zl1_RX6 X, zl2_RX6 X, nilz, (List.forall_mem_cons.mpr ⟨zq_RX6_80 X (zM_939 hw hm) (by decide) rfl, (List.forall_mem_cons.mpr ⟨zq_RX6_267 X (zM_932 hw hm) (by decide) rfl rfl, (List.forall_mem_cons.mpr ⟨zq_RX6_270 X (zman_1021 hm) (by decide) rfl rfl, (List.forall_mem_cons.mpr ⟨zq_RX6_276 X (zM_927 hw hm) (by decide) rfl rfl, (List.forall_mem_cons.mpr ⟨zq_RX6_322 X (zM_935 hw hm) (by decide) rfl rfl, nilz⟩)⟩)⟩)⟩)⟩)⟩)
set_option maxRecDepth 100000 in
theorem zk_1181_0 : zm1 zKS zuq zNS zm_1181 4000 zt_1181_0 = true := z1F (zdt_X6_whyNotWho) (by decide +kernel)
set_option maxRecDepth 100000 in
theorem zk_1181_1 : zm1 zKS zuq zNS zm_1181 4000 zt_1181_1 = true := z1F (zdt_X6_whyNotWho) (by decide +kernel)
set_option maxRecDepth 100000 in
theorem zk_1181_2 : zm1 zKS zuq zNS zm_1181 4000 zt_1181_2 = true := z1F (zdt_X6_whyNotWho) (by decide +kernel)
set_option maxRecDepth 100000 in
theorem zk_1181_3 : zm1 zKS zuq zNS zm_1181 4000 zt_1181_3 = true := z1F (zdt_X6_whyNotWho) (by decide +kernel)
set_option maxRecDepth 100000 in
theorem zk_1181_4 : zm1 zKS zuq zNS zm_1181 4000 zt_1181_4 = true := z1F (zdt_X6_whyNotWho) (by decide +kernel)
set_option maxRecDepth 100000 in
theorem zk_1181_5 : zm1 zKS zuq zNS zm_1181 4000 zt_1181_5 = true := z1F (zdt_X6_whyNotWho) (by decide +kernel)
set_option maxRecDepth 100000 in
theorem zk_1181_6 : zm1 zKS zuq zNS zm_1181 4000 zt_1181_6 = true := z1F (zdt_X6_whyNotWho) (by decide +kernel)
set_option maxRecDepth 100000 in
theorem zk_1181_7 : zm1 zKS zuq zNS zm_1181 4000 zt_1181_7 = true := z1F (zdt_X6_whyNotWho) (by decide +kernel)
set_option maxRecDepth 100000 in
theorem zk_1181_8 : zm1 zKS zuq zNS zm_1181 4000 zt_1181_8 = true := z1F (zdt_X6_whyNotWho) (by decide +kernel)
set_option maxRecDepth 100000 in
theorem zk_1181_9 : zm1 zKS zuq zNS zm_1181 4000 zt_1181_9 = true := z1F (zdt_X6_whyNotWho) (by decide +kernel)
set_option maxRecDepth 100000 in
theorem zk_1181_10 : zm1 zKS zuq zNS zm_1181 4000 zt_1181_10 = true := z1F (zdt_X6_whyNotWho) (by decide +kernel)
set_option maxRecDepth 100000 in
theorem zk_1181_11 : zm1 zKS zuq zNS zm_1181 4000 zt_1181_11 = true := z1F (zdt_X6_whyNotWho) (by decide +kernel)
set_option maxRecDepth 100000 in
theorem zk_1181_12 : zm1 zKS zuq zNS zm_1181 4000 zt_1181_12 = true := z1F (zdt_X6_whyNotWho) (by decide +kernel)
set_option maxRecDepth 100000 in
theorem zk_1181_13 : zm1 zKS zuq zNS zm_1181 4000 zt_1181_13 = true := z1F (zdt_X6_whyNotWho) (by decide +kernel)
set_option maxRecDepth 100000 in
theorem zk_1181_14 : zm1 zKS zuq zNS zm_1181 4000 zt_1181_14 = true := z1F (zdt_X6_whyNotWho) (by decide +kernel)
set_option maxRecDepth 100000 in
theorem zk_1181_15 : zm1 zKS zuq zNS zm_1181 4000 zt_1181_15 = true := z1F (zdt_X6_whyNotWho) (by decide +kernel)
set_option maxRecDepth 100000 in
theorem zk_1181_16 : zm1 zKS zuq zNS zm_1181 4000 zt_1181_16 = true := z1F (zdt_X6_whyNotWho) (by decide +kernel)
set_option maxRecDepth 100000 in
theorem zk_1181_17 : zm1 zKS zuq zNS zm_1181 4000 zt_1181_17 = true := z1F (zdt_X6_whyNotWho) (by decide +kernel)
set_option maxRecDepth 100000 in
theorem zk_1181_18 : zm1 zKS zuq zNS zm_1181 4000 zt_1181_18 = true := z1F (zdt_X6_whyNotWho) (by decide +kernel)
set_option maxRecDepth 100000 in
theorem zk_1181_19 : zm1 zKS zuq zNS zm_1181 4000 zt_1181_19 = true := z1F (zdt_X6_whyNotWho) (by decide +kernel)
set_option maxRecDepth 100000 in
theorem zk_1181_20 : zm1 zKS zuq zNS zm_1181 4000 zt_1181_20 = true := z1F (zdt_X6_whyNotWho) (by decide +kernel)
set_option maxRecDepth 100000 in
theorem zk_1181_21 : zm1 zKS zuq zNS zm_1181 4000 zt_1181_21 = true := z1F (zdt_X6_whyNotWho) (by decide +kernel)
set_option maxRecDepth 100000 in
theorem zk_1181_22 : zm1 zKS zuq zNS zm_1181 4000 zt_1181_22 = true := z1F (zdt_X6_whyNotWho) (by decide +kernel)
set_option maxRecDepth 100000 in
theorem zk_1181_23 : zm1 zKS zuq zNS zm_1181 4000 zt_1181_23 = true := z1F (zdt_X6_whyNotWho) (by decide +kernel)
set_option maxRecDepth 100000 in
theorem zk_1181_24 : zm1 zKS zuq zNS zm_1181 4000 zt_1181_24 = true := z1F (zdt_X6_whyNotWho) (by decide +kernel)
set_option maxRecDepth 100000 in
theorem zk_1181_25 : zm1 zKS zuq zNS zm_1181 4000 zt_1181_25 = true := z1F (zdt_X6_whyNotWho) (by decide +kernel)
set_option maxRecDepth 100000 in
theorem zk_1181_26 : zm1 zKS zuq zNS zm_1181 4000 zt_1181_26 = true := z1F (zdt_X6_whyNotWho) (by decide +kernel)
set_option maxRecDepth 100000 in
theorem zk_1181_27 : zm1 zKS zuq zNS zm_1181 4000 zt_1181_27 = true := z1F (zdt_X6_whyNotWho) (by decide +kernel)
set_option maxRecDepth 100000 in
theorem zk_1181_28 : zm1 zKS zuq zNS zm_1181 4000 zt_1181_28 = true := z1F (zdt_X6_whyNotWho) (by decide +kernel)
set_option maxRecDepth 100000 in
theorem zk_1181_29 : zm1 zKS zuq zNS zm_1181 4000 zt_1181_29 = true := z1F (zdt_X6_whyNotWho) (by decide +kernel)
set_option maxRecDepth 100000 in
theorem zk_1181_30 : zm1 zKS zuq zNS zm_1181 4000 zt_1181_30 = true := z1F (zdt_X6_whyNotWho) (by decide +kernel)
set_option maxRecDepth 100000 in
theorem zk_1181_s : zm0 zKS zuq zNS zm_1181 4000 = true := z0F (zdt_X6_whyNotWho) (by decide +kernel)
set_option maxRecDepth 100000 in
theorem zk_1181 : zmeth zKS zuq zNS zm_1181 4000 = true := zmeth_by zk_1181_s (List.forall_mem_cons.mpr ⟨zk_1181_0, (List.forall_mem_cons.mpr ⟨zk_1181_1, (List.forall_mem_cons.mpr ⟨zk_1181_2, (List.forall_mem_cons.mpr ⟨zk_1181_3, (List.forall_mem_cons.mpr ⟨zk_1181_4, (List.forall_mem_cons.mpr ⟨zk_1181_5, (List.forall_mem_cons.mpr ⟨zk_1181_6, (List.forall_mem_cons.mpr ⟨zk_1181_7, (List.forall_mem_cons.mpr ⟨zk_1181_8, (List.forall_mem_cons.mpr ⟨zk_1181_9, (List.forall_mem_cons.mpr ⟨zk_1181_10, (List.forall_mem_cons.mpr ⟨zk_1181_11, (List.forall_mem_cons.mpr ⟨zk_1181_12, (List.forall_mem_cons.mpr ⟨zk_1181_13, (List.forall_mem_cons.mpr ⟨zk_1181_14, (List.forall_mem_cons.mpr ⟨zk_1181_15, (List.forall_mem_cons.mpr ⟨zk_1181_16, (List.forall_mem_cons.mpr ⟨zk_1181_17, (List.forall_mem_cons.mpr ⟨zk_1181_18, (List.forall_mem_cons.mpr ⟨zk_1181_19, (List.forall_mem_cons.mpr ⟨zk_1181_20, (List.forall_mem_cons.mpr ⟨zk_1181_21, (List.forall_mem_cons.mpr ⟨zk_1181_22, (List.forall_mem_cons.mpr ⟨zk_1181_23, (List.forall_mem_cons.mpr ⟨zk_1181_24, (List.forall_mem_cons.mpr ⟨zk_1181_25, (List.forall_mem_cons.mpr ⟨zk_1181_26, (List.forall_mem_cons.mpr ⟨zk_1181_27, (List.forall_mem_cons.mpr ⟨zk_1181_28, (List.forall_mem_cons.mpr ⟨zk_1181_29, (List.forall_mem_cons.mpr ⟨zk_1181_30, nilz⟩)⟩)⟩)⟩)⟩)⟩)⟩)⟩)⟩)⟩)⟩)⟩)⟩)⟩)⟩)⟩)⟩)⟩)⟩)⟩)⟩)⟩)⟩)⟩)⟩)⟩)⟩)⟩)⟩)⟩)⟩)
set_option maxRecDepth 100000 in
theorem zM_1181 {l : Launch} {D : va_G} {cI cZ cB cJ cR : ClassId} {ks ad : List Nat} {Psi : va_W → Prop} (hw : zworld ks ad zuq zNS Psi) (hm : zMan l D cI cZ cB cJ cR ks ad Psi) : zMet l D cI cZ cB cJ cR zKS ks ad Psi yX6_whyNotWho (.code yX6_whyNotWho cX6_whyNotWho 3 (some .int)) 5 zc_1181 :=
  zmet_of hw 5 (by decide) 4000 zk_1181 (by decide) (by decide) (fun X => ⟨zg_RX6 X, zp_RX6 X, zl1_RX6 X, zl2_RX6 X, nilz, (List.forall_mem_cons.mpr ⟨zq_RX6_80 X (zM_939 hw hm) (by decide) rfl, (List.forall_mem_cons.mpr ⟨zq_RX6_267 X (zM_932 hw hm) (by decide) rfl rfl, (List.forall_mem_cons.mpr ⟨zq_RX6_270 X (zman_1021 hm) (by decide) rfl rfl, (List.forall_mem_cons.mpr ⟨zq_RX6_276 X (zM_927 hw hm) (by decide) rfl rfl, (List.forall_mem_cons.mpr ⟨zq_RX6_322 X (zM_935 hw hm) (by decide) rfl rfl, nilz⟩)⟩)⟩)⟩)⟩)⟩)
set_option maxRecDepth 100000 in
theorem zk_1189 : zmeth zKS zuq zNS zm_1189 4000 = true := zqF (zdt0 _) (by decide +kernel)
theorem zM_1189 {l : Launch} {D : va_G} {cI cZ cB cJ cR : ClassId} {ks ad : List Nat} {Psi : va_W → Prop} (hw : zworld ks ad zuq zNS Psi) (hm : zMan l D cI cZ cB cJ cR ks ad Psi) : zMet l D cI cZ cB cJ cR zKS ks ad Psi yX6_witness (.code yX6_witness cX6_witness 3 (some .int)) 5 zc_1189 :=
  zmet_of hw 5 (by decide) 4000 zk_1189 (by decide) (by decide) (fun X => ⟨zg_RX6 X, zp_RX6 X, zl1_RX6 X, zl2_RX6 X, nilz, (List.forall_mem_cons.mpr ⟨zq_RX6_267 X (zM_932 hw hm) (by decide) rfl rfl, (List.forall_mem_cons.mpr ⟨zq_RX6_270 X (zman_1021 hm) (by decide) rfl rfl, (List.forall_mem_cons.mpr ⟨zq_RX6_322 X (zM_935 hw hm) (by decide) rfl rfl, (List.forall_mem_cons.mpr ⟨zq_RX6_325 X (zM_1190 hw hm) (by decide) rfl rfl, nilz⟩)⟩)⟩)⟩)⟩)
set_option maxRecDepth 100000 in
theorem zk_636 : zmeth zKS zuq zNS zm_636 4000 = true := zqF (zdt0 _) (by decide +kernel)
theorem zM_636 {l : Launch} {D : va_G} {cI cZ cB cJ cR : ClassId} {ks ad : List Nat} {Psi : va_W → Prop} (hw : zworld ks ad zuq zNS Psi) (hm : zMan l D cI cZ cB cJ cR ks ad Psi) : zMet l D cI cZ cB cJ cR zKS ks ad Psi yX5_ask (.code yX5_ask cX5_ask 3 (some .int)) 6 zc_636 :=
  zmet_of hw 6 (by decide) 4000 zk_636 (by decide) (by decide) (fun X => ⟨zg_RX5 X, zp_RX5 X, zl1_RX5 X, zl2_RX5 X, nilz, (List.forall_mem_cons.mpr ⟨zq_RX5_230 X (zM_771 hw hm) (by decide) rfl rfl, (List.forall_mem_cons.mpr ⟨zq_RX5_230 X (zM_772 hw hm) (by decide) rfl rfl, (List.forall_mem_cons.mpr ⟨zq_RX5_230 X (zM_773 hw hm) (by decide) rfl rfl, (List.forall_mem_cons.mpr ⟨zq_RX5_230 X (zM_774 hw hm) (by decide) rfl rfl, (List.forall_mem_cons.mpr ⟨zq_RX5_230 X (zM_775 hw hm) (by decide) rfl rfl, (List.forall_mem_cons.mpr ⟨zq_RX5_230 X (zM_770 hw hm) (by decide) rfl rfl, (List.forall_mem_cons.mpr ⟨zq_RX5_236 X (zM_640 hw hm) (by decide) rfl rfl, (List.forall_mem_cons.mpr ⟨zq_RX5_236 X (zM_641 hw hm) (by decide) rfl rfl, (List.forall_mem_cons.mpr ⟨zq_RX5_236 X (zM_642 hw hm) (by decide) rfl rfl, (List.forall_mem_cons.mpr ⟨zq_RX5_236 X (zM_643 hw hm) (by decide) rfl rfl, nilz⟩)⟩)⟩)⟩)⟩)⟩)⟩)⟩)⟩)⟩)⟩)
set_option maxRecDepth 100000 in
theorem zk_639 : zmeth zKS zuq zNS zm_639 4000 = true := zqF (zdt0 _) (by decide +kernel)
theorem zM_639 {l : Launch} {D : va_G} {cI cZ cB cJ cR : ClassId} {ks ad : List Nat} {Psi : va_W → Prop} (hw : zworld ks ad zuq zNS Psi) (hm : zMan l D cI cZ cB cJ cR ks ad Psi) : zMet l D cI cZ cB cJ cR zKS ks ad Psi yX5_best (.code yX5_best cX5_best 1 (some .int)) 6 zc_639 :=
  zmet_of hw 6 (by decide) 4000 zk_639 (by decide) (by decide) (fun X => ⟨zg_RX5 X, zp_RX5 X, zl1_RX5 X, zl2_RX5 X, nilz, (List.forall_mem_cons.mpr ⟨zq_RX5_115 X (zM_287 hw hm) (by decide) rfl rfl, (List.forall_mem_cons.mpr ⟨zq_RX5_154 X (zM_809 hw hm) (by decide) rfl rfl, nilz⟩)⟩)⟩)
set_option maxRecDepth 100000 in
theorem zk_649 : zmeth zKS zuq zNS zm_649 4000 = true := zqF (zdt0 _) (by decide +kernel)
theorem zM_649 {l : Launch} {D : va_G} {cI cZ cB cJ cR : ClassId} {ks ad : List Nat} {Psi : va_W → Prop} (hw : zworld ks ad zuq zNS Psi) (hm : zMan l D cI cZ cB cJ cR ks ad Psi) : zMet l D cI cZ cB cJ cR zKS ks ad Psi yX5_clean (.code yX5_clean cX5_clean 1 (some .int)) 6 zc_649 :=
  zmet_of hw 6 (by decide) 4000 zk_649 (by decide) (by decide) (fun X => ⟨zg_RX5 X, zp_RX5 X, zl1_RX5 X, zl2_RX5 X, nilz, (List.forall_mem_cons.mpr ⟨zq_RX5_115 X (zM_287 hw hm) (by decide) rfl rfl, (List.forall_mem_cons.mpr ⟨zq_RX5_154 X (zM_809 hw hm) (by decide) rfl rfl, nilz⟩)⟩)⟩)
