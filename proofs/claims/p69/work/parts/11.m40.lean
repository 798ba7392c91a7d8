set_option maxRecDepth 100000 in
theorem zk_1178_0 : zm1 zKS zuq zNS zm_1178 4000 zt_1178_0 = true := z1F (zdt_X6_whyNotWho) (by decide +kernel)
set_option maxRecDepth 100000 in
theorem zk_1178_1 : zm1 zKS zuq zNS zm_1178 4000 zt_1178_1 = true := z1F (zdt_X6_whyNotWho) (by decide +kernel)
set_option maxRecDepth 100000 in
theorem zk_1178_2 : zm1 zKS zuq zNS zm_1178 4000 zt_1178_2 = true := z1F (zdt_X6_whyNotWho) (by decide +kernel)
set_option maxRecDepth 100000 in
theorem zk_1178_3 : zm1 zKS zuq zNS zm_1178 4000 zt_1178_3 = true := z1F (zdt_X6_whyNotWho) (by decide +kernel)
set_option maxRecDepth 100000 in
theorem zk_1178_4 : zm1 zKS zuq zNS zm_1178 4000 zt_1178_4 = true := z1F (zdt_X6_whyNotWho) (by decide +kernel)
set_option maxRecDepth 100000 in
theorem zk_1178_5 : zm1 zKS zuq zNS zm_1178 4000 zt_1178_5 = true := z1F (zdt_X6_whyNotWho) (by decide +kernel)
set_option maxRecDepth 100000 in
theorem zk_1178_6 : zm1 zKS zuq zNS zm_1178 4000 zt_1178_6 = true := z1F (zdt_X6_whyNotWho) (by decide +kernel)
set_option maxRecDepth 100000 in
theorem zk_1178_7 : zm1 zKS zuq zNS zm_1178 4000 zt_1178_7 = true := z1F (zdt_X6_whyNotWho) (by decide +kernel)
set_option maxRecDepth 100000 in
theorem zk_1178_8 : zm1 zKS zuq zNS zm_1178 4000 zt_1178_8 = true := z1F (zdt_X6_whyNotWho) (by decide +kernel)
set_option maxRecDepth 100000 in
theorem zk_1178_9 : zm1 zKS zuq zNS zm_1178 4000 zt_1178_9 = true := z1F (zdt_X6_whyNotWho) (by decide +kernel)
set_option maxRecDepth 100000 in
theorem zk_1178_10 : zm1 zKS zuq zNS zm_1178 4000 zt_1178_10 = true := z1F (zdt_X6_whyNotWho) (by decide +kernel)
set_option maxRecDepth 100000 in
theorem zk_1178_11 : zm1 zKS zuq zNS zm_1178 4000 zt_1178_11 = true := z1F (zdt_X6_whyNotWho) (by decide +kernel)
set_option maxRecDepth 100000 in
theorem zk_1178_12 : zm1 zKS zuq zNS zm_1178 4000 zt_1178_12 = true := z1F (zdt_X6_whyNotWho) (by decide +kernel)
set_option maxRecDepth 100000 in
theorem zk_1178_13 : zm1 zKS zuq zNS zm_1178 4000 zt_1178_13 = true := z1F (zdt_X6_whyNotWho) (by decide +kernel)
set_option maxRecDepth 100000 in
theorem zk_1178_14 : zm1 zKS zuq zNS zm_1178 4000 zt_1178_14 = true := z1F (zdt_X6_whyNotWho) (by decide +kernel)
set_option maxRecDepth 100000 in
theorem zk_1178_15 : zm1 zKS zuq zNS zm_1178 4000 zt_1178_15 = true := z1F (zdt_X6_whyNotWho) (by decide +kernel)
set_option maxRecDepth 100000 in
theorem zk_1178_16 : zm1 zKS zuq zNS zm_1178 4000 zt_1178_16 = true := z1F (zdt_X6_whyNotWho) (by decide +kernel)
set_option maxRecDepth 100000 in
theorem zk_1178_17 : zm1 zKS zuq zNS zm_1178 4000 zt_1178_17 = true := z1F (zdt_X6_whyNotWho) (by decide +kernel)
set_option maxRecDepth 100000 in
theorem zk_1178_18 : zm1 zKS zuq zNS zm_1178 4000 zt_1178_18 = true := z1F (zdt_X6_whyNotWho) (by decide +kernel)
set_option maxRecDepth 100000 in
theorem zk_1178_19 : zm1 zKS zuq zNS zm_1178 4000 zt_1178_19 = true := z1F (zdt_X6_whyNotWho) (by decide +kernel)
set_option maxRecDepth 100000 in
theorem zk_1178_20 : zm1 zKS zuq zNS zm_1178 4000 zt_1178_20 = true := z1F (zdt_X6_whyNotWho) (by decide +kernel)
set_option maxRecDepth 100000 in
theorem zk_1178_21 : zm1 zKS zuq zNS zm_1178 4000 zt_1178_21 = true := z1F (zdt_X6_whyNotWho) (by decide +kernel)
set_option maxRecDepth 100000 in
theorem zk_1178_22 : zm1 zKS zuq zNS zm_1178 4000 zt_1178_22 = true := z1F (zdt_X6_whyNotWho) (by decide +kernel)
set_option maxRecDepth 100000 in
theorem zk_1178_23 : zm1 zKS zuq zNS zm_1178 4000 zt_1178_23 = true := z1F (zdt_X6_whyNotWho) (by decide +kernel)
set_option maxRecDepth 100000 in
theorem zk_1178_24 : zm1 zKS zuq zNS zm_1178 4000 zt_1178_24 = true := z1F (zdt_X6_whyNotWho) (by decide +kernel)
set_option maxRecDepth 100000 in
theorem zk_1178_25 : zm1 zKS zuq zNS zm_1178 4000 zt_1178_25 = true := z1F (zdt_X6_whyNotWho) (by decide +kernel)
set_option maxRecDepth 100000 in
theorem zk_1178_26 : zm1 zKS zuq zNS zm_1178 4000 zt_1178_26 = true := z1F (zdt_X6_whyNotWho) (by decide +kernel)
set_option maxRecDepth 100000 in
theorem zk_1178_27 : zm1 zKS zuq zNS zm_1178 4000 zt_1178_27 = true := z1F (zdt_X6_whyNotWho) (by decide +kernel)
set_option maxRecDepth 100000 in
theorem zk_1178_28 : zm1 zKS zuq zNS zm_1178 4000 zt_1178_28 = true := z1F (zdt_X6_whyNotWho) (by decide +kernel)
set_option maxRecDepth 100000 in
theorem zk_1178_29 : zm1 zKS zuq zNS zm_1178 4000 zt_1178_29 = true := z1F (zdt_X6_whyNotWho) (by decide +kernel)
set_option maxRecDepth 100000 in
theorem zk_1178_30 : zm1 zKS zuq zNS zm_1178 4000 zt_1178_30 = true := z1F (zdt_X6_whyNotWho) (by decide +kernel)
set_option maxRecDepth 100000 in
theorem zk_1178_s : zm0 zKS zuq zNS zm_1178 4000 = true := z0F (zdt_X6_whyNotWho) (by decide +kernel)
set_option maxRecDepth 100000 in
theorem zk_1178 : zmeth zKS zuq zNS zm_1178 4000 = true := zmeth_by zk_1178_s (List.forall_mem_cons.mpr ⟨zk_1178_0, (List.forall_mem_cons.mpr ⟨zk_1178_1, (List.forall_mem_cons.mpr ⟨zk_1178_2, (List.forall_mem_cons.mpr ⟨zk_1178_3, (List.forall_mem_cons.mpr ⟨zk_1178_4, (List.forall_mem_cons.mpr ⟨zk_1178_5, (List.forall_mem_cons.mpr ⟨zk_1178_6, (List.forall_mem_cons.mpr ⟨zk_1178_7, (List.forall_mem_cons.mpr ⟨zk_1178_8, (List.forall_mem_cons.mpr ⟨zk_1178_9, (List.forall_mem_cons.mpr ⟨zk_1178_10, (List.forall_mem_cons.mpr ⟨zk_1178_11, (List.forall_mem_cons.mpr ⟨zk_1178_12, (List.forall_mem_cons.mpr ⟨zk_1178_13, (List.forall_mem_cons.mpr ⟨zk_1178_14, (List.forall_mem_cons.mpr ⟨zk_1178_15, (List.forall_mem_cons.mpr ⟨zk_1178_16, (List.forall_mem_cons.mpr ⟨zk_1178_17, (List.forall_mem_cons.mpr ⟨zk_1178_18, (List.forall_mem_cons.mpr ⟨zk_1178_19, (List.forall_mem_cons.mpr ⟨zk_1178_20, (List.forall_mem_cons.mpr ⟨zk_1178_21, (List.forall_mem_cons.mpr ⟨zk_1178_22, (List.forall_mem_cons.mpr ⟨zk_1178_23, (List.forall_mem_cons.mpr ⟨zk_1178_24, (List.forall_mem_cons.mpr ⟨zk_1178_25, (List.forall_mem_cons.mpr ⟨zk_1178_26, (List.forall_mem_cons.mpr ⟨zk_1178_27, (List.forall_mem_cons.mpr ⟨zk_1178_28, (List.forall_mem_cons.mpr ⟨zk_1178_29, (List.forall_mem_cons.mpr ⟨zk_1178_30, nilz⟩)⟩)⟩)⟩)⟩)⟩)⟩)⟩)⟩)⟩)⟩)⟩)⟩)⟩)⟩)⟩)⟩)⟩)⟩)⟩)⟩)⟩)⟩)⟩)⟩)⟩)⟩)⟩)⟩)⟩)⟩)
set_option maxRecDepth 100000 in
theorem zM_1178 {l : Launch} {D : va_G} {cI cZ cB cJ cR : ClassId} {ks ad : List Nat} {Psi : va_W → Prop} (hw : zworld ks ad zuq zNS Psi) (hm : zMan l D cI cZ cB cJ cR ks ad Psi) : zMet l D cI cZ cB cJ cR zKS ks ad Psi yX6_whyNotWho (.code yX6_whyNotWho cX6_whyNotWho 3 (some .int)) 5 zc_1178 :=
  zmet_of hw 5 (by decide) 4000 zk_1178 (by decide) (by decide) (fun X => ⟨zg_RX6 X, zp_RX6 X, zl1_RX6 X, zl2_RX6 X, nilz, (List.forall_mem_cons.mpr ⟨zq_RX6_80 X (zM_939 hw hm) (by decide) rfl, (List.forall_mem_cons.mpr ⟨zq_RX6_267 X (zM_932 hw hm) (by decide) rfl rfl, (List.forall_mem_cons.mpr ⟨zq_RX6_270 X (zman_1021 hm) (by decide) rfl rfl, (List.forall_mem_cons.mpr ⟨zq_RX6_276 X (zM_927 hw hm) (by decide) rfl rfl, (List.forall_mem_cons.mpr ⟨zq_RX6_322 X (zM_935 hw hm) (by decide) rfl rfl, nilz⟩)⟩)⟩)⟩)⟩)⟩)
set_option maxRecDepth 100000 in
theorem zk_1179_0 : zm1 zKS zuq zNS zm_1179 4000 zt_1179_0 = true := z1F (zdt_X6_whyNotWho) (by decide +kernel)
set_option maxRecDepth 100000 in
theorem zk_1179_1 : zm1 zKS zuq zNS zm_1179 4000 zt_1179_1 = true := z1F (zdt_X6_whyNotWho) (by decide +kernel)
set_option maxRecDepth 100000 in
theorem zk_1179_2 : zm1 zKS zuq zNS zm_1179 4000 zt_1179_2 = true := z1F (zdt_X6_whyNotWho) (by decide +kernel)
set_option maxRecDepth 100000 in
theorem zk_1179_3 : zm1 zKS zuq zNS zm_1179 4000 zt_1179_3 = true := z1F (zdt_X6_whyNotWho) (by decide +kernel)
set_option maxRecDepth 100000 in
theorem zk_1179_4 : zm1 zKS zuq zNS zm_1179 4000 zt_1179_4 = true := z1F (zdt_X6_whyNotWho) (by decide +kernel)
set_option maxRecDepth 100000 in
theorem zk_1179_5 : zm1 zKS zuq zNS zm_1179 4000 zt_1179_5 = true := z1F (zdt_X6_whyNotWho) (by decide +kernel)
set_option maxRecDepth 100000 in
theorem zk_1179_6 : zm1 zKS zuq zNS zm_1179 4000 zt_1179_6 = true := z1F (zdt_X6_whyNotWho) (by decide +kernel)
set_option maxRecDepth 100000 in
theorem zk_1179_7 : zm1 zKS zuq zNS zm_1179 4000 zt_1179_7 = true := z1F (zdt_X6_whyNotWho) (by decide +kernel)
set_option maxRecDepth 100000 in
theorem zk_1179_8 : zm1 zKS zuq zNS zm_1179 4000 zt_1179_8 = true := z1F (zdt_X6_whyNotWho) (by decide +kernel)
set_option maxRecDepth 100000 in
theorem zk_1179_9 : zm1 zKS zuq zNS zm_1179 4000 zt_1179_9 = true := z1F (zdt_X6_whyNotWho) (by decide +kernel)
set_option maxRecDepth 100000 in
theorem zk_1179_10 : zm1 zKS zuq zNS zm_1179 4000 zt_1179_10 = true := z1F (zdt_X6_whyNotWho) (by decide +kernel)
set_option maxRecDepth 100000 in
theorem zk_1179_11 : zm1 zKS zuq zNS zm_1179 4000 zt_1179_11 = true := z1F (zdt_X6_whyNotWho) (by decide +kernel)
set_option maxRecDepth 100000 in
theorem zk_1179_12 : zm1 zKS zuq zNS zm_1179 4000 zt_1179_12 = true := z1F (zdt_X6_whyNotWho) (by decide +kernel)
set_option maxRecDepth 100000 in
theorem zk_1179_13 : zm1 zKS zuq zNS zm_1179 4000 zt_1179_13 = true := z1F (zdt_X6_whyNotWho) (by decide +kernel)
set_option maxRecDepth 100000 in
theorem zk_1179_14 : zm1 zKS zuq zNS zm_1179 4000 zt_1179_14 = true := z1F (zdt_X6_whyNotWho) (by decide +kernel)
set_option maxRecDepth 100000 in
theorem zk_1179_15 : zm1 zKS zuq zNS zm_1179 4000 zt_1179_15 = true := z1F (zdt_X6_whyNotWho) (by decide +kernel)
set_option maxRecDepth 100000 in
theorem zk_1179_16 : zm1 zKS zuq zNS zm_1179 4000 zt_1179_16 = true := z1F (zdt_X6_whyNotWho) (by decide +kernel)
set_option maxRecDepth 100000 in
theorem zk_1179_17 : zm1 zKS zuq zNS zm_1179 4000 zt_1179_17 = true := z1F (zdt_X6_whyNotWho) (by decide +kernel)
set_option maxRecDepth 100000 in
theorem zk_1179_18 : zm1 zKS zuq zNS zm_1179 4000 zt_1179_18 = true := z1F (zdt_X6_whyNotWho) (by decide +kernel)
set_option maxRecDepth 100000 in
theorem zk_1179_19 : zm1 zKS zuq zNS zm_1179 4000 zt_1179_19 = true := z1F (zdt_X6_whyNotWho) (by decide +kernel)
set_option maxRecDepth 100000 in
theorem zk_1179_20 : zm1 zKS zuq zNS zm_1179 4000 zt_1179_20 = true := z1F (zdt_X6_whyNotWho) (by decide +kernel)
set_option maxRecDepth 100000 in
theorem zk_1179_21 : zm1 zKS zuq zNS zm_1179 4000 zt_1179_21 = true := z1F (zdt_X6_whyNotWho) (by decide +kernel)
set_option maxRecDepth 100000 in
theorem zk_1179_22 : zm1 zKS zuq zNS zm_1179 4000 zt_1179_22 = true := z1F (zdt_X6_whyNotWho) (by decide +kernel)
set_option maxRecDepth 100000 in
theorem zk_1179_23 : zm1 zKS zuq zNS zm_1179 4000 zt_1179_23 = true := z1F (zdt_X6_whyNotWho) (by decide +kernel)
set_option maxRecDepth 100000 in
theorem zk_1179_24 : zm1 zKS zuq zNS zm_1179 4000 zt_1179_24 = true := z1F (zdt_X6_whyNotWho) (by decide +kernel)
set_option maxRecDepth 100000 in
theorem zk_1179_25 : zm1 zKS zuq zNS zm_1179 4000 zt_1179_25 = true := z1F (zdt_X6_whyNotWho) (by decide +kernel)
set_option maxRecDepth 100000 in
theorem zk_1179_26 : zm1 zKS zuq zNS zm_1179 4000 zt_1179_26 = true := z1F (zdt_X6_whyNotWho) (by decide +kernel)
set_option maxRecDepth 100000 in
theorem zk_1179_27 : zm1 zKS zuq zNS zm_1179 4000 zt_1179_27 = true := z1F (zdt_X6_whyNotWho) (by decide +kernel)
set_option maxRecDepth 100000 in
theorem zk_1179_28 : zm1 zKS zuq zNS zm_1179 4000 zt_1179_28 = true := z1F (zdt_X6_whyNotWho) (by decide +kernel)
set_option maxRecDepth 100000 in
theorem zk_1179_29 : zm1 zKS zuq zNS zm_1179 4000 zt_1179_29 = true := z1F (zdt_X6_whyNotWho) (by decide +kernel)
set_option maxRecDepth 100000 in
theorem zk_1179_30 : zm1 zKS zuq zNS zm_1179 4000 zt_1179_30 = true := z1F (zdt_X6_whyNotWho) (by decide +kernel)
set_option maxRecDepth 100000 in
theorem zk_1179_s : zm0 zKS zuq zNS zm_1179 4000 = true := z0F (zdt_X6_whyNotWho) (by decide +kernel)
set_option maxRecDepth 100000 in
theorem zk_1179 : zmeth zKS zuq zNS zm_1179 4000 = true := zmeth_by zk_1179_s (List.forall_mem_cons.mpr ⟨zk_1179_0, (List.forall_mem_cons.mpr ⟨zk_1179_1, (List.forall_mem_cons.mpr ⟨zk_1179_2, (List.forall_mem_cons.mpr ⟨zk_1179_3, (List.forall_mem_cons.mpr ⟨zk_1179_4, (List.forall_mem_cons.mpr ⟨zk_1179_5, (List.forall_mem_cons.mpr ⟨zk_1179_6, (List.forall_mem_cons.mpr ⟨zk_1179_7, (List.forall_mem_cons.mpr ⟨zk_1179_8, (List.forall_mem_cons.mpr ⟨zk_1179_9, (List.forall_mem_cons.mpr ⟨zk_1179_10, (List.forall_mem_cons.mpr ⟨zk_1179_11, (List.forall_mem_cons.mpr ⟨zk_1179_12, (List.forall_mem_cons.mpr ⟨zk_1179_13, (List.forall_mem_cons.mpr ⟨zk_1179_14, (List.forall_mem_cons.mpr ⟨zk_1179_15, (List.forall_mem_cons.mpr ⟨zk_1179_16, (List.forall_mem_cons.mpr ⟨zk_1179_17, (List.forall_mem_cons.mpr ⟨zk_1179_18, (List.forall_mem_cons.mpr ⟨zk_1179_19, (List.forall_mem_cons.mpr ⟨zk_1179_20, (List.forall_mem_cons.mpr ⟨zk_1179_21, (List.forall_mem_cons.mpr ⟨zk_1179_22, (List.forall_mem_cons.mpr ⟨zk_1179_23, (List.forall_mem_cons.mpr ⟨zk_1179_24, (List.forall_mem_cons.mpr ⟨zk_1179_25, (List.forall_mem_cons.mpr ⟨zk_1179_26, (List.forall_mem_cons.mpr ⟨zk_1179_27, (List.forall_mem_cons.mpr ⟨zk_1179_28, (List.forall_mem_cons.mpr ⟨zk_1179_29, (List.forall_mem_cons.mpr ⟨zk_1179_30, nilz⟩)⟩)⟩)⟩)⟩)⟩)⟩)⟩)⟩)⟩)⟩)⟩)⟩)⟩)⟩)⟩)⟩)⟩)⟩)⟩)⟩)⟩)⟩)⟩)⟩)⟩)⟩)⟩)⟩)⟩)⟩)
set_option maxRecDepth 100000 in
theorem zM_1179 {l : Launch} {D : va_G} {cI cZ cB cJ cR : ClassId} {ks ad : List Nat} {Psi : va_W → Prop} (hw : zworld ks ad zuq zNS Psi) (hm : zMan l D cI cZ cB cJ cR ks ad Psi) : zMet l D cI cZ cB cJ cR zKS ks ad Psi yX6_whyNotWho (.code yX6_whyNotWho cX6_whyNotWho 3 (some .int)) 5 zc_1179 :=
  zmet_of hw 5 (by decide) 4000 zk_1179 (by decide) (by decide) (fun X => ⟨zg_RX6 X, zp_RX6 X, zl1_RX6 X, zl2_RX6 X, nilz, (List.forall_mem_cons.mpr ⟨zq_RX6_80 X (zM_939 hw hm) (by decide) rfl, (List.forall_mem_cons.mpr ⟨zq_RX6_267 X (zM_932 hw hm) (by decide) rfl rfl, (List.forall_mem_cons.mpr ⟨zq_RX6_270 X (zman_1021 hm) (by decide) rfl rfl, (List.forall_mem_cons.mpr ⟨zq_RX6_276 X (zM_927 hw hm) (by decide) rfl rfl, (List.forall_mem_cons.mpr ⟨zq_RX6_322 X (zM_935 hw hm) (by decide) rfl rfl, nilz⟩)⟩)⟩)⟩)⟩)⟩)
