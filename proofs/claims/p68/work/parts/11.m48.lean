set_option maxRecDepth 100000 in
theorem zk_1164_0 : zm1 zKS zuq zNS zm_1164 4000 zt_1164_0 = true := z1F (zdt_X6_whoOf) (by decide +kernel)
set_option maxRecDepth 100000 in
theorem zk_1164_1 : zm1 zKS zuq zNS zm_1164 4000 zt_1164_1 = true := z1F (zdt_X6_whoOf) (by decide +kernel)
set_option maxRecDepth 100000 in
theorem zk_1164_2 : zm1 zKS zuq zNS zm_1164 4000 zt_1164_2 = true := z1F (zdt_X6_whoOf) (by decide +kernel)
set_option maxRecDepth 100000 in
theorem zk_1164_3 : zm1 zKS zuq zNS zm_1164 4000 zt_1164_3 = true := z1F (zdt_X6_whoOf) (by decide +kernel)
set_option maxRecDepth 100000 in
theorem zk_1164_4 : zm1 zKS zuq zNS zm_1164 4000 zt_1164_4 = true := z1F (zdt_X6_whoOf) (by decide +kernel)
set_option maxRecDepth 100000 in
theorem zk_1164_5 : zm1 zKS zuq zNS zm_1164 4000 zt_1164_5 = true := z1F (zdt_X6_whoOf) (by decide +kernel)
set_option maxRecDepth 100000 in
theorem zk_1164_6 : zm1 zKS zuq zNS zm_1164 4000 zt_1164_6 = true := z1F (zdt_X6_whoOf) (by decide +kernel)
set_option maxRecDepth 100000 in
theorem zk_1164_7 : zm1 zKS zuq zNS zm_1164 4000 zt_1164_7 = true := z1F (zdt_X6_whoOf) (by decide +kernel)
set_option maxRecDepth 100000 in
theorem zk_1164_8 : zm1 zKS zuq zNS zm_1164 4000 zt_1164_8 = true := z1F (zdt_X6_whoOf) (by decide +kernel)
set_option maxRecDepth 100000 in
theorem zk_1164_9 : zm1 zKS zuq zNS zm_1164 4000 zt_1164_9 = true := z1F (zdt_X6_whoOf) (by decide +kernel)
set_option maxRecDepth 100000 in
theorem zk_1164_10 : zm1 zKS zuq zNS zm_1164 4000 zt_1164_10 = true := z1F (zdt_X6_whoOf) (by decide +kernel)
set_option maxRecDepth 100000 in
theorem zk_1164_11 : zm1 zKS zuq zNS zm_1164 4000 zt_1164_11 = true := z1F (zdt_X6_whoOf) (by decide +kernel)
set_option maxRecDepth 100000 in
theorem zk_1164_12 : zm1 zKS zuq zNS zm_1164 4000 zt_1164_12 = true := z1F (zdt_X6_whoOf) (by decide +kernel)
set_option maxRecDepth 100000 in
theorem zk_1164_13 : zm1 zKS zuq zNS zm_1164 4000 zt_1164_13 = true := z1F (zdt_X6_whoOf) (by decide +kernel)
set_option maxRecDepth 100000 in
theorem zk_1164_14 : zm1 zKS zuq zNS zm_1164 4000 zt_1164_14 = true := z1F (zdt_X6_whoOf) (by decide +kernel)
set_option maxRecDepth 100000 in
theorem zk_1164_15 : zm1 zKS zuq zNS zm_1164 4000 zt_1164_15 = true := z1F (zdt_X6_whoOf) (by decide +kernel)
set_option maxRecDepth 100000 in
theorem zk_1164_16 : zm1 zKS zuq zNS zm_1164 4000 zt_1164_16 = true := z1F (zdt_X6_whoOf) (by decide +kernel)
set_option maxRecDepth 100000 in
theorem zk_1164_17 : zm1 zKS zuq zNS zm_1164 4000 zt_1164_17 = true := z1F (zdt_X6_whoOf) (by decide +kernel)
set_option maxRecDepth 100000 in
theorem zk_1164_18 : zm1 zKS zuq zNS zm_1164 4000 zt_1164_18 = true := z1F (zdt_X6_whoOf) (by decide +kernel)
set_option maxRecDepth 100000 in
theorem zk_1164_19 : zm1 zKS zuq zNS zm_1164 4000 zt_1164_19 = true := z1F (zdt_X6_whoOf) (by decide +kernel)
set_option maxRecDepth 100000 in
theorem zk_1164_20 : zm1 zKS zuq zNS zm_1164 4000 zt_1164_20 = true := z1F (zdt_X6_whoOf) (by decide +kernel)
set_option maxRecDepth 100000 in
theorem zk_1164_21 : zm1 zKS zuq zNS zm_1164 4000 zt_1164_21 = true := z1F (zdt_X6_whoOf) (by decide +kernel)
set_option maxRecDepth 100000 in
theorem zk_1164_22 : zm1 zKS zuq zNS zm_1164 4000 zt_1164_22 = true := z1F (zdt_X6_whoOf) (by decide +kernel)
set_option maxRecDepth 100000 in
theorem zk_1164_23 : zm1 zKS zuq zNS zm_1164 4000 zt_1164_23 = true := z1F (zdt_X6_whoOf) (by decide +kernel)
set_option maxRecDepth 100000 in
theorem zk_1164_24 : zm1 zKS zuq zNS zm_1164 4000 zt_1164_24 = true := z1F (zdt_X6_whoOf) (by decide +kernel)
set_option maxRecDepth 100000 in
theorem zk_1164_25 : zm1 zKS zuq zNS zm_1164 4000 zt_1164_25 = true := z1F (zdt_X6_whoOf) (by decide +kernel)
set_option maxRecDepth 100000 in
theorem zk_1164_26 : zm1 zKS zuq zNS zm_1164 4000 zt_1164_26 = true := z1F (zdt_X6_whoOf) (by decide +kernel)
set_option maxRecDepth 100000 in
theorem zk_1164_27 : zm1 zKS zuq zNS zm_1164 4000 zt_1164_27 = true := z1F (zdt_X6_whoOf) (by decide +kernel)
set_option maxRecDepth 100000 in
theorem zk_1164_28 : zm1 zKS zuq zNS zm_1164 4000 zt_1164_28 = true := z1F (zdt_X6_whoOf) (by decide +kernel)
set_option maxRecDepth 100000 in
theorem zk_1164_29 : zm1 zKS zuq zNS zm_1164 4000 zt_1164_29 = true := z1F (zdt_X6_whoOf) (by decide +kernel)
set_option maxRecDepth 100000 in
theorem zk_1164_30 : zm1 zKS zuq zNS zm_1164 4000 zt_1164_30 = true := z1F (zdt_X6_whoOf) (by decide +kernel)
set_option maxRecDepth 100000 in
theorem zk_1164_31 : zm1 zKS zuq zNS zm_1164 4000 zt_1164_31 = true := z1F (zdt_X6_whoOf) (by decide +kernel)
set_option maxRecDepth 100000 in
theorem zk_1164_32 : zm1 zKS zuq zNS zm_1164 4000 zt_1164_32 = true := z1F (zdt_X6_whoOf) (by decide +kernel)
set_option maxRecDepth 100000 in
theorem zk_1164_s : zm0 zKS zuq zNS zm_1164 4000 = true := z0F (zdt_X6_whoOf) (by decide +kernel)
set_option maxRecDepth 100000 in
theorem zk_1164 : zmeth zKS zuq zNS zm_1164 4000 = true := zmeth_by zk_1164_s (List.forall_mem_cons.mpr ⟨zk_1164_0, (List.forall_mem_cons.mpr ⟨zk_1164_1, (List.forall_mem_cons.mpr ⟨zk_1164_2, (List.forall_mem_cons.mpr ⟨zk_1164_3, (List.forall_mem_cons.mpr ⟨zk_1164_4, (List.forall_mem_cons.mpr ⟨zk_1164_5, (List.forall_mem_cons.mpr ⟨zk_1164_6, (List.forall_mem_cons.mpr ⟨zk_1164_7, (List.forall_mem_cons.mpr ⟨zk_1164_8, (List.forall_mem_cons.mpr ⟨zk_1164_9, (List.forall_mem_cons.mpr ⟨zk_1164_10, (List.forall_mem_cons.mpr ⟨zk_1164_11, (List.forall_mem_cons.mpr ⟨zk_1164_12, (List.forall_mem_cons.mpr ⟨zk_1164_13, (List.forall_mem_cons.mpr ⟨zk_1164_14, (List.forall_mem_cons.mpr ⟨zk_1164_15, (List.forall_mem_cons.mpr ⟨zk_1164_16, (List.forall_mem_cons.mpr ⟨zk_1164_17, (List.forall_mem_cons.mpr ⟨zk_1164_18, (List.forall_mem_cons.mpr ⟨zk_1164_19, (List.forall_mem_cons.mpr ⟨zk_1164_20, (List.forall_mem_cons.mpr ⟨zk_1164_21, (List.forall_mem_cons.mpr ⟨zk_1164_22, (List.forall_mem_cons.mpr ⟨zk_1164_23, (List.forall_mem_cons.mpr ⟨zk_1164_24, (List.forall_mem_cons.mpr ⟨zk_1164_25, (List.forall_mem_cons.mpr ⟨zk_1164_26, (List.forall_mem_cons.mpr ⟨zk_1164_27, (List.forall_mem_cons.mpr ⟨zk_1164_28, (List.forall_mem_cons.mpr ⟨zk_1164_29, (List.forall_mem_cons.mpr ⟨zk_1164_30, (List.forall_mem_cons.mpr ⟨zk_1164_31, (List.forall_mem_cons.mpr ⟨zk_1164_32, nilz⟩)⟩)⟩)⟩)⟩)⟩)⟩)⟩)⟩)⟩)⟩)⟩)⟩)⟩)⟩)⟩)⟩)⟩)⟩)⟩)⟩)⟩)⟩)⟩)⟩)⟩)⟩)⟩)⟩)⟩)⟩)⟩)⟩)
set_option maxRecDepth 100000 in
theorem zM_1164 {l : Launch} {D : va_G} {cI cZ cB cJ cR : ClassId} {ks ad : List Nat} {Psi : va_W → Prop} (hw : zworld ks ad zuq zNS Psi) (hm : zMan l D cI cZ cB cJ cR ks ad Psi) : zMet l D cI cZ cB cJ cR zKS ks ad Psi yX6_whoOf (.code yX6_whoOf cX6_whoOf 6 (some .int)) 6 zc_1164 :=
  zmet_of hw 6 (by decide) 4000 zk_1164 (by decide) (by decide) (fun X => ⟨zg_RX6 X, zp_RX6 X, zl1_RX6 X, zl2_RX6 X, nilz, (List.forall_mem_cons.mpr ⟨zq_RX6_227 X (zM_1061 hw hm) (by decide) rfl rfl, (List.forall_mem_cons.mpr ⟨zq_RX6_340 X (zM_842 hw hm) (by decide) rfl rfl, nilz⟩)⟩)⟩)
set_option maxRecDepth 100000 in
theorem zk_1165_0 : zm1 zKS zuq zNS zm_1165 4000 zt_1165_0 = true := z1F (zdt_X6_whoOf) (by decide +kernel)
set_option maxRecDepth 100000 in
theorem zk_1165_1 : zm1 zKS zuq zNS zm_1165 4000 zt_1165_1 = true := z1F (zdt_X6_whoOf) (by decide +kernel)
set_option maxRecDepth 100000 in
theorem zk_1165_2 : zm1 zKS zuq zNS zm_1165 4000 zt_1165_2 = true := z1F (zdt_X6_whoOf) (by decide +kernel)
set_option maxRecDepth 100000 in
theorem zk_1165_3 : zm1 zKS zuq zNS zm_1165 4000 zt_1165_3 = true := z1F (zdt_X6_whoOf) (by decide +kernel)
set_option maxRecDepth 100000 in
theorem zk_1165_4 : zm1 zKS zuq zNS zm_1165 4000 zt_1165_4 = true := z1F (zdt_X6_whoOf) (by decide +kernel)
set_option maxRecDepth 100000 in
theorem zk_1165_5 : zm1 zKS zuq zNS zm_1165 4000 zt_1165_5 = true := z1F (zdt_X6_whoOf) (by decide +kernel)
set_option maxRecDepth 100000 in
theorem zk_1165_6 : zm1 zKS zuq zNS zm_1165 4000 zt_1165_6 = true := z1F (zdt_X6_whoOf) (by decide +kernel)
set_option maxRecDepth 100000 in
theorem zk_1165_7 : zm1 zKS zuq zNS zm_1165 4000 zt_1165_7 = true := z1F (zdt_X6_whoOf) (by decide +kernel)
set_option maxRecDepth 100000 in
theorem zk_1165_8 : zm1 zKS zuq zNS zm_1165 4000 zt_1165_8 = true := z1F (zdt_X6_whoOf) (by decide +kernel)
set_option maxRecDepth 100000 in
theorem zk_1165_9 : zm1 zKS zuq zNS zm_1165 4000 zt_1165_9 = true := z1F (zdt_X6_whoOf) (by decide +kernel)
set_option maxRecDepth 100000 in
theorem zk_1165_10 : zm1 zKS zuq zNS zm_1165 4000 zt_1165_10 = true := z1F (zdt_X6_whoOf) (by decide +kernel)
set_option maxRecDepth 100000 in
theorem zk_1165_11 : zm1 zKS zuq zNS zm_1165 4000 zt_1165_11 = true := z1F (zdt_X6_whoOf) (by decide +kernel)
set_option maxRecDepth 100000 in
theorem zk_1165_12 : zm1 zKS zuq zNS zm_1165 4000 zt_1165_12 = true := z1F (zdt_X6_whoOf) (by decide +kernel)
set_option maxRecDepth 100000 in
theorem zk_1165_13 : zm1 zKS zuq zNS zm_1165 4000 zt_1165_13 = true := z1F (zdt_X6_whoOf) (by decide +kernel)
set_option maxRecDepth 100000 in
theorem zk_1165_14 : zm1 zKS zuq zNS zm_1165 4000 zt_1165_14 = true := z1F (zdt_X6_whoOf) (by decide +kernel)
set_option maxRecDepth 100000 in
theorem zk_1165_15 : zm1 zKS zuq zNS zm_1165 4000 zt_1165_15 = true := z1F (zdt_X6_whoOf) (by decide +kernel)
set_option maxRecDepth 100000 in
theorem zk_1165_16 : zm1 zKS zuq zNS zm_1165 4000 zt_1165_16 = true := z1F (zdt_X6_whoOf) (by decide +kernel)
set_option maxRecDepth 100000 in
theorem zk_1165_17 : zm1 zKS zuq zNS zm_1165 4000 zt_1165_17 = true := z1F (zdt_X6_whoOf) (by decide +kernel)
set_option maxRecDepth 100000 in
theorem zk_1165_18 : zm1 zKS zuq zNS zm_1165 4000 zt_1165_18 = true := z1F (zdt_X6_whoOf) (by decide +kernel)
set_option maxRecDepth 100000 in
theorem zk_1165_19 : zm1 zKS zuq zNS zm_1165 4000 zt_1165_19 = true := z1F (zdt_X6_whoOf) (by decide +kernel)
set_option maxRecDepth 100000 in
theorem zk_1165_20 : zm1 zKS zuq zNS zm_1165 4000 zt_1165_20 = true := z1F (zdt_X6_whoOf) (by decide +kernel)
set_option maxRecDepth 100000 in
theorem zk_1165_21 : zm1 zKS zuq zNS zm_1165 4000 zt_1165_21 = true := z1F (zdt_X6_whoOf) (by decide +kernel)
set_option maxRecDepth 100000 in
theorem zk_1165_22 : zm1 zKS zuq zNS zm_1165 4000 zt_1165_22 = true := z1F (zdt_X6_whoOf) (by decide +kernel)
set_option maxRecDepth 100000 in
theorem zk_1165_23 : zm1 zKS zuq zNS zm_1165 4000 zt_1165_23 = true := z1F (zdt_X6_whoOf) (by decide +kernel)
set_option maxRecDepth 100000 in
theorem zk_1165_24 : zm1 zKS zuq zNS zm_1165 4000 zt_1165_24 = true := z1F (zdt_X6_whoOf) (by decide +kernel)
set_option maxRecDepth 100000 in
theorem zk_1165_25 : zm1 zKS zuq zNS zm_1165 4000 zt_1165_25 = true := z1F (zdt_X6_whoOf) (by decide +kernel)
set_option maxRecDepth 100000 in
theorem zk_1165_26 : zm1 zKS zuq zNS zm_1165 4000 zt_1165_26 = true := z1F (zdt_X6_whoOf) (by decide +kernel)
set_option maxRecDepth 100000 in
theorem zk_1165_27 : zm1 zKS zuq zNS zm_1165 4000 zt_1165_27 = true := z1F (zdt_X6_whoOf) (by decide +kernel)
set_option maxRecDepth 100000 in
theorem zk_1165_28 : zm1 zKS zuq zNS zm_1165 4000 zt_1165_28 = true := z1F (zdt_X6_whoOf) (by decide +kernel)
set_option maxRecDepth 100000 in
theorem zk_1165_29 : zm1 zKS zuq zNS zm_1165 4000 zt_1165_29 = true := z1F (zdt_X6_whoOf) (by decide +kernel)
set_option maxRecDepth 100000 in
theorem zk_1165_30 : zm1 zKS zuq zNS zm_1165 4000 zt_1165_30 = true := z1F (zdt_X6_whoOf) (by decide +kernel)
set_option maxRecDepth 100000 in
theorem zk_1165_31 : zm1 zKS zuq zNS zm_1165 4000 zt_1165_31 = true := z1F (zdt_X6_whoOf) (by decide +kernel)
set_option maxRecDepth 100000 in
theorem zk_1165_32 : zm1 zKS zuq zNS zm_1165 4000 zt_1165_32 = true := z1F (zdt_X6_whoOf) (by decide +kernel)
set_option maxRecDepth 100000 in
theorem zk_1165_s : zm0 zKS zuq zNS zm_1165 4000 = true := z0F (zdt_X6_whoOf) (by decide +kernel)
set_option maxRecDepth 100000 in
theorem zk_1165 : zmeth zKS zuq zNS zm_1165 4000 = true := zmeth_by zk_1165_s (List.forall_mem_cons.mpr ⟨zk_1165_0, (List.forall_mem_cons.mpr ⟨zk_1165_1, (List.forall_mem_cons.mpr ⟨zk_1165_2, (List.forall_mem_cons.mpr ⟨zk_1165_3, (List.forall_mem_cons.mpr ⟨zk_1165_4, (List.forall_mem_cons.mpr ⟨zk_1165_5, (List.forall_mem_cons.mpr ⟨zk_1165_6, (List.forall_mem_cons.mpr ⟨zk_1165_7, (List.forall_mem_cons.mpr ⟨zk_1165_8, (List.forall_mem_cons.mpr ⟨zk_1165_9, (List.forall_mem_cons.mpr ⟨zk_1165_10, (List.forall_mem_cons.mpr ⟨zk_1165_11, (List.forall_mem_cons.mpr ⟨zk_1165_12, (List.forall_mem_cons.mpr ⟨zk_1165_13, (List.forall_mem_cons.mpr ⟨zk_1165_14, (List.forall_mem_cons.mpr ⟨zk_1165_15, (List.forall_mem_cons.mpr ⟨zk_1165_16, (List.forall_mem_cons.mpr ⟨zk_1165_17, (List.forall_mem_cons.mpr ⟨zk_1165_18, (List.forall_mem_cons.mpr ⟨zk_1165_19, (List.forall_mem_cons.mpr ⟨zk_1165_20, (List.forall_mem_cons.mpr ⟨zk_1165_21, (List.forall_mem_cons.mpr ⟨zk_1165_22, (List.forall_mem_cons.mpr ⟨zk_1165_23, (List.forall_mem_cons.mpr ⟨zk_1165_24, (List.forall_mem_cons.mpr ⟨zk_1165_25, (List.forall_mem_cons.mpr ⟨zk_1165_26, (List.forall_mem_cons.mpr ⟨zk_1165_27, (List.forall_mem_cons.mpr ⟨zk_1165_28, (List.forall_mem_cons.mpr ⟨zk_1165_29, (List.forall_mem_cons.mpr ⟨zk_1165_30, (List.forall_mem_cons.mpr ⟨zk_1165_31, (List.forall_mem_cons.mpr ⟨zk_1165_32, nilz⟩)⟩)⟩)⟩)⟩)⟩)⟩)⟩)⟩)⟩)⟩)⟩)⟩)⟩)⟩)⟩)⟩)⟩)⟩)⟩)⟩)⟩)⟩)⟩)⟩)⟩)⟩)⟩)⟩)⟩)⟩)⟩)⟩)
set_option maxRecDepth 100000 in
theorem zM_1165 {l : Launch} {D : va_G} {cI cZ cB cJ cR : ClassId} {ks ad : List Nat} {Psi : va_W → Prop} (hw : zworld ks ad zuq zNS Psi) (hm : zMan l D cI cZ cB cJ cR ks ad Psi) : zMet l D cI cZ cB cJ cR zKS ks ad Psi yX6_whoOf (.code yX6_whoOf cX6_whoOf 6 (some .int)) 6 zc_1165 :=
  zmet_of hw 6 (by decide) 4000 zk_1165 (by decide) (by decide) (fun X => ⟨zg_RX6 X, zp_RX6 X, zl1_RX6 X, zl2_RX6 X, nilz, (List.forall_mem_cons.mpr ⟨zq_RX6_227 X (zM_1061 hw hm) (by decide) rfl rfl, (List.forall_mem_cons.mpr ⟨zq_RX6_340 X (zM_842 hw hm) (by decide) rfl rfl, nilz⟩)⟩)⟩)
