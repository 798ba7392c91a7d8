set_option maxRecDepth 100000 in
theorem zk_1168_0 : zm1 zKS zuq zNS zm_1168 4000 zt_1168_0 = true := z1F (zdt_X6_whoOf) (by decide +kernel)
set_option maxRecDepth 100000 in
theorem zk_1168_1 : zm1 zKS zuq zNS zm_1168 4000 zt_1168_1 = true := z1F (zdt_X6_whoOf) (by decide +kernel)
set_option maxRecDepth 100000 in
theorem zk_1168_2 : zm1 zKS zuq zNS zm_1168 4000 zt_1168_2 = true := z1F (zdt_X6_whoOf) (by decide +kernel)
set_option maxRecDepth 100000 in
theorem zk_1168_3 : zm1 zKS zuq zNS zm_1168 4000 zt_1168_3 = true := z1F (zdt_X6_whoOf) (by decide +kernel)
set_option maxRecDepth 100000 in
theorem zk_1168_4 : zm1 zKS zuq zNS zm_1168 4000 zt_1168_4 = true := z1F (zdt_X6_whoOf) (by decide +kernel)
set_option maxRecDepth 100000 in
theorem zk_1168_5 : zm1 zKS zuq zNS zm_1168 4000 zt_1168_5 = true := z1F (zdt_X6_whoOf) (by decide +kernel)
set_option maxRecDepth 100000 in
theorem zk_1168_6 : zm1 zKS zuq zNS zm_1168 4000 zt_1168_6 = true := z1F (zdt_X6_whoOf) (by decide +kernel)
set_option maxRecDepth 100000 in
theorem zk_1168_7 : zm1 zKS zuq zNS zm_1168 4000 zt_1168_7 = true := z1F (zdt_X6_whoOf) (by decide +kernel)
set_option maxRecDepth 100000 in
theorem zk_1168_8 : zm1 zKS zuq zNS zm_1168 4000 zt_1168_8 = true := z1F (zdt_X6_whoOf) (by decide +kernel)
set_option maxRecDepth 100000 in
theorem zk_1168_9 : zm1 zKS zuq zNS zm_1168 4000 zt_1168_9 = true := z1F (zdt_X6_whoOf) (by decide +kernel)
set_option maxRecDepth 100000 in
theorem zk_1168_10 : zm1 zKS zuq zNS zm_1168 4000 zt_1168_10 = true := z1F (zdt_X6_whoOf) (by decide +kernel)
set_option maxRecDepth 100000 in
theorem zk_1168_11 : zm1 zKS zuq zNS zm_1168 4000 zt_1168_11 = true := z1F (zdt_X6_whoOf) (by decide +kernel)
set_option maxRecDepth 100000 in
theorem zk_1168_12 : zm1 zKS zuq zNS zm_1168 4000 zt_1168_12 = true := z1F (zdt_X6_whoOf) (by decide +kernel)
set_option maxRecDepth 100000 in
theorem zk_1168_13 : zm1 zKS zuq zNS zm_1168 4000 zt_1168_13 = true := z1F (zdt_X6_whoOf) (by decide +kernel)
set_option maxRecDepth 100000 in
theorem zk_1168_14 : zm1 zKS zuq zNS zm_1168 4000 zt_1168_14 = true := z1F (zdt_X6_whoOf) (by decide +kernel)
set_option maxRecDepth 100000 in
theorem zk_1168_15 : zm1 zKS zuq zNS zm_1168 4000 zt_1168_15 = true := z1F (zdt_X6_whoOf) (by decide +kernel)
set_option maxRecDepth 100000 in
theorem zk_1168_16 : zm1 zKS zuq zNS zm_1168 4000 zt_1168_16 = true := z1F (zdt_X6_whoOf) (by decide +kernel)
set_option maxRecDepth 100000 in
theorem zk_1168_17 : zm1 zKS zuq zNS zm_1168 4000 zt_1168_17 = true := z1F (zdt_X6_whoOf) (by decide +kernel)
set_option maxRecDepth 100000 in
theorem zk_1168_18 : zm1 zKS zuq zNS zm_1168 4000 zt_1168_18 = true := z1F (zdt_X6_whoOf) (by decide +kernel)
set_option maxRecDepth 100000 in
theorem zk_1168_19 : zm1 zKS zuq zNS zm_1168 4000 zt_1168_19 = true := z1F (zdt_X6_whoOf) (by decide +kernel)
set_option maxRecDepth 100000 in
theorem zk_1168_20 : zm1 zKS zuq zNS zm_1168 4000 zt_1168_20 = true := z1F (zdt_X6_whoOf) (by decide +kernel)
set_option maxRecDepth 100000 in
theorem zk_1168_21 : zm1 zKS zuq zNS zm_1168 4000 zt_1168_21 = true := z1F (zdt_X6_whoOf) (by decide +kernel)
set_option maxRecDepth 100000 in
theorem zk_1168_22 : zm1 zKS zuq zNS zm_1168 4000 zt_1168_22 = true := z1F (zdt_X6_whoOf) (by decide +kernel)
set_option maxRecDepth 100000 in
theorem zk_1168_23 : zm1 zKS zuq zNS zm_1168 4000 zt_1168_23 = true := z1F (zdt_X6_whoOf) (by decide +kernel)
set_option maxRecDepth 100000 in
theorem zk_1168_24 : zm1 zKS zuq zNS zm_1168 4000 zt_1168_24 = true := z1F (zdt_X6_whoOf) (by decide +kernel)
set_option maxRecDepth 100000 in
theorem zk_1168_25 : zm1 zKS zuq zNS zm_1168 4000 zt_1168_25 = true := z1F (zdt_X6_whoOf) (by decide +kernel)
set_option maxRecDepth 100000 in
theorem zk_1168_26 : zm1 zKS zuq zNS zm_1168 4000 zt_1168_26 = true := z1F (zdt_X6_whoOf) (by decide +kernel)
set_option maxRecDepth 100000 in
theorem zk_1168_27 : zm1 zKS zuq zNS zm_1168 4000 zt_1168_27 = true := z1F (zdt_X6_whoOf) (by decide +kernel)
set_option maxRecDepth 100000 in
theorem zk_1168_28 : zm1 zKS zuq zNS zm_1168 4000 zt_1168_28 = true := z1F (zdt_X6_whoOf) (by decide +kernel)
set_option maxRecDepth 100000 in
theorem zk_1168_29 : zm1 zKS zuq zNS zm_1168 4000 zt_1168_29 = true := z1F (zdt_X6_whoOf) (by decide +kernel)
set_option maxRecDepth 100000 in
theorem zk_1168_30 : zm1 zKS zuq zNS zm_1168 4000 zt_1168_30 = true := z1F (zdt_X6_whoOf) (by decide +kernel)
set_option maxRecDepth 100000 in
theorem zk_1168_31 : zm1 zKS zuq zNS zm_1168 4000 zt_1168_31 = true := z1F (zdt_X6_whoOf) (by decide +kernel)
set_option maxRecDepth 100000 in
theorem zk_1168_32 : zm1 zKS zuq zNS zm_1168 4000 zt_1168_32 = true := z1F (zdt_X6_whoOf) (by decide +kernel)
set_option maxRecDepth 100000 in
theorem zk_1168_s : zm0 zKS zuq zNS zm_1168 4000 = true := z0F (zdt_X6_whoOf) (by decide +kernel)
set_option maxRecDepth 100000 in
theorem zk_1168 : zmeth zKS zuq zNS zm_1168 4000 = true := zmeth_by zk_1168_s (List.forall_mem_cons.mpr ⟨zk_1168_0, (List.forall_mem_cons.mpr ⟨zk_1168_1, (List.forall_mem_cons.mpr ⟨zk_1168_2, (List.forall_mem_cons.mpr ⟨zk_1168_3, (List.forall_mem_cons.mpr ⟨zk_1168_4, (List.forall_mem_cons.mpr ⟨zk_1168_5, (List.forall_mem_cons.mpr ⟨zk_1168_6, (List.forall_mem_cons.mpr ⟨zk_1168_7, (List.forall_mem_cons.mpr ⟨zk_1168_8, (List.forall_mem_cons.mpr ⟨zk_1168_9, (List.forall_mem_cons.mpr ⟨zk_1168_10, (List.forall_mem_cons.mpr ⟨zk_1168_11, (List.forall_mem_cons.mpr ⟨zk_1168_12, (List.forall_mem_cons.mpr ⟨zk_1168_13, (List.forall_mem_cons.mpr ⟨zk_1168_14, (List.forall_mem_cons.mpr ⟨zk_1168_15, (List.forall_mem_cons.mpr ⟨zk_1168_16, (List.forall_mem_cons.mpr ⟨zk_1168_17, (List.forall_mem_cons.mpr ⟨zk_1168_18, (List.forall_mem_cons.mpr ⟨zk_1168_19, (List.forall_mem_cons.mpr ⟨zk_1168_20, (List.forall_mem_cons.mpr ⟨zk_1168_21, (List.forall_mem_cons.mpr ⟨zk_1168_22, (List.forall_mem_cons.mpr ⟨zk_1168_23, (List.forall_mem_cons.mpr ⟨zk_1168_24, (List.forall_mem_cons.mpr ⟨zk_1168_25, (List.forall_mem_cons.mpr ⟨zk_1168_26, (List.forall_mem_cons.mpr ⟨zk_1168_27, (List.forall_mem_cons.mpr ⟨zk_1168_28, (List.forall_mem_cons.mpr ⟨zk_1168_29, (List.forall_mem_cons.mpr ⟨zk_1168_30, (List.forall_mem_cons.mpr ⟨zk_1168_31, (List.forall_mem_cons.mpr ⟨zk_1168_32, nilz⟩)⟩)⟩)⟩)⟩)⟩)⟩)⟩)⟩)⟩)⟩)⟩)⟩)⟩)⟩)⟩)⟩)⟩)⟩)⟩)⟩)⟩)⟩)⟩)⟩)⟩)⟩)⟩)⟩)⟩)⟩)⟩)⟩)
set_option maxRecDepth 100000 in
theorem zM_1168 {l : Launch} {D : va_G} {cI cZ cB cJ cR : ClassId} {ks ad : List Nat} {Psi : va_W → Prop} (hw : zworld ks ad zuq zNS Psi) (hm : zMan l D cI cZ cB cJ cR ks ad Psi) : zMet l D cI cZ cB cJ cR zKS ks ad Psi yX6_whoOf (.code yX6_whoOf cX6_whoOf 6 (some .int)) 6 zc_1168 :=
  zmet_of hw 6 (by decide) 4000 zk_1168 (by decide) (by decide) (fun X => ⟨zg_RX6 X, zp_RX6 X, zl1_RX6 X, zl2_RX6 X, nilz, (List.forall_mem_cons.mpr ⟨zq_RX6_227 X (zM_1065 hw hm) (by decide) rfl rfl, (List.forall_mem_cons.mpr ⟨zq_RX6_340 X (zM_846 hw hm) (by decide) rfl rfl, nilz⟩)⟩)⟩)
set_option maxRecDepth 100000 in
theorem zk_1169_0 : zm1 zKS zuq zNS zm_1169 4000 zt_1169_0 = true := z1F (zdt_X6_whoOf) (by decide +kernel)
set_option maxRecDepth 100000 in
theorem zk_1169_1 : zm1 zKS zuq zNS zm_1169 4000 zt_1169_1 = true := z1F (zdt_X6_whoOf) (by decide +kernel)
set_option maxRecDepth 100000 in
theorem zk_1169_2 : zm1 zKS zuq zNS zm_1169 4000 zt_1169_2 = true := z1F (zdt_X6_whoOf) (by decide +kernel)
set_option maxRecDepth 100000 in
theorem zk_1169_3 : zm1 zKS zuq zNS zm_1169 4000 zt_1169_3 = true := z1F (zdt_X6_whoOf) (by decide +kernel)
set_option maxRecDepth 100000 in
theorem zk_1169_4 : zm1 zKS zuq zNS zm_1169 4000 zt_1169_4 = true := z1F (zdt_X6_whoOf) (by decide +kernel)
set_option maxRecDepth 100000 in
theorem zk_1169_5 : zm1 zKS zuq zNS zm_1169 4000 zt_1169_5 = true := z1F (zdt_X6_whoOf) (by decide +kernel)
set_option maxRecDepth 100000 in
theorem zk_1169_6 : zm1 zKS zuq zNS zm_1169 4000 zt_1169_6 = true := z1F (zdt_X6_whoOf) (by decide +kernel)
set_option maxRecDepth 100000 in
theorem zk_1169_7 : zm1 zKS zuq zNS zm_1169 4000 zt_1169_7 = true := z1F (zdt_X6_whoOf) (by decide +kernel)
set_option maxRecDepth 100000 in
theorem zk_1169_8 : zm1 zKS zuq zNS zm_1169 4000 zt_1169_8 = true := z1F (zdt_X6_whoOf) (by decide +kernel)
set_option maxRecDepth 100000 in
theorem zk_1169_9 : zm1 zKS zuq zNS zm_1169 4000 zt_1169_9 = true := z1F (zdt_X6_whoOf) (by decide +kernel)
set_option maxRecDepth 100000 in
theorem zk_1169_10 : zm1 zKS zuq zNS zm_1169 4000 zt_1169_10 = true := z1F (zdt_X6_whoOf) (by decide +kernel)
set_option maxRecDepth 100000 in
theorem zk_1169_11 : zm1 zKS zuq zNS zm_1169 4000 zt_1169_11 = true := z1F (zdt_X6_whoOf) (by decide +kernel)
set_option maxRecDepth 100000 in
theorem zk_1169_12 : zm1 zKS zuq zNS zm_1169 4000 zt_1169_12 = true := z1F (zdt_X6_whoOf) (by decide +kernel)
set_option maxRecDepth 100000 in
theorem zk_1169_13 : zm1 zKS zuq zNS zm_1169 4000 zt_1169_13 = true := z1F (zdt_X6_whoOf) (by decide +kernel)
set_option maxRecDepth 100000 in
theorem zk_1169_14 : zm1 zKS zuq zNS zm_1169 4000 zt_1169_14 = true := z1F (zdt_X6_whoOf) (by decide +kernel)
set_option maxRecDepth 100000 in
theorem zk_1169_15 : zm1 zKS zuq zNS zm_1169 4000 zt_1169_15 = true := z1F (zdt_X6_whoOf) (by decide +kernel)
set_option maxRecDepth 100000 in
theorem zk_1169_16 : zm1 zKS zuq zNS zm_1169 4000 zt_1169_16 = true := z1F (zdt_X6_whoOf) (by decide +kernel)
set_option maxRecDepth 100000 in
theorem zk_1169_17 : zm1 zKS zuq zNS zm_1169 4000 zt_1169_17 = true := z1F (zdt_X6_whoOf) (by decide +kernel)
set_option maxRecDepth 100000 in
theorem zk_1169_18 : zm1 zKS zuq zNS zm_1169 4000 zt_1169_18 = true := z1F (zdt_X6_whoOf) (by decide +kernel)
set_option maxRecDepth 100000 in
theorem zk_1169_19 : zm1 zKS zuq zNS zm_1169 4000 zt_1169_19 = true := z1F (zdt_X6_whoOf) (by decide +kernel)
set_option maxRecDepth 100000 in
theorem zk_1169_20 : zm1 zKS zuq zNS zm_1169 4000 zt_1169_20 = true := z1F (zdt_X6_whoOf) (by decide +kernel)
set_option maxRecDepth 100000 in
theorem zk_1169_21 : zm1 zKS zuq zNS zm_1169 4000 zt_1169_21 = true := z1F (zdt_X6_whoOf) (by decide +kernel)
set_option maxRecDepth 100000 in
theorem zk_1169_22 : zm1 zKS zuq zNS zm_1169 4000 zt_1169_22 = true := z1F (zdt_X6_whoOf) (by decide +kernel)
set_option maxRecDepth 100000 in
theorem zk_1169_23 : zm1 zKS zuq zNS zm_1169 4000 zt_1169_23 = true := z1F (zdt_X6_whoOf) (by decide +kernel)
set_option maxRecDepth 100000 in
theorem zk_1169_24 : zm1 zKS zuq zNS zm_1169 4000 zt_1169_24 = true := z1F (zdt_X6_whoOf) (by decide +kernel)
set_option maxRecDepth 100000 in
theorem zk_1169_25 : zm1 zKS zuq zNS zm_1169 4000 zt_1169_25 = true := z1F (zdt_X6_whoOf) (by decide +kernel)
set_option maxRecDepth 100000 in
theorem zk_1169_26 : zm1 zKS zuq zNS zm_1169 4000 zt_1169_26 = true := z1F (zdt_X6_whoOf) (by decide +kernel)
set_option maxRecDepth 100000 in
theorem zk_1169_27 : zm1 zKS zuq zNS zm_1169 4000 zt_1169_27 = true := z1F (zdt_X6_whoOf) (by decide +kernel)
set_option maxRecDepth 100000 in
theorem zk_1169_28 : zm1 zKS zuq zNS zm_1169 4000 zt_1169_28 = true := z1F (zdt_X6_whoOf) (by decide +kernel)
set_option maxRecDepth 100000 in
theorem zk_1169_29 : zm1 zKS zuq zNS zm_1169 4000 zt_1169_29 = true := z1F (zdt_X6_whoOf) (by decide +kernel)
set_option maxRecDepth 100000 in
theorem zk_1169_30 : zm1 zKS zuq zNS zm_1169 4000 zt_1169_30 = true := z1F (zdt_X6_whoOf) (by decide +kernel)
set_option maxRecDepth 100000 in
theorem zk_1169_31 : zm1 zKS zuq zNS zm_1169 4000 zt_1169_31 = true := z1F (zdt_X6_whoOf) (by decide +kernel)
set_option maxRecDepth 100000 in
theorem zk_1169_32 : zm1 zKS zuq zNS zm_1169 4000 zt_1169_32 = true := z1F (zdt_X6_whoOf) (by decide +kernel)
set_option maxRecDepth 100000 in
theorem zk_1169_s : zm0 zKS zuq zNS zm_1169 4000 = true := z0F (zdt_X6_whoOf) (by decide +kernel)
set_option maxRecDepth 100000 in
theorem zk_1169 : zmeth zKS zuq zNS zm_1169 4000 = true := zmeth_by zk_1169_s (List.forall_mem_cons.mpr ⟨zk_1169_0, (List.forall_mem_cons.mpr ⟨zk_1169_1, (List.forall_mem_cons.mpr ⟨zk_1169_2, (List.forall_mem_cons.mpr ⟨zk_1169_3, (List.forall_mem_cons.mpr ⟨zk_1169_4, (List.forall_mem_cons.mpr ⟨zk_1169_5, (List.forall_mem_cons.mpr ⟨zk_1169_6, (List.forall_mem_cons.mpr ⟨zk_1169_7, (List.forall_mem_cons.mpr ⟨zk_1169_8, (List.forall_mem_cons.mpr ⟨zk_1169_9, (List.forall_mem_cons.mpr ⟨zk_1169_10, (List.forall_mem_cons.mpr ⟨zk_1169_11, (List.forall_mem_cons.mpr ⟨zk_1169_12, (List.forall_mem_cons.mpr ⟨zk_1169_13, (List.forall_mem_cons.mpr ⟨zk_1169_14, (List.forall_mem_cons.mpr ⟨zk_1169_15, (List.forall_mem_cons.mpr ⟨zk_1169_16, (List.forall_mem_cons.mpr ⟨zk_1169_17, (List.forall_mem_cons.mpr ⟨zk_1169_18, (List.forall_mem_cons.mpr ⟨zk_1169_19, (List.forall_mem_cons.mpr ⟨zk_1169_20, (List.forall_mem_cons.mpr ⟨zk_1169_21, (List.forall_mem_cons.mpr ⟨zk_1169_22, (List.forall_mem_cons.mpr ⟨zk_1169_23, (List.forall_mem_cons.mpr ⟨zk_1169_24, (List.forall_mem_cons.mpr ⟨zk_1169_25, (List.forall_mem_cons.mpr ⟨zk_1169_26, (List.forall_mem_cons.mpr ⟨zk_1169_27, (List.forall_mem_cons.mpr ⟨zk_1169_28, (List.forall_mem_cons.mpr ⟨zk_1169_29, (List.forall_mem_cons.mpr ⟨zk_1169_30, (List.forall_mem_cons.mpr ⟨zk_1169_31, (List.forall_mem_cons.mpr ⟨zk_1169_32, nilz⟩)⟩)⟩)⟩)⟩)⟩)⟩)⟩)⟩)⟩)⟩)⟩)⟩)⟩)⟩)⟩)⟩)⟩)⟩)⟩)⟩)⟩)⟩)⟩)⟩)⟩)⟩)⟩)⟩)⟩)⟩)⟩)⟩)
set_option maxRecDepth 100000 in
theorem zM_1169 {l : Launch} {D : va_G} {cI cZ cB cJ cR : ClassId} {ks ad : List Nat} {Psi : va_W → Prop} (hw : zworld ks ad zuq zNS Psi) (hm : zMan l D cI cZ cB cJ cR ks ad Psi) : zMet l D cI cZ cB cJ cR zKS ks ad Psi yX6_whoOf (.code yX6_whoOf cX6_whoOf 6 (some .int)) 6 zc_1169 :=
  zmet_of hw 6 (by decide) 4000 zk_1169 (by decide) (by decide) (fun X => ⟨zg_RX6 X, zp_RX6 X, zl1_RX6 X, zl2_RX6 X, nilz, (List.forall_mem_cons.mpr ⟨zq_RX6_227 X (zM_1065 hw hm) (by decide) rfl rfl, (List.forall_mem_cons.mpr ⟨zq_RX6_340 X (zM_846 hw hm) (by decide) rfl rfl, nilz⟩)⟩)⟩)
