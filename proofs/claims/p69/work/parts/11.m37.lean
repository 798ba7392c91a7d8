set_option maxRecDepth 100000 in
theorem zk_1074_0 : zm1 zKS zuq zNS zm_1074 4000 zt_1074_0 = true := z1F (zdt_X6_rotaIs) (by decide +kernel)
set_option maxRecDepth 100000 in
theorem zk_1074_1 : zm1 zKS zuq zNS zm_1074 4000 zt_1074_1 = true := z1F (zdt_X6_rotaIs) (by decide +kernel)
set_option maxRecDepth 100000 in
theorem zk_1074_2 : zm1 zKS zuq zNS zm_1074 4000 zt_1074_2 = true := z1F (zdt_X6_rotaIs) (by decide +kernel)
set_option maxRecDepth 100000 in
theorem zk_1074_3 : zm1 zKS zuq zNS zm_1074 4000 zt_1074_3 = true := z1F (zdt_X6_rotaIs) (by decide +kernel)
set_option maxRecDepth 100000 in
theorem zk_1074_4 : zm1 zKS zuq zNS zm_1074 4000 zt_1074_4 = true := z1F (zdt_X6_rotaIs) (by decide +kernel)
set_option maxRecDepth 100000 in
theorem zk_1074_5 : zm1 zKS zuq zNS zm_1074 4000 zt_1074_5 = true := z1F (zdt_X6_rotaIs) (by decide +kernel)
set_option maxRecDepth 100000 in
theorem zk_1074_6 : zm1 zKS zuq zNS zm_1074 4000 zt_1074_6 = true := z1F (zdt_X6_rotaIs) (by decide +kernel)
set_option maxRecDepth 100000 in
theorem zk_1074_7 : zm1 zKS zuq zNS zm_1074 4000 zt_1074_7 = true := z1F (zdt_X6_rotaIs) (by decide +kernel)
set_option maxRecDepth 100000 in
theorem zk_1074_8 : zm1 zKS zuq zNS zm_1074 4000 zt_1074_8 = true := z1F (zdt_X6_rotaIs) (by decide +kernel)
set_option maxRecDepth 100000 in
theorem zk_1074_9 : zm1 zKS zuq zNS zm_1074 4000 zt_1074_9 = true := z1F (zdt_X6_rotaIs) (by decide +kernel)
set_option maxRecDepth 100000 in
theorem zk_1074_10 : zm1 zKS zuq zNS zm_1074 4000 zt_1074_10 = true := z1F (zdt_X6_rotaIs) (by decide +kernel)
set_option maxRecDepth 100000 in
theorem zk_1074_11 : zm1 zKS zuq zNS zm_1074 4000 zt_1074_11 = true := z1F (zdt_X6_rotaIs) (by decide +kernel)
set_option maxRecDepth 100000 in
theorem zk_1074_12 : zm1 zKS zuq zNS zm_1074 4000 zt_1074_12 = true := z1F (zdt_X6_rotaIs) (by decide +kernel)
set_option maxRecDepth 100000 in
theorem zk_1074_13 : zm1 zKS zuq zNS zm_1074 4000 zt_1074_13 = true := z1F (zdt_X6_rotaIs) (by decide +kernel)
set_option maxRecDepth 100000 in
theorem zk_1074_14 : zm1 zKS zuq zNS zm_1074 4000 zt_1074_14 = true := z1F (zdt_X6_rotaIs) (by decide +kernel)
set_option maxRecDepth 100000 in
theorem zk_1074_15 : zm1 zKS zuq zNS zm_1074 4000 zt_1074_15 = true := z1F (zdt_X6_rotaIs) (by decide +kernel)
set_option maxRecDepth 100000 in
theorem zk_1074_16 : zm1 zKS zuq zNS zm_1074 4000 zt_1074_16 = true := z1F (zdt_X6_rotaIs) (by decide +kernel)
set_option maxRecDepth 100000 in
theorem zk_1074_17 : zm1 zKS zuq zNS zm_1074 4000 zt_1074_17 = true := z1F (zdt_X6_rotaIs) (by decide +kernel)
set_option maxRecDepth 100000 in
theorem zk_1074_18 : zm1 zKS zuq zNS zm_1074 4000 zt_1074_18 = true := z1F (zdt_X6_rotaIs) (by decide +kernel)
set_option maxRecDepth 100000 in
theorem zk_1074_19 : zm1 zKS zuq zNS zm_1074 4000 zt_1074_19 = true := z1F (zdt_X6_rotaIs) (by decide +kernel)
set_option maxRecDepth 100000 in
theorem zk_1074_20 : zm1 zKS zuq zNS zm_1074 4000 zt_1074_20 = true := z1F (zdt_X6_rotaIs) (by decide +kernel)
set_option maxRecDepth 100000 in
theorem zk_1074_21 : zm1 zKS zuq zNS zm_1074 4000 zt_1074_21 = true := z1F (zdt_X6_rotaIs) (by decide +kernel)
set_option maxRecDepth 100000 in
theorem zk_1074_22 : zm1 zKS zuq zNS zm_1074 4000 zt_1074_22 = true := z1F (zdt_X6_rotaIs) (by decide +kernel)
set_option maxRecDepth 100000 in
theorem zk_1074_s : zm0 zKS zuq zNS zm_1074 4000 = true := z0F (zdt_X6_rotaIs) (by decide +kernel)
set_option maxRecDepth 100000 in
theorem zk_1074 : zmeth zKS zuq zNS zm_1074 4000 = true := zmeth_by zk_1074_s (List.forall_mem_cons.mpr ⟨zk_1074_0, (List.forall_mem_cons.mpr ⟨zk_1074_1, (List.forall_mem_cons.mpr ⟨zk_1074_2, (List.forall_mem_cons.mpr ⟨zk_1074_3, (List.forall_mem_cons.mpr ⟨zk_1074_4, (List.forall_mem_cons.mpr ⟨zk_1074_5, (List.forall_mem_cons.mpr ⟨zk_1074_6, (List.forall_mem_cons.mpr ⟨zk_1074_7, (List.forall_mem_cons.mpr ⟨zk_1074_8, (List.forall_mem_cons.mpr ⟨zk_1074_9, (List.forall_mem_cons.mpr ⟨zk_1074_10, (List.forall_mem_cons.mpr ⟨zk_1074_11, (List.forall_mem_cons.mpr ⟨zk_1074_12, (List.forall_mem_cons.mpr ⟨zk_1074_13, (List.forall_mem_cons.mpr ⟨zk_1074_14, (List.forall_mem_cons.mpr ⟨zk_1074_15, (List.forall_mem_cons.mpr ⟨zk_1074_16, (List.forall_mem_cons.mpr ⟨zk_1074_17, (List.forall_mem_cons.mpr ⟨zk_1074_18, (List.forall_mem_cons.mpr ⟨zk_1074_19, (List.forall_mem_cons.mpr ⟨zk_1074_20, (List.forall_mem_cons.mpr ⟨zk_1074_21, (List.forall_mem_cons.mpr ⟨zk_1074_22, nilz⟩)⟩)⟩)⟩)⟩)⟩)⟩)⟩)⟩)⟩)⟩)⟩)⟩)⟩)⟩)⟩)⟩)⟩)⟩)⟩)⟩)⟩)⟩)
set_option maxRecDepth 100000 in
theorem zM_1074 {l : Launch} {D : va_G} {cI cZ cB cJ cR : ClassId} {ks ad : List Nat} {Psi : va_W → Prop} (hw : zworld ks ad zuq zNS Psi) (hm : zMan l D cI cZ cB cJ cR ks ad Psi) : zMet l D cI cZ cB cJ cR zKS ks ad Psi yX6_rotaIs (.code yX6_rotaIs cX6_rotaIs 5 none) 5 zc_1074 :=
  zmet_of hw 5 (by decide) 4000 zk_1074 (by decide) (by decide) (fun X => ⟨zg_RX6 X, zp_RX6 X, zl1_RX6 X, zl2_RX6 X, nilz, (List.forall_mem_cons.mpr ⟨zq_RX6_227 X (zM_1065 hw hm) (by decide) rfl rfl, (List.forall_mem_cons.mpr ⟨zq_RX6_257 X (zM_929 hw hm) (by decide) rfl rfl, (List.forall_mem_cons.mpr ⟨zq_RX6_264 X (zman_1123 hm) (by decide) rfl, (List.forall_mem_cons.mpr ⟨zq_RX6_285 X (zman_1069 hm) (by decide) rfl rfl, nilz⟩)⟩)⟩)⟩)⟩)
set_option maxRecDepth 100000 in
theorem zk_1075_0 : zm1 zKS zuq zNS zm_1075 4000 zt_1075_0 = true := z1F (zdt_X6_rotaIs) (by decide +kernel)
set_option maxRecDepth 100000 in
theorem zk_1075_1 : zm1 zKS zuq zNS zm_1075 4000 zt_1075_1 = true := z1F (zdt_X6_rotaIs) (by decide +kernel)
set_option maxRecDepth 100000 in
theorem zk_1075_2 : zm1 zKS zuq zNS zm_1075 4000 zt_1075_2 = true := z1F (zdt_X6_rotaIs) (by decide +kernel)
set_option maxRecDepth 100000 in
theorem zk_1075_3 : zm1 zKS zuq zNS zm_1075 4000 zt_1075_3 = true := z1F (zdt_X6_rotaIs) (by decide +kernel)
set_option maxRecDepth 100000 in
theorem zk_1075_4 : zm1 zKS zuq zNS zm_1075 4000 zt_1075_4 = true := z1F (zdt_X6_rotaIs) (by decide +kernel)
set_option maxRecDepth 100000 in
theorem zk_1075_5 : zm1 zKS zuq zNS zm_1075 4000 zt_1075_5 = true := z1F (zdt_X6_rotaIs) (by decide +kernel)
set_option maxRecDepth 100000 in
theorem zk_1075_6 : zm1 zKS zuq zNS zm_1075 4000 zt_1075_6 = true := z1F (zdt_X6_rotaIs) (by decide +kernel)
set_option maxRecDepth 100000 in
theorem zk_1075_7 : zm1 zKS zuq zNS zm_1075 4000 zt_1075_7 = true := z1F (zdt_X6_rotaIs) (by decide +kernel)
set_option maxRecDepth 100000 in
theorem zk_1075_8 : zm1 zKS zuq zNS zm_1075 4000 zt_1075_8 = true := z1F (zdt_X6_rotaIs) (by decide +kernel)
set_option maxRecDepth 100000 in
theorem zk_1075_9 : zm1 zKS zuq zNS zm_1075 4000 zt_1075_9 = true := z1F (zdt_X6_rotaIs) (by decide +kernel)
set_option maxRecDepth 100000 in
theorem zk_1075_10 : zm1 zKS zuq zNS zm_1075 4000 zt_1075_10 = true := z1F (zdt_X6_rotaIs) (by decide +kernel)
set_option maxRecDepth 100000 in
theorem zk_1075_11 : zm1 zKS zuq zNS zm_1075 4000 zt_1075_11 = true := z1F (zdt_X6_rotaIs) (by decide +kernel)
set_option maxRecDepth 100000 in
theorem zk_1075_12 : zm1 zKS zuq zNS zm_1075 4000 zt_1075_12 = true := z1F (zdt_X6_rotaIs) (by decide +kernel)
set_option maxRecDepth 100000 in
theorem zk_1075_13 : zm1 zKS zuq zNS zm_1075 4000 zt_1075_13 = true := z1F (zdt_X6_rotaIs) (by decide +kernel)
set_option maxRecDepth 100000 in
theorem zk_1075_14 : zm1 zKS zuq zNS zm_1075 4000 zt_1075_14 = true := z1F (zdt_X6_rotaIs) (by decide +kernel)
set_option maxRecDepth 100000 in
theorem zk_1075_15 : zm1 zKS zuq zNS zm_1075 4000 zt_1075_15 = true := z1F (zdt_X6_rotaIs) (by decide +kernel)
set_option maxRecDepth 100000 in
theorem zk_1075_16 : zm1 zKS zuq zNS zm_1075 4000 zt_1075_16 = true := z1F (zdt_X6_rotaIs) (by decide +kernel)
set_option maxRecDepth 100000 in
theorem zk_1075_17 : zm1 zKS zuq zNS zm_1075 4000 zt_1075_17 = true := z1F (zdt_X6_rotaIs) (by decide +kernel)
set_option maxRecDepth 100000 in
theorem zk_1075_18 : zm1 zKS zuq zNS zm_1075 4000 zt_1075_18 = true := z1F (zdt_X6_rotaIs) (by decide +kernel)
set_option maxRecDepth 100000 in
theorem zk_1075_19 : zm1 zKS zuq zNS zm_1075 4000 zt_1075_19 = true := z1F (zdt_X6_rotaIs) (by decide +kernel)
set_option maxRecDepth 100000 in
theorem zk_1075_20 : zm1 zKS zuq zNS zm_1075 4000 zt_1075_20 = true := z1F (zdt_X6_rotaIs) (by decide +kernel)
set_option maxRecDepth 100000 in
theorem zk_1075_21 : zm1 zKS zuq zNS zm_1075 4000 zt_1075_21 = true := z1F (zdt_X6_rotaIs) (by decide +kernel)
set_option maxRecDepth 100000 in
theorem zk_1075_22 : zm1 zKS zuq zNS zm_1075 4000 zt_1075_22 = true := z1F (zdt_X6_rotaIs) (by decide +kernel)
set_option maxRecDepth 100000 in
theorem zk_1075_s : zm0 zKS zuq zNS zm_1075 4000 = true := z0F (zdt_X6_rotaIs) (by decide +kernel)
set_option maxRecDepth 100000 in
theorem zk_1075 : zmeth zKS zuq zNS zm_1075 4000 = true := zmeth_by zk_1075_s (List.forall_mem_cons.mpr ⟨zk_1075_0, (List.forall_mem_cons.mpr ⟨zk_1075_1, (List.forall_mem_cons.mpr ⟨zk_1075_2, (List.forall_mem_cons.mpr ⟨zk_1075_3, (List.forall_mem_cons.mpr ⟨zk_1075_4, (List.forall_mem_cons.mpr ⟨zk_1075_5, (List.forall_mem_cons.mpr ⟨zk_1075_6, (List.forall_mem_cons.mpr ⟨zk_1075_7, (List.forall_mem_cons.mpr ⟨zk_1075_8, (List.forall_mem_cons.mpr ⟨zk_1075_9, (List.forall_mem_cons.mpr ⟨zk_1075_10, (List.forall_mem_cons.mpr ⟨zk_1075_11, (List.forall_mem_cons.mpr ⟨zk_1075_12, (List.forall_mem_cons.mpr ⟨zk_1075_13, (List.forall_mem_cons.mpr ⟨zk_1075_14, (List.forall_mem_cons.mpr ⟨zk_1075_15, (List.forall_mem_cons.mpr ⟨zk_1075_16, (List.forall_mem_cons.mpr ⟨zk_1075_17, (List.forall_mem_cons.mpr ⟨zk_1075_18, (List.forall_mem_cons.mpr ⟨zk_1075_19, (List.forall_mem_cons.mpr ⟨zk_1075_20, (List.forall_mem_cons.mpr ⟨zk_1075_21, (List.forall_mem_cons.mpr ⟨zk_1075_22, nilz⟩)⟩)⟩)⟩)⟩)⟩)⟩)⟩)⟩)⟩)⟩)⟩)⟩)⟩)⟩)⟩)⟩)⟩)⟩)⟩)⟩)⟩)⟩)
set_option maxRecDepth 100000 in
theorem zM_1075 {l : Launch} {D : va_G} {cI cZ cB cJ cR : ClassId} {ks ad : List Nat} {Psi : va_W → Prop} (hw : zworld ks ad zuq zNS Psi) (hm : zMan l D cI cZ cB cJ cR ks ad Psi) : zMet l D cI cZ cB cJ cR zKS ks ad Psi yX6_rotaIs (.code yX6_rotaIs cX6_rotaIs 5 none) 5 zc_1075 :=
  zmet_of hw 5 (by decide) 4000 zk_1075 (by decide) (by decide) (fun X => ⟨zg_RX6 X, zp_RX6 X, zl1_RX6 X, zl2_RX6 X, nilz, (List.forall_mem_cons.mpr ⟨zq_RX6_227 X (zM_1065 hw hm) (by decide) rfl rfl, (List.forall_mem_cons.mpr ⟨zq_RX6_257 X (zM_929 hw hm) (by decide) rfl rfl, (List.forall_mem_cons.mpr ⟨zq_RX6_264 X (zman_1123 hm) (by decide) rfl, (List.forall_mem_cons.mpr ⟨zq_RX6_285 X (zman_1069 hm) (by decide) rfl rfl, nilz⟩)⟩)⟩)⟩)⟩)
set_option maxRecDepth 100000 in
theorem zk_1076_0 : zm1 zKS zuq zNS zm_1076 4000 zt_1076_0 = true := z1F (zdt_X6_rotaIs) (by decide +kernel)
set_option maxRecDepth 100000 in
theorem zk_1076_1 : zm1 zKS zuq zNS zm_1076 4000 zt_1076_1 = true := z1F (zdt_X6_rotaIs) (by decide +kernel)
set_option maxRecDepth 100000 in
theorem zk_1076_2 : zm1 zKS zuq zNS zm_1076 4000 zt_1076_2 = true := z1F (zdt_X6_rotaIs) (by decide +kernel)
set_option maxRecDepth 100000 in
theorem zk_1076_3 : zm1 zKS zuq zNS zm_1076 4000 zt_1076_3 = true := z1F (zdt_X6_rotaIs) (by decide +kernel)
set_option maxRecDepth 100000 in
theorem zk_1076_4 : zm1 zKS zuq zNS zm_1076 4000 zt_1076_4 = true := z1F (zdt_X6_rotaIs) (by decide +kernel)
set_option maxRecDepth 100000 in
theorem zk_1076_5 : zm1 zKS zuq zNS zm_1076 4000 zt_1076_5 = true := z1F (zdt_X6_rotaIs) (by decide +kernel)
set_option maxRecDepth 100000 in
theorem zk_1076_6 : zm1 zKS zuq zNS zm_1076 4000 zt_1076_6 = true := z1F (zdt_X6_rotaIs) (by decide +kernel)
set_option maxRecDepth 100000 in
theorem zk_1076_7 : zm1 zKS zuq zNS zm_1076 4000 zt_1076_7 = true := z1F (zdt_X6_rotaIs) (by decide +kernel)
set_option maxRecDepth 100000 in
theorem zk_1076_8 : zm1 zKS zuq zNS zm_1076 4000 zt_1076_8 = true := z1F (zdt_X6_rotaIs) (by decide +kernel)
set_option maxRecDepth 100000 in
theorem zk_1076_9 : zm1 zKS zuq zNS zm_1076 4000 zt_1076_9 = true := z1F (zdt_X6_rotaIs) (by decide +kernel)
set_option maxRecDepth 100000 in
theorem zk_1076_10 : zm1 zKS zuq zNS zm_1076 4000 zt_1076_10 = true := z1F (zdt_X6_rotaIs) (by decide +kernel)
set_option maxRecDepth 100000 in
theorem zk_1076_11 : zm1 zKS zuq zNS zm_1076 4000 zt_1076_11 = true := z1F (zdt_X6_rotaIs) (by decide +kernel)
set_option maxRecDepth 100000 in
theorem zk_1076_12 : zm1 zKS zuq zNS zm_1076 4000 zt_1076_12 = true := z1F (zdt_X6_rotaIs) (by decide +kernel)
set_option maxRecDepth 100000 in
theorem zk_1076_13 : zm1 zKS zuq zNS zm_1076 4000 zt_1076_13 = true := z1F (zdt_X6_rotaIs) (by decide +kernel)
set_option maxRecDepth 100000 in
theorem zk_1076_14 : zm1 zKS zuq zNS zm_1076 4000 zt_1076_14 = true := z1F (zdt_X6_rotaIs) (by decide +kernel)
set_option maxRecDepth 100000 in
theorem zk_1076_15 : zm1 zKS zuq zNS zm_1076 4000 zt_1076_15 = true := z1F (zdt_X6_rotaIs) (by decide +kernel)
set_option maxRecDepth 100000 in
theorem zk_1076_16 : zm1 zKS zuq zNS zm_1076 4000 zt_1076_16 = true := z1F (zdt_X6_rotaIs) (by decide +kernel)
set_option maxRecDepth 100000 in
theorem zk_1076_17 : zm1 zKS zuq zNS zm_1076 4000 zt_1076_17 = true := z1F (zdt_X6_rotaIs) (by decide +kernel)
set_option maxRecDepth 100000 in
theorem zk_1076_18 : zm1 zKS zuq zNS zm_1076 4000 zt_1076_18 = true := z1F (zdt_X6_rotaIs) (by decide +kernel)
set_option maxRecDepth 100000 in
theorem zk_1076_19 : zm1 zKS zuq zNS zm_1076 4000 zt_1076_19 = true := z1F (zdt_X6_rotaIs) (by decide +kernel)
set_option maxRecDepth 100000 in
theorem zk_1076_20 : zm1 zKS zuq zNS zm_1076 4000 zt_1076_20 = true := z1F (zdt_X6_rotaIs) (by decide +kernel)
set_option maxRecDepth 100000 in
theorem zk_1076_21 : zm1 zKS zuq zNS zm_1076 4000 zt_1076_21 = true := z1F (zdt_X6_rotaIs) (by decide +kernel)
set_option maxRecDepth 100000 in
theorem zk_1076_22 : zm1 zKS zuq zNS zm_1076 4000 zt_1076_22 = true := z1F (zdt_X6_rotaIs) (by decide +kernel)
set_option maxRecDepth 100000 in
theorem zk_1076_s : zm0 zKS zuq zNS zm_1076 4000 = true := z0F (zdt_X6_rotaIs) (by decide +kernel)
set_option maxRecDepth 100000 in
theorem zk_1076 : zmeth zKS zuq zNS zm_1076 4000 = true := zmeth_by zk_1076_s (List.forall_mem_cons.mpr ⟨zk_1076_0, (List.forall_mem_cons.mpr ⟨zk_1076_1, (List.forall_mem_cons.mpr ⟨zk_1076_2, (List.forall_mem_cons.mpr ⟨zk_1076_3, (List.forall_mem_cons.mpr ⟨zk_1076_4, (List.forall_mem_cons.mpr ⟨zk_1076_5, (List.forall_mem_cons.mpr ⟨zk_1076_6, (List.forall_mem_cons.mpr ⟨zk_1076_7, (List.forall_mem_cons.mpr ⟨zk_1076_8, (List.forall_mem_cons.mpr ⟨zk_1076_9, (List.forall_mem_cons.mpr ⟨zk_1076_10, (List.forall_mem_cons.mpr ⟨zk_1076_11, (List.forall_mem_cons.mpr ⟨zk_1076_12, (List.forall_mem_cons.mpr ⟨zk_1076_13, (List.forall_mem_cons.mpr ⟨zk_1076_14, (List.forall_mem_cons.mpr ⟨zk_1076_15, (List.forall_mem_cons.mpr ⟨zk_1076_16, (List.forall_mem_cons.mpr ⟨zk_1076_17, (List.forall_mem_cons.mpr ⟨zk_1076_18, (List.forall_mem_cons.mpr ⟨zk_1076_19, (List.forall_mem_cons.mpr ⟨zk_1076_20, (List.forall_mem_cons.mpr ⟨zk_1076_21, (List.forall_mem_cons.mpr ⟨zk_1076_22, nilz⟩)⟩)⟩)⟩)⟩)⟩)⟩)⟩)⟩)⟩)⟩)⟩)⟩)⟩)⟩)⟩)⟩)⟩)⟩)⟩)⟩)⟩)⟩)
set_option maxRecDepth 100000 in
theorem zM_1076 {l : Launch} {D : va_G} {cI cZ cB cJ cR : ClassId} {ks ad : List Nat} {Psi : va_W → Prop} (hw : zworld ks ad zuq zNS Psi) (hm : zMan l D cI cZ cB cJ cR ks ad Psi) : zMet l D cI cZ cB cJ cR zKS ks ad Psi yX6_rotaIs (.code yX6_rotaIs cX6_rotaIs 5 none) 5 zc_1076 :=
  zmet_of hw 5 (by decide) 4000 zk_1076 (by decide) (by decide) (fun X => ⟨zg_RX6 X, zp_RX6 X, zl1_RX6 X, zl2_RX6 X, nilz, (List.forall_mem_cons.mpr ⟨zq_RX6_227 X (zM_1065 hw hm) (by decide) rfl rfl, (List.forall_mem_cons.mpr ⟨zq_RX6_257 X (zM_929 hw hm) (by decide) rfl rfl, (List.forall_mem_cons.mpr ⟨zq_RX6_264 X (zman_1123 hm) (by decide) rfl, (List.forall_mem_cons.mpr ⟨zq_RX6_285 X (zman_1069 hm) (by decide) rfl rfl, nilz⟩)⟩)⟩)⟩)⟩)
set_option maxRecDepth 100000 in
theorem zk_1120 : zmeth zKS zuq zNS zm_1120 4000 = true := zqF (zdt0 _) (by decide +kernel)
theorem zM_1120 {l : Launch} {D : va_G} {cI cZ cB cJ cR : ClassId} {ks ad : List Nat} {Psi : va_W → Prop} (hw : zworld ks ad zuq zNS Psi) (hm : zMan l D cI cZ cB cJ cR ks ad Psi) : zMet l D cI cZ cB cJ cR zKS ks ad Psi yX6_sees (.code yX6_sees cX6_sees 4 (some .int)) 5 zc_1120 :=
  zmet_of hw 5 (by decide) 4000 zk_1120 (by decide) (by decide) (fun X => ⟨zg_RX6 X, zp_RX6 X, zl1_RX6 X, zl2_RX6 X, nilz, (List.forall_mem_cons.mpr ⟨zq_RX6_234 X (zM_934 hw hm) (by decide) rfl rfl, (List.forall_mem_cons.mpr ⟨zq_RX6_250 X (zM_937 hw hm) (by decide) rfl rfl, (List.forall_mem_cons.mpr ⟨zq_RX6_267 X (zM_932 hw hm) (by decide) rfl rfl, (List.forall_mem_cons.mpr ⟨zq_RX6_270 X (zman_1021 hm) (by decide) rfl rfl, nilz⟩)⟩)⟩)⟩)⟩)
