set_option maxRecDepth 100000 in
theorem zk_1070_0 : zm1 zKS zuq zNS zm_1070 4000 zt_1070_0 = true := z1F (zdt_X6_rotaIs) (by decide +kernel)
set_option maxRecDepth 100000 in
theorem zk_1070_1 : zm1 zKS zuq zNS zm_1070 4000 zt_1070_1 = true := z1F (zdt_X6_rotaIs) (by decide +kernel)
set_option maxRecDepth 100000 in
theorem zk_1070_2 : zm1 zKS zuq zNS zm_1070 4000 zt_1070_2 = true := z1F (zdt_X6_rotaIs) (by decide +kernel)
set_option maxRecDepth 100000 in
theorem zk_1070_3 : zm1 zKS zuq zNS zm_1070 4000 zt_1070_3 = true := z1F (zdt_X6_rotaIs) (by decide +kernel)
set_option maxRecDepth 100000 in
theorem zk_1070_4 : zm1 zKS zuq zNS zm_1070 4000 zt_1070_4 = true := z1F (zdt_X6_rotaIs) (by decide +kernel)
set_option maxRecDepth 100000 in
theorem zk_1070_5 : zm1 zKS zuq zNS zm_1070 4000 zt_1070_5 = true := z1F (zdt_X6_rotaIs) (by decide +kernel)
set_option maxRecDepth 100000 in
theorem zk_1070_6 : zm1 zKS zuq zNS zm_1070 4000 zt_1070_6 = true := z1F (zdt_X6_rotaIs) (by decide +kernel)
set_option maxRecDepth 100000 in
theorem zk_1070_7 : zm1 zKS zuq zNS zm_1070 4000 zt_1070_7 = true := z1F (zdt_X6_rotaIs) (by decide +kernel)
set_option maxRecDepth 100000 in
theorem zk_1070_8 : zm1 zKS zuq zNS zm_1070 4000 zt_1070_8 = true := z1F (zdt_X6_rotaIs) (by decide +kernel)
set_option maxRecDepth 100000 in
theorem zk_1070_9 : zm1 zKS zuq zNS zm_1070 4000 zt_1070_9 = true := z1F (zdt_X6_rotaIs) (by decide +kernel)
set_option maxRecDepth 100000 in
theorem zk_1070_10 : zm1 zKS zuq zNS zm_1070 4000 zt_1070_10 = true := z1F (zdt_X6_rotaIs) (by decide +kernel)
set_option maxRecDepth 100000 in
theorem zk_1070_11 : zm1 zKS zuq zNS zm_1070 4000 zt_1070_11 = true := z1F (zdt_X6_rotaIs) (by decide +kernel)
set_option maxRecDepth 100000 in
theorem zk_1070_12 : zm1 zKS zuq zNS zm_1070 4000 zt_1070_12 = true := z1F (zdt_X6_rotaIs) (by decide +kernel)
set_option maxRecDepth 100000 in
theorem zk_1070_13 : zm1 zKS zuq zNS zm_1070 4000 zt_1070_13 = true := z1F (zdt_X6_rotaIs) (by decide +kernel)
set_option maxRecDepth 100000 in
theorem zk_1070_14 : zm1 zKS zuq zNS zm_1070 4000 zt_1070_14 = true := z1F (zdt_X6_rotaIs) (by decide +kernel)
set_option maxRecDepth 100000 in
theorem zk_1070_15 : zm1 zKS zuq zNS zm_1070 4000 zt_1070_15 = true := z1F (zdt_X6_rotaIs) (by decide +kernel)
set_option maxRecDepth 100000 in
theorem zk_1070_16 : zm1 zKS zuq zNS zm_1070 4000 zt_1070_16 = true := z1F (zdt_X6_rotaIs) (by decide +kernel)
set_option maxRecDepth 100000 in
theorem zk_1070_17 : zm1 zKS zuq zNS zm_1070 4000 zt_1070_17 = true := z1F (zdt_X6_rotaIs) (by decide +kernel)
set_option maxRecDepth 100000 in
theorem zk_1070_18 : zm1 zKS zuq zNS zm_1070 4000 zt_1070_18 = true := z1F (zdt_X6_rotaIs) (by decide +kernel)
set_option maxRecDepth 100000 in
theorem zk_1070_19 : zm1 zKS zuq zNS zm_1070 4000 zt_1070_19 = true := z1F (zdt_X6_rotaIs) (by decide +kernel)
set_option maxRecDepth 100000 in
theorem zk_1070_20 : zm1 zKS zuq zNS zm_1070 4000 zt_1070_20 = true := z1F (zdt_X6_rotaIs) (by decide +kernel)
set_option maxRecDepth 100000 in
theorem zk_1070_21 : zm1 zKS zuq zNS zm_1070 4000 zt_1070_21 = true := z1F (zdt_X6_rotaIs) (by decide +kernel)
set_option maxRecDepth 100000 in
theorem zk_1070_22 : zm1 zKS zuq zNS zm_1070 4000 zt_1070_22 = true := z1F (zdt_X6_rotaIs) (by decide +kernel)
set_option maxRecDepth 100000 in
theorem zk_1070_s : zm0 zKS zuq zNS zm_1070 4000 = true := z0F (zdt_X6_rotaIs) (by decide +kernel)
set_option maxRecDepth 100000 in
theorem zk_1070 : zmeth zKS zuq zNS zm_1070 4000 = true := zmeth_by zk_1070_s (List.forall_mem_cons.mpr ⟨zk_1070_0, (List.forall_mem_cons.mpr ⟨zk_1070_1, (List.forall_mem_cons.mpr ⟨zk_1070_2, (List.forall_mem_cons.mpr ⟨zk_1070_3, (List.forall_mem_cons.mpr ⟨zk_1070_4, (List.forall_mem_cons.mpr ⟨zk_1070_5, (List.forall_mem_cons.mpr ⟨zk_1070_6, (List.forall_mem_cons.mpr ⟨zk_1070_7, (List.forall_mem_cons.mpr ⟨zk_1070_8, (List.forall_mem_cons.mpr ⟨zk_1070_9, (List.forall_mem_cons.mpr ⟨zk_1070_10, (List.forall_mem_cons.mpr ⟨zk_1070_11, (List.forall_mem_cons.mpr ⟨zk_1070_12, (List.forall_mem_cons.mpr ⟨zk_1070_13, (List.forall_mem_cons.mpr ⟨zk_1070_14, (List.forall_mem_cons.mpr ⟨zk_1070_15, (List.forall_mem_cons.mpr ⟨zk_1070_16, (List.forall_mem_cons.mpr ⟨zk_1070_17, (List.forall_mem_cons.mpr ⟨zk_1070_18, (List.forall_mem_cons.mpr ⟨zk_1070_19, (List.forall_mem_cons.mpr ⟨zk_1070_20, (List.forall_mem_cons.mpr ⟨zk_1070_21, (List.forall_mem_cons.mpr ⟨zk_1070_22, nilz⟩)⟩)⟩)⟩)⟩)⟩)⟩)⟩)⟩)⟩)⟩)⟩)⟩)⟩)⟩)⟩)⟩)⟩)⟩)⟩)⟩)⟩)⟩)
set_option maxRecDepth 100000 in
theorem zM_1070 {l : Launch} {D : va_G} {cI cZ cB cJ cR : ClassId} {ks ad : List Nat} {Psi : va_W → Prop} (hw : zworld ks ad zuq zNS Psi) (hm : zMan l D cI cZ cB cJ cR ks ad Psi) : zMet l D cI cZ cB cJ cR zKS ks ad Psi yX6_rotaIs (.code yX6_rotaIs cX6_rotaIs 5 none) 5 zc_1070 :=
  zmet_of hw 5 (by decide) 4000 zk_1070 (by decide) (by decide) (fun X => ⟨zg_RX6 X, zp_RX6 X, zl1_RX6 X, zl2_RX6 X, nilz, (List.forall_mem_cons.mpr ⟨zq_RX6_227 X (zM_1061 hw hm) (by decide) rfl rfl, (List.forall_mem_cons.mpr ⟨zq_RX6_257 X (zM_925 hw hm) (by decide) rfl rfl, (List.forall_mem_cons.mpr ⟨zq_RX6_264 X (zman_1119 hm) (by decide) rfl, (List.forall_mem_cons.mpr ⟨zq_RX6_285 X (zman_1065 hm) (by decide) rfl rfl, nilz⟩)⟩)⟩)⟩)⟩)
set_option maxRecDepth 100000 in
theorem zk_1071_0 : zm1 zKS zuq zNS zm_1071 4000 zt_1071_0 = true := z1F (zdt_X6_rotaIs) (by decide +kernel)
set_option maxRecDepth 100000 in
theorem zk_1071_1 : zm1 zKS zuq zNS zm_1071 4000 zt_1071_1 = true := z1F (zdt_X6_rotaIs) (by decide +kernel)
set_option maxRecDepth 100000 in
theorem zk_1071_2 : zm1 zKS zuq zNS zm_1071 4000 zt_1071_2 = true := z1F (zdt_X6_rotaIs) (by decide +kernel)
set_option maxRecDepth 100000 in
theorem zk_1071_3 : zm1 zKS zuq zNS zm_1071 4000 zt_1071_3 = true := z1F (zdt_X6_rotaIs) (by decide +kernel)
set_option maxRecDepth 100000 in
theorem zk_1071_4 : zm1 zKS zuq zNS zm_1071 4000 zt_1071_4 = true := z1F (zdt_X6_rotaIs) (by decide +kernel)
set_option maxRecDepth 100000 in
theorem zk_1071_5 : zm1 zKS zuq zNS zm_1071 4000 zt_1071_5 = true := z1F (zdt_X6_rotaIs) (by decide +kernel)
set_option maxRecDepth 100000 in
theorem zk_1071_6 : zm1 zKS zuq zNS zm_1071 4000 zt_1071_6 = true := z1F (zdt_X6_rotaIs) (by decide +kernel)
set_option maxRecDepth 100000 in
theorem zk_1071_7 : zm1 zKS zuq zNS zm_1071 4000 zt_1071_7 = true := z1F (zdt_X6_rotaIs) (by decide +kernel)
set_option maxRecDepth 100000 in
theorem zk_1071_8 : zm1 zKS zuq zNS zm_1071 4000 zt_1071_8 = true := z1F (zdt_X6_rotaIs) (by decide +kernel)
set_option maxRecDepth 100000 in
theorem zk_1071_9 : zm1 zKS zuq zNS zm_1071 4000 zt_1071_9 = true := z1F (zdt_X6_rotaIs) (by decide +kernel)
set_option maxRecDepth 100000 in
theorem zk_1071_10 : zm1 zKS zuq zNS zm_1071 4000 zt_1071_10 = true := z1F (zdt_X6_rotaIs) (by decide +kernel)
set_option maxRecDepth 100000 in
theorem zk_1071_11 : zm1 zKS zuq zNS zm_1071 4000 zt_1071_11 = true := z1F (zdt_X6_rotaIs) (by decide +kernel)
set_option maxRecDepth 100000 in
theorem zk_1071_12 : zm1 zKS zuq zNS zm_1071 4000 zt_1071_12 = true := z1F (zdt_X6_rotaIs) (by decide +kernel)
set_option maxRecDepth 100000 in
theorem zk_1071_13 : zm1 zKS zuq zNS zm_1071 4000 zt_1071_13 = true := z1F (zdt_X6_rotaIs) (by decide +kernel)
set_option maxRecDepth 100000 in
theorem zk_1071_14 : zm1 zKS zuq zNS zm_1071 4000 zt_1071_14 = true := z1F (zdt_X6_rotaIs) (by decide +kernel)
set_option maxRecDepth 100000 in
theorem zk_1071_15 : zm1 zKS zuq zNS zm_1071 4000 zt_1071_15 = true := z1F (zdt_X6_rotaIs) (by decide +kernel)
set_option maxRecDepth 100000 in
theorem zk_1071_16 : zm1 zKS zuq zNS zm_1071 4000 zt_1071_16 = true := z1F (zdt_X6_rotaIs) (by decide +kernel)
set_option maxRecDepth 100000 in
theorem zk_1071_17 : zm1 zKS zuq zNS zm_1071 4000 zt_1071_17 = true := z1F (zdt_X6_rotaIs) (by decide +kernel)
set_option maxRecDepth 100000 in
theorem zk_1071_18 : zm1 zKS zuq zNS zm_1071 4000 zt_1071_18 = true := z1F (zdt_X6_rotaIs) (by decide +kernel)
set_option maxRecDepth 100000 in
theorem zk_1071_19 : zm1 zKS zuq zNS zm_1071 4000 zt_1071_19 = true := z1F (zdt_X6_rotaIs) (by decide +kernel)
set_option maxRecDepth 100000 in
theorem zk_1071_20 : zm1 zKS zuq zNS zm_1071 4000 zt_1071_20 = true := z1F (zdt_X6_rotaIs) (by decide +kernel)
set_option maxRecDepth 100000 in
theorem zk_1071_21 : zm1 zKS zuq zNS zm_1071 4000 zt_1071_21 = true := z1F (zdt_X6_rotaIs) (by decide +kernel)
set_option maxRecDepth 100000 in
theorem zk_1071_22 : zm1 zKS zuq zNS zm_1071 4000 zt_1071_22 = true := z1F (zdt_X6_rotaIs) (by decide +kernel)
set_option maxRecDepth 100000 in
theorem zk_1071_s : zm0 zKS zuq zNS zm_1071 4000 = true := z0F (zdt_X6_rotaIs) (by decide +kernel)
set_option maxRecDepth 100000 in
theorem zk_1071 : zmeth zKS zuq zNS zm_1071 4000 = true := zmeth_by zk_1071_s (List.forall_mem_cons.mpr ⟨zk_1071_0, (List.forall_mem_cons.mpr ⟨zk_1071_1, (List.forall_mem_cons.mpr ⟨zk_1071_2, (List.forall_mem_cons.mpr ⟨zk_1071_3, (List.forall_mem_cons.mpr ⟨zk_1071_4, (List.forall_mem_cons.mpr ⟨zk_1071_5, (List.forall_mem_cons.mpr ⟨zk_1071_6, (List.forall_mem_cons.mpr ⟨zk_1071_7, (List.forall_mem_cons.mpr ⟨zk_1071_8, (List.forall_mem_cons.mpr ⟨zk_1071_9, (List.forall_mem_cons.mpr ⟨zk_1071_10, (List.forall_mem_cons.mpr ⟨zk_1071_11, (List.forall_mem_cons.mpr ⟨zk_1071_12, (List.forall_mem_cons.mpr ⟨zk_1071_13, (List.forall_mem_cons.mpr ⟨zk_1071_14, (List.forall_mem_cons.mpr ⟨zk_1071_15, (List.forall_mem_cons.mpr ⟨zk_1071_16, (List.forall_mem_cons.mpr ⟨zk_1071_17, (List.forall_mem_cons.mpr ⟨zk_1071_18, (List.forall_mem_cons.mpr ⟨zk_1071_19, (List.forall_mem_cons.mpr ⟨zk_1071_20, (List.forall_mem_cons.mpr ⟨zk_1071_21, (List.forall_mem_cons.mpr ⟨zk_1071_22, nilz⟩)⟩)⟩)⟩)⟩)⟩)⟩)⟩)⟩)⟩)⟩)⟩)⟩)⟩)⟩)⟩)⟩)⟩)⟩)⟩)⟩)⟩)⟩)
set_option maxRecDepth 100000 in
theorem zM_1071 {l : Launch} {D : va_G} {cI cZ cB cJ cR : ClassId} {ks ad : List Nat} {Psi : va_W → Prop} (hw : zworld ks ad zuq zNS Psi) (hm : zMan l D cI cZ cB cJ cR ks ad Psi) : zMet l D cI cZ cB cJ cR zKS ks ad Psi yX6_rotaIs (.code yX6_rotaIs cX6_rotaIs 5 none) 5 zc_1071 :=
  zmet_of hw 5 (by decide) 4000 zk_1071 (by decide) (by decide) (fun X => ⟨zg_RX6 X, zp_RX6 X, zl1_RX6 X, zl2_RX6 X, nilz, (List.forall_mem_cons.mpr ⟨zq_RX6_227 X (zM_1061 hw hm) (by decide) rfl rfl, (List.forall_mem_cons.mpr ⟨zq_RX6_257 X (zM_925 hw hm) (by decide) rfl rfl, (List.forall_mem_cons.mpr ⟨zq_RX6_264 X (zman_1119 hm) (by decide) rfl, (List.forall_mem_cons.mpr ⟨zq_RX6_285 X (zman_1065 hm) (by decide) rfl rfl, nilz⟩)⟩)⟩)⟩)⟩)
set_option maxRecDepth 100000 in
theorem zk_1072_0 : zm1 zKS zuq zNS zm_1072 4000 zt_1072_0 = true := z1F (zdt_X6_rotaIs) (by decide +kernel)
set_option maxRecDepth 100000 in
theorem zk_1072_1 : zm1 zKS zuq zNS zm_1072 4000 zt_1072_1 = true := z1F (zdt_X6_rotaIs) (by decide +kernel)
set_option maxRecDepth 100000 in
theorem zk_1072_2 : zm1 zKS zuq zNS zm_1072 4000 zt_1072_2 = true := z1F (zdt_X6_rotaIs) (by decide +kernel)
set_option maxRecDepth 100000 in
theorem zk_1072_3 : zm1 zKS zuq zNS zm_1072 4000 zt_1072_3 = true := z1F (zdt_X6_rotaIs) (by decide +kernel)
set_option maxRecDepth 100000 in
theorem zk_1072_4 : zm1 zKS zuq zNS zm_1072 4000 zt_1072_4 = true := z1F (zdt_X6_rotaIs) (by decide +kernel)
set_option maxRecDepth 100000 in
theorem zk_1072_5 : zm1 zKS zuq zNS zm_1072 4000 zt_1072_5 = true := z1F (zdt_X6_rotaIs) (by decide +kernel)
set_option maxRecDepth 100000 in
theorem zk_1072_6 : zm1 zKS zuq zNS zm_1072 4000 zt_1072_6 = true := z1F (zdt_X6_rotaIs) (by decide +kernel)
set_option maxRecDepth 100000 in
theorem zk_1072_7 : zm1 zKS zuq zNS zm_1072 4000 zt_1072_7 = true := z1F (zdt_X6_rotaIs) (by decide +kernel)
set_option maxRecDepth 100000 in
theorem zk_1072_8 : zm1 zKS zuq zNS zm_1072 4000 zt_1072_8 = true := z1F (zdt_X6_rotaIs) (by decide +kernel)
set_option maxRecDepth 100000 in
theorem zk_1072_9 : zm1 zKS zuq zNS zm_1072 4000 zt_1072_9 = true := z1F (zdt_X6_rotaIs) (by decide +kernel)
set_option maxRecDepth 100000 in
theorem zk_1072_10 : zm1 zKS zuq zNS zm_1072 4000 zt_1072_10 = true := z1F (zdt_X6_rotaIs) (by decide +kernel)
set_option maxRecDepth 100000 in
theorem zk_1072_11 : zm1 zKS zuq zNS zm_1072 4000 zt_1072_11 = true := z1F (zdt_X6_rotaIs) (by decide +kernel)
set_option maxRecDepth 100000 in
theorem zk_1072_12 : zm1 zKS zuq zNS zm_1072 4000 zt_1072_12 = true := z1F (zdt_X6_rotaIs) (by decide +kernel)
set_option maxRecDepth 100000 in
theorem zk_1072_13 : zm1 zKS zuq zNS zm_1072 4000 zt_1072_13 = true := z1F (zdt_X6_rotaIs) (by decide +kernel)
set_option maxRecDepth 100000 in
theorem zk_1072_14 : zm1 zKS zuq zNS zm_1072 4000 zt_1072_14 = true := z1F (zdt_X6_rotaIs) (by decide +kernel)
set_option maxRecDepth 100000 in
theorem zk_1072_15 : zm1 zKS zuq zNS zm_1072 4000 zt_1072_15 = true := z1F (zdt_X6_rotaIs) (by decide +kernel)
set_option maxRecDepth 100000 in
theorem zk_1072_16 : zm1 zKS zuq zNS zm_1072 4000 zt_1072_16 = true := z1F (zdt_X6_rotaIs) (by decide +kernel)
set_option maxRecDepth 100000 in
theorem zk_1072_17 : zm1 zKS zuq zNS zm_1072 4000 zt_1072_17 = true := z1F (zdt_X6_rotaIs) (by decide +kernel)
set_option maxRecDepth 100000 in
theorem zk_1072_18 : zm1 zKS zuq zNS zm_1072 4000 zt_1072_18 = true := z1F (zdt_X6_rotaIs) (by decide +kernel)
set_option maxRecDepth 100000 in
theorem zk_1072_19 : zm1 zKS zuq zNS zm_1072 4000 zt_1072_19 = true := z1F (zdt_X6_rotaIs) (by decide +kernel)
set_option maxRecDepth 100000 in
theorem zk_1072_20 : zm1 zKS zuq zNS zm_1072 4000 zt_1072_20 = true := z1F (zdt_X6_rotaIs) (by decide +kernel)
set_option maxRecDepth 100000 in
theorem zk_1072_21 : zm1 zKS zuq zNS zm_1072 4000 zt_1072_21 = true := z1F (zdt_X6_rotaIs) (by decide +kernel)
set_option maxRecDepth 100000 in
theorem zk_1072_22 : zm1 zKS zuq zNS zm_1072 4000 zt_1072_22 = true := z1F (zdt_X6_rotaIs) (by decide +kernel)
set_option maxRecDepth 100000 in
theorem zk_1072_s : zm0 zKS zuq zNS zm_1072 4000 = true := z0F (zdt_X6_rotaIs) (by decide +kernel)
set_option maxRecDepth 100000 in
theorem zk_1072 : zmeth zKS zuq zNS zm_1072 4000 = true := zmeth_by zk_1072_s (List.forall_mem_cons.mpr ⟨zk_1072_0, (List.forall_mem_cons.mpr ⟨zk_1072_1, (List.forall_mem_cons.mpr ⟨zk_1072_2, (List.forall_mem_cons.mpr ⟨zk_1072_3, (List.forall_mem_cons.mpr ⟨zk_1072_4, (List.forall_mem_cons.mpr ⟨zk_1072_5, (List.forall_mem_cons.mpr ⟨zk_1072_6, (List.forall_mem_cons.mpr ⟨zk_1072_7, (List.forall_mem_cons.mpr ⟨zk_1072_8, (List.forall_mem_cons.mpr ⟨zk_1072_9, (List.forall_mem_cons.mpr ⟨zk_1072_10, (List.forall_mem_cons.mpr ⟨zk_1072_11, (List.forall_mem_cons.mpr ⟨zk_1072_12, (List.forall_mem_cons.mpr ⟨zk_1072_13, (List.forall_mem_cons.mpr ⟨zk_1072_14, (List.forall_mem_cons.mpr ⟨zk_1072_15, (List.forall_mem_cons.mpr ⟨zk_1072_16, (List.forall_mem_cons.mpr ⟨zk_1072_17, (List.forall_mem_cons.mpr ⟨zk_1072_18, (List.forall_mem_cons.mpr ⟨zk_1072_19, (List.forall_mem_cons.mpr ⟨zk_1072_20, (List.forall_mem_cons.mpr ⟨zk_1072_21, (List.forall_mem_cons.mpr ⟨zk_1072_22, nilz⟩)⟩)⟩)⟩)⟩)⟩)⟩)⟩)⟩)⟩)⟩)⟩)⟩)⟩)⟩)⟩)⟩)⟩)⟩)⟩)⟩)⟩)⟩)
set_option maxRecDepth 100000 in
theorem zM_1072 {l : Launch} {D : va_G} {cI cZ cB cJ cR : ClassId} {ks ad : List Nat} {Psi : va_W → Prop} (hw : zworld ks ad zuq zNS Psi) (hm : zMan l D cI cZ cB cJ cR ks ad Psi) : zMet l D cI cZ cB cJ cR zKS ks ad Psi yX6_rotaIs (.code yX6_rotaIs cX6_rotaIs 5 none) 5 zc_1072 :=
  zmet_of hw 5 (by decide) 4000 zk_1072 (by decide) (by decide) (fun X => ⟨zg_RX6 X, zp_RX6 X, zl1_RX6 X, zl2_RX6 X, nilz, (List.forall_mem_cons.mpr ⟨zq_RX6_227 X (zM_1061 hw hm) (by decide) rfl rfl, (List.forall_mem_cons.mpr ⟨zq_RX6_257 X (zM_925 hw hm) (by decide) rfl rfl, (List.forall_mem_cons.mpr ⟨zq_RX6_264 X (zman_1119 hm) (by decide) rfl, (List.forall_mem_cons.mpr ⟨zq_RX6_285 X (zman_1065 hm) (by decide) rfl rfl, nilz⟩)⟩)⟩)⟩)⟩)
set_option maxRecDepth 100000 in
theorem zk_1116 : zmeth zKS zuq zNS zm_1116 4000 = true := zqF (zdt0 _) (by decide +kernel)
theorem zM_1116 {l : Launch} {D : va_G} {cI cZ cB cJ cR : ClassId} {ks ad : List Nat} {Psi : va_W → Prop} (hw : zworld ks ad zuq zNS Psi) (hm : zMan l D cI cZ cB cJ cR ks ad Psi) : zMet l D cI cZ cB cJ cR zKS ks ad Psi yX6_sees (.code yX6_sees cX6_sees 4 (some .int)) 5 zc_1116 :=
  zmet_of hw 5 (by decide) 4000 zk_1116 (by decide) (by decide) (fun X => ⟨zg_RX6 X, zp_RX6 X, zl1_RX6 X, zl2_RX6 X, nilz, (List.forall_mem_cons.mpr ⟨zq_RX6_234 X (zM_930 hw hm) (by decide) rfl rfl, (List.forall_mem_cons.mpr ⟨zq_RX6_250 X (zM_933 hw hm) (by decide) rfl rfl, (List.forall_mem_cons.mpr ⟨zq_RX6_267 X (zM_928 hw hm) (by decide) rfl rfl, (List.forall_mem_cons.mpr ⟨zq_RX6_270 X (zman_1017 hm) (by decide) rfl rfl, nilz⟩)⟩)⟩)⟩)⟩)
