set_option maxRecDepth 100000 in
theorem zk_1174_0 : zm1 zKS zuq zNS zm_1174 4000 zt_1174_0 = true := z1F (zdt_X6_whyNotOaths) (by decide +kernel)
set_option maxRecDepth 100000 in
theorem zk_1174_1 : zm1 zKS zuq zNS zm_1174 4000 zt_1174_1 = true := z1F (zdt_X6_whyNotOaths) (by decide +kernel)
set_option maxRecDepth 100000 in
theorem zk_1174_2 : zm1 zKS zuq zNS zm_1174 4000 zt_1174_2 = true := z1F (zdt_X6_whyNotOaths) (by decide +kernel)
set_option maxRecDepth 100000 in
theorem zk_1174_3 : zm1 zKS zuq zNS zm_1174 4000 zt_1174_3 = true := z1F (zdt_X6_whyNotOaths) (by decide +kernel)
set_option maxRecDepth 100000 in
theorem zk_1174_4 : zm1 zKS zuq zNS zm_1174 4000 zt_1174_4 = true := z1F (zdt_X6_whyNotOaths) (by decide +kernel)
set_option maxRecDepth 100000 in
theorem zk_1174_5 : zm1 zKS zuq zNS zm_1174 4000 zt_1174_5 = true := z1F (zdt_X6_whyNotOaths) (by decide +kernel)
set_option maxRecDepth 100000 in
theorem zk_1174_6 : zm1 zKS zuq zNS zm_1174 4000 zt_1174_6 = true := z1F (zdt_X6_whyNotOaths) (by decide +kernel)
set_option maxRecDepth 100000 in
theorem zk_1174_7 : zm1 zKS zuq zNS zm_1174 4000 zt_1174_7 = true := z1F (zdt_X6_whyNotOaths) (by decide +kernel)
set_option maxRecDepth 100000 in
theorem zk_1174_8 : zm1 zKS zuq zNS zm_1174 4000 zt_1174_8 = true := z1F (zdt_X6_whyNotOaths) (by decide +kernel)
set_option maxRecDepth 100000 in
theorem zk_1174_9 : zm1 zKS zuq zNS zm_1174 4000 zt_1174_9 = true := z1F (zdt_X6_whyNotOaths) (by decide +kernel)
set_option maxRecDepth 100000 in
theorem zk_1174_10 : zm1 zKS zuq zNS zm_1174 4000 zt_1174_10 = true := z1F (zdt_X6_whyNotOaths) (by decide +kernel)
set_option maxRecDepth 100000 in
theorem zk_1174_11 : zm1 zKS zuq zNS zm_1174 4000 zt_1174_11 = true := z1F (zdt_X6_whyNotOaths) (by decide +kernel)
set_option maxRecDepth 100000 in
theorem zk_1174_12 : zm1 zKS zuq zNS zm_1174 4000 zt_1174_12 = true := z1F (zdt_X6_whyNotOaths) (by decide +kernel)
set_option maxRecDepth 100000 in
theorem zk_1174_13 : zm1 zKS zuq zNS zm_1174 4000 zt_1174_13 = true := z1F (zdt_X6_whyNotOaths) (by decide +kernel)
set_option maxRecDepth 100000 in
theorem zk_1174_14 : zm1 zKS zuq zNS zm_1174 4000 zt_1174_14 = true := z1F (zdt_X6_whyNotOaths) (by decide +kernel)
set_option maxRecDepth 100000 in
theorem zk_1174_15 : zm1 zKS zuq zNS zm_1174 4000 zt_1174_15 = true := z1F (zdt_X6_whyNotOaths) (by decide +kernel)
set_option maxRecDepth 100000 in
theorem zk_1174_16 : zm1 zKS zuq zNS zm_1174 4000 zt_1174_16 = true := z1F (zdt_X6_whyNotOaths) (by decide +kernel)
set_option maxRecDepth 100000 in
theorem zk_1174_17 : zm1 zKS zuq zNS zm_1174 4000 zt_1174_17 = true := z1F (zdt_X6_whyNotOaths) (by decide +kernel)
set_option maxRecDepth 100000 in
theorem zk_1174_18 : zm1 zKS zuq zNS zm_1174 4000 zt_1174_18 = true := z1F (zdt_X6_whyNotOaths) (by decide +kernel)
set_option maxRecDepth 100000 in
theorem zk_1174_19 : zm1 zKS zuq zNS zm_1174 4000 zt_1174_19 = true := z1F (zdt_X6_whyNotOaths) (by decide +kernel)
set_option maxRecDepth 100000 in
theorem zk_1174_20 : zm1 zKS zuq zNS zm_1174 4000 zt_1174_20 = true := z1F (zdt_X6_whyNotOaths) (by decide +kernel)
set_option maxRecDepth 100000 in
theorem zk_1174_s : zm0 zKS zuq zNS zm_1174 4000 = true := z0F (zdt_X6_whyNotOaths) (by decide +kernel)
set_option maxRecDepth 100000 in
theorem zk_1174 : zmeth zKS zuq zNS zm_1174 4000 = true := zmeth_by zk_1174_s (List.forall_mem_cons.mpr ⟨zk_1174_0, (List.forall_mem_cons.mpr ⟨zk_1174_1, (List.forall_mem_cons.mpr ⟨zk_1174_2, (List.forall_mem_cons.mpr ⟨zk_1174_3, (List.forall_mem_cons.mpr ⟨zk_1174_4, (List.forall_mem_cons.mpr ⟨zk_1174_5, (List.forall_mem_cons.mpr ⟨zk_1174_6, (List.forall_mem_cons.mpr ⟨zk_1174_7, (List.forall_mem_cons.mpr ⟨zk_1174_8, (List.forall_mem_cons.mpr ⟨zk_1174_9, (List.forall_mem_cons.mpr ⟨zk_1174_10, (List.forall_mem_cons.mpr ⟨zk_1174_11, (List.forall_mem_cons.mpr ⟨zk_1174_12, (List.forall_mem_cons.mpr ⟨zk_1174_13, (List.forall_mem_cons.mpr ⟨zk_1174_14, (List.forall_mem_cons.mpr ⟨zk_1174_15, (List.forall_mem_cons.mpr ⟨zk_1174_16, (List.forall_mem_cons.mpr ⟨zk_1174_17, (List.forall_mem_cons.mpr ⟨zk_1174_18, (List.forall_mem_cons.mpr ⟨zk_1174_19, (List.forall_mem_cons.mpr ⟨zk_1174_20, nilz⟩)⟩)⟩)⟩)⟩)⟩)⟩)⟩)⟩)⟩)⟩)⟩)⟩)⟩)⟩)⟩)⟩)⟩)⟩)⟩)⟩)
set_option maxRecDepth 100000 in
theorem zM_1174 {l : Launch} {D : va_G} {cI cZ cB cJ cR : ClassId} {ks ad : List Nat} {Psi : va_W → Prop} (hw : zworld ks ad zuq zNS Psi) (hm : zMan l D cI cZ cB cJ cR ks ad Psi) : zMet l D cI cZ cB cJ cR zKS ks ad Psi yX6_whyNotOaths (.code yX6_whyNotOaths cX6_whyNotOaths 4 (some .int)) 5 zc_1174 :=
  zmet_of hw 5 (by decide) 4000 zk_1174 (by decide) (by decide) (fun X => ⟨zg_RX6 X, zp_RX6 X, zl1_RX6 X, zl2_RX6 X, nilz, (List.forall_mem_cons.mpr ⟨zq_RX6_80 X (zM_939 hw hm) (by decide) rfl, (List.forall_mem_cons.mpr ⟨zq_RX6_234 X (zM_934 hw hm) (by decide) rfl rfl, (List.forall_mem_cons.mpr ⟨zq_RX6_267 X (zM_932 hw hm) (by decide) rfl rfl, (List.forall_mem_cons.mpr ⟨zq_RX6_270 X (zman_1021 hm) (by decide) rfl rfl, (List.forall_mem_cons.mpr ⟨zq_RX6_276 X (zM_927 hw hm) (by decide) rfl rfl, nilz⟩)⟩)⟩)⟩)⟩)⟩)
set_option maxRecDepth 100000 in
theorem zk_1175_0 : zm1 zKS zuq zNS zm_1175 4000 zt_1175_0 = true := z1F (zdt_X6_whyNotOaths) (by decide +kernel)
set_option maxRecDepth 100000 in
theorem zk_1175_1 : zm1 zKS zuq zNS zm_1175 4000 zt_1175_1 = true := z1F (zdt_X6_whyNotOaths) (by decide +kernel)
set_option maxRecDepth 100000 in
theorem zk_1175_2 : zm1 zKS zuq zNS zm_1175 4000 zt_1175_2 = true := z1F (zdt_X6_whyNotOaths) (by decide +kernel)
set_option maxRecDepth 100000 in
theorem zk_1175_3 : zm1 zKS zuq zNS zm_1175 4000 zt_1175_3 = true := z1F (zdt_X6_whyNotOaths) (by decide +kernel)
set_option maxRecDepth 100000 in
theorem zk_1175_4 : zm1 zKS zuq zNS zm_1175 4000 zt_1175_4 = true := z1F (zdt_X6_whyNotOaths) (by decide +kernel)
set_option maxRecDepth 100000 in
theorem zk_1175_5 : zm1 zKS zuq zNS zm_1175 4000 zt_1175_5 = true := z1F (zdt_X6_whyNotOaths) (by decide +kernel)
set_option maxRecDepth 100000 in
theorem zk_1175_6 : zm1 zKS zuq zNS zm_1175 4000 zt_1175_6 = true := z1F (zdt_X6_whyNotOaths) (by decide +kernel)
set_option maxRecDepth 100000 in
theorem zk_1175_7 : zm1 zKS zuq zNS zm_1175 4000 zt_1175_7 = true := z1F (zdt_X6_whyNotOaths) (by decide +kernel)
set_option maxRecDepth 100000 in
theorem zk_1175_8 : zm1 zKS zuq zNS zm_1175 4000 zt_1175_8 = true := z1F (zdt_X6_whyNotOaths) (by decide +kernel)
set_option maxRecDepth 100000 in
theorem zk_1175_9 : zm1 zKS zuq zNS zm_1175 4000 zt_1175_9 = true := z1F (zdt_X6_whyNotOaths) (by decide +kernel)
set_option maxRecDepth 100000 in
theorem zk_1175_10 : zm1 zKS zuq zNS zm_1175 4000 zt_1175_10 = true := z1F (zdt_X6_whyNotOaths) (by decide +kernel)
set_option maxRecDepth 100000 in
theorem zk_1175_11 : zm1 zKS zuq zNS zm_1175 4000 zt_1175_11 = true := z1F (zdt_X6_whyNotOaths) (by decide +kernel)
set_option maxRecDepth 100000 in
theorem zk_1175_12 : zm1 zKS zuq zNS zm_1175 4000 zt_1175_12 = true := z1F (zdt_X6_whyNotOaths) (by decide +kernel)
set_option maxRecDepth 100000 in
theorem zk_1175_13 : zm1 zKS zuq zNS zm_1175 4000 zt_1175_13 = true := z1F (zdt_X6_whyNotOaths) (by decide +kernel)
set_option maxRecDepth 100000 in
theorem zk_1175_14 : zm1 zKS zuq zNS zm_1175 4000 zt_1175_14 = true := z1F (zdt_X6_whyNotOaths) (by decide +kernel)
set_option maxRecDepth 100000 in
theorem zk_1175_15 : zm1 zKS zuq zNS zm_1175 4000 zt_1175_15 = true := z1F (zdt_X6_whyNotOaths) (by decide +kernel)
set_option maxRecDepth 100000 in
theorem zk_1175_16 : zm1 zKS zuq zNS zm_1175 4000 zt_1175_16 = true := z1F (zdt_X6_whyNotOaths) (by decide +kernel)
set_option maxRecDepth 100000 in
theorem zk_1175_17 : zm1 zKS zuq zNS zm_1175 4000 zt_1175_17 = true := z1F (zdt_X6_whyNotOaths) (by decide +kernel)
set_option maxRecDepth 100000 in
theorem zk_1175_18 : zm1 zKS zuq zNS zm_1175 4000 zt_1175_18 = true := z1F (zdt_X6_whyNotOaths) (by decide +kernel)
set_option maxRecDepth 100000 in
theorem zk_1175_19 : zm1 zKS zuq zNS zm_1175 4000 zt_1175_19 = true := z1F (zdt_X6_whyNotOaths) (by decide +kernel)
set_option maxRecDepth 100000 in
theorem zk_1175_20 : zm1 zKS zuq zNS zm_1175 4000 zt_1175_20 = true := z1F (zdt_X6_whyNotOaths) (by decide +kernel)
set_option maxRecDepth 100000 in
theorem zk_1175_s : zm0 zKS zuq zNS zm_1175 4000 = true := z0F (zdt_X6_whyNotOaths) (by decide +kernel)
set_option maxRecDepth 100000 in
theorem zk_1175 : zmeth zKS zuq zNS zm_1175 4000 = true := zmeth_by zk_1175_s (List.forall_mem_cons.mpr ⟨zk_1175_0, (List.forall_mem_cons.mpr ⟨zk_1175_1, (List.forall_mem_cons.mpr ⟨zk_1175_2, (List.forall_mem_cons.mpr ⟨zk_1175_3, (List.forall_mem_cons.mpr ⟨zk_1175_4, (List.forall_mem_cons.mpr ⟨zk_1175_5, (List.forall_mem_cons.mpr ⟨zk_1175_6, (List.forall_mem_cons.mpr ⟨zk_1175_7, (List.forall_mem_cons.mpr ⟨zk_1175_8, (List.forall_mem_cons.mpr ⟨zk_1175_9, (List.forall_mem_cons.mpr ⟨zk_1175_10, (List.forall_mem_cons.mpr ⟨zk_1175_11, (List.forall_mem_cons.mpr ⟨zk_1175_12, (List.forall_mem_cons.mpr ⟨zk_1175_13, (List.forall_mem_cons.mpr ⟨zk_1175_14, (List.forall_mem_cons.mpr ⟨zk_1175_15, (List.forall_mem_cons.mpr ⟨zk_1175_16, (List.forall_mem_cons.mpr ⟨zk_1175_17, (List.forall_mem_cons.mpr ⟨zk_1175_18, (List.forall_mem_cons.mpr ⟨zk_1175_19, (List.forall_mem_cons.mpr ⟨zk_1175_20, nilz⟩)⟩)⟩)⟩)⟩)⟩)⟩)⟩)⟩)⟩)⟩)⟩)⟩)⟩)⟩)⟩)⟩)⟩)⟩)⟩)⟩)
set_option maxRecDepth 100000 in
theorem zM_1175 {l : Launch} {D : va_G} {cI cZ cB cJ cR : ClassId} {ks ad : List Nat} {Psi : va_W → Prop} (hw : zworld ks ad zuq zNS Psi) (hm : zMan l D cI cZ cB cJ cR ks ad Psi) : zMet l D cI cZ cB cJ cR zKS ks ad Psi yX6_whyNotOaths (.code yX6_whyNotOaths cX6_whyNotOaths 4 (some .int)) 5 zc_1175 :=
  zmet_of hw 5 (by decide) 4000 zk_1175 (by decide) (by decide) (fun X => ⟨zg_RX6 X, zp_RX6 X, zl1_RX6 X, zl2_RX6 X, nilz, (List.forall_mem_cons.mpr ⟨zq_RX6_80 X (zM_939 hw hm) (by decide) rfl, (List.forall_mem_cons.mpr ⟨zq_RX6_234 X (zM_934 hw hm) (by decide) rfl rfl, (List.forall_mem_cons.mpr ⟨zq_RX6_267 X (zM_932 hw hm) (by decide) rfl rfl, (List.forall_mem_cons.mpr ⟨zq_RX6_270 X (zman_1021 hm) (by decide) rfl rfl, (List.forall_mem_cons.mpr ⟨zq_RX6_276 X (zM_927 hw hm) (by decide) rfl rfl, nilz⟩)⟩)⟩)⟩)⟩)⟩)
