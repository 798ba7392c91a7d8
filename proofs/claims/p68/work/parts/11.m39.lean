set_option maxRecDepth 100000 in
theorem zk_1170_0 : zm1 zKS zuq zNS zm_1170 4000 zt_1170_0 = true := z1F (zdt_X6_whyNotOaths) (by decide +kernel)
set_option maxRecDepth 100000 in
theorem zk_1170_1 : zm1 zKS zuq zNS zm_1170 4000 zt_1170_1 = true := z1F (zdt_X6_whyNotOaths) (by decide +kernel)
set_option maxRecDepth 100000 in
theorem zk_1170_2 : zm1 zKS zuq zNS zm_1170 4000 zt_1170_2 = true := z1F (zdt_X6_whyNotOaths) (by decide +kernel)
set_option maxRecDepth 100000 in
theorem zk_1170_3 : zm1 zKS zuq zNS zm_1170 4000 zt_1170_3 = true := z1F (zdt_X6_whyNotOaths) (by decide +kernel)
set_option maxRecDepth 100000 in
theorem zk_1170_4 : zm1 zKS zuq zNS zm_1170 4000 zt_1170_4 = true := z1F (zdt_X6_whyNotOaths) (by decide +kernel)
set_option maxRecDepth 100000 in
theorem zk_1170_5 : zm1 zKS zuq zNS zm_1170 4000 zt_1170_5 = true := z1F (zdt_X6_whyNotOaths) (by decide +kernel)
set_option maxRecDepth 100000 in
theorem zk_1170_6 : zm1 zKS zuq zNS zm_1170 4000 zt_1170_6 = true := z1F (zdt_X6_whyNotOaths) (by decide +kernel)
set_option maxRecDepth 100000 in
theorem zk_1170_7 : zm1 zKS zuq zNS zm_1170 4000 zt_1170_7 = true := z1F (zdt_X6_whyNotOaths) (by decide +kernel)
set_option maxRecDepth 100000 in
theorem zk_1170_8 : zm1 zKS zuq zNS zm_1170 4000 zt_1170_8 = true := z1F (zdt_X6_whyNotOaths) (by decide +kernel)
set_option maxRecDepth 100000 in
theorem zk_1170_9 : zm1 zKS zuq zNS zm_1170 4000 zt_1170_9 = true := z1F (zdt_X6_whyNotOaths) (by decide +kernel)
set_option maxRecDepth 100000 in
theorem zk_1170_10 : zm1 zKS zuq zNS zm_1170 4000 zt_1170_10 = true := z1F (zdt_X6_whyNotOaths) (by decide +kernel)
set_option maxRecDepth 100000 in
theorem zk_1170_11 : zm1 zKS zuq zNS zm_1170 4000 zt_1170_11 = true := z1F (zdt_X6_whyNotOaths) (by decide +kernel)
set_option maxRecDepth 100000 in
theorem zk_1170_12 : zm1 zKS zuq zNS zm_1170 4000 zt_1170_12 = true := z1F (zdt_X6_whyNotOaths) (by decide +kernel)
set_option maxRecDepth 100000 in
theorem zk_1170_13 : zm1 zKS zuq zNS zm_1170 4000 zt_1170_13 = true := z1F (zdt_X6_whyNotOaths) (by decide +kernel)
set_option maxRecDepth 100000 in
theorem zk_1170_14 : zm1 zKS zuq zNS zm_1170 4000 zt_1170_14 = true := z1F (zdt_X6_whyNotOaths) (by decide +kernel)
set_option maxRecDepth 100000 in
theorem zk_1170_15 : zm1 zKS zuq zNS zm_1170 4000 zt_1170_15 = true := z1F (zdt_X6_whyNotOaths) (by decide +kernel)
set_option maxRecDepth 100000 in
theorem zk_1170_16 : zm1 zKS zuq zNS zm_1170 4000 zt_1170_16 = true := z1F (zdt_X6_whyNotOaths) (by decide +kernel)
set_option maxRecDepth 100000 in
theorem zk_1170_17 : zm1 zKS zuq zNS zm_1170 4000 zt_1170_17 = true := z1F (zdt_X6_whyNotOaths) (by decide +kernel)
set_option maxRecDepth 100000 in
theorem zk_1170_18 : zm1 zKS zuq zNS zm_1170 4000 zt_1170_18 = true := z1F (zdt_X6_whyNotOaths) (by decide +kernel)
set_option maxRecDepth 100000 in
theorem zk_1170_19 : zm1 zKS zuq zNS zm_1170 4000 zt_1170_19 = true := z1F (zdt_X6_whyNotOaths) (by decide +kernel)
set_option maxRecDepth 100000 in
theorem zk_1170_20 : zm1 zKS zuq zNS zm_1170 4000 zt_1170_20 = true := z1F (zdt_X6_whyNotOaths) (by decide +kernel)
set_option maxRecDepth 100000 in
theorem zk_1170_s : zm0 zKS zuq zNS zm_1170 4000 = true := z0F (zdt_X6_whyNotOaths) (by decide +kernel)
set_option maxRecDepth 100000 in
theorem zk_1170 : zmeth zKS zuq zNS zm_1170 4000 = true := zmeth_by zk_1170_s (List.forall_mem_cons.mpr ⟨zk_1170_0, (List.forall_mem_cons.mpr ⟨zk_1170_1, (List.forall_mem_cons.mpr ⟨zk_1170_2, (List.forall_mem_cons.mpr ⟨zk_1170_3, (List.forall_mem_cons.mpr ⟨zk_1170_4, (List.forall_mem_cons.mpr ⟨zk_1170_5, (List.forall_mem_cons.mpr ⟨zk_1170_6, (List.forall_mem_cons.mpr ⟨zk_1170_7, (List.forall_mem_cons.mpr ⟨zk_1170_8, (List.forall_mem_cons.mpr ⟨zk_1170_9, (List.forall_mem_cons.mpr ⟨zk_1170_10, (List.forall_mem_cons.mpr ⟨zk_1170_11, (List.forall_mem_cons.mpr ⟨zk_1170_12, (List.forall_mem_cons.mpr ⟨zk_1170_13, (List.forall_mem_cons.mpr ⟨zk_1170_14, (List.forall_mem_cons.mpr ⟨zk_1170_15, (List.forall_mem_cons.mpr ⟨zk_1170_16, (List.forall_mem_cons.mpr ⟨zk_1170_17, (List.forall_mem_cons.mpr ⟨zk_1170_18, (List.forall_mem_cons.mpr ⟨zk_1170_19, (List.forall_mem_cons.mpr ⟨zk_1170_20, nilz⟩)⟩)⟩)⟩)⟩)⟩)⟩)⟩)⟩)⟩)⟩)⟩)⟩)⟩)⟩)⟩)⟩)⟩)⟩)⟩)⟩)
set_option maxRecDepth 100000 in
theorem zM_1170 {l : Launch} {D : va_G} {cI cZ cB cJ cR : ClassId} {ks ad : List Nat} {Psi : va_W → Prop} (hw : zworld ks ad zuq zNS Psi) (hm : zMan l D cI cZ cB cJ cR ks ad Psi) : zMet l D cI cZ cB cJ cR zKS ks ad Psi yX6_whyNotOaths (.code yX6_whyNotOaths cX6_whyNotOaths 4 (some .int)) 5 zc_1170 :=
  zmet_of hw 5 (by decide) 4000 zk_1170 (by decide) (by decide) (fun X => ⟨zg_RX6 X, zp_RX6 X, zl1_RX6 X, zl2_RX6 X, nilz, (List.forall_mem_cons.mpr ⟨zq_RX6_80 X (zM_935 hw hm) (by decide) rfl, (List.forall_mem_cons.mpr ⟨zq_RX6_234 X (zM_930 hw hm) (by decide) rfl rfl, (List.forall_mem_cons.mpr ⟨zq_RX6_267 X (zM_928 hw hm) (by decide) rfl rfl, (List.forall_mem_cons.mpr ⟨zq_RX6_270 X (zman_1017 hm) (by decide) rfl rfl, (List.forall_mem_cons.mpr ⟨zq_RX6_276 X (zM_923 hw hm) (by decide) rfl rfl, nilz⟩)⟩)⟩)⟩)⟩)⟩)
set_option maxRecDepth 100000 in
theorem zk_1171_0 : zm1 zKS zuq zNS zm_1171 4000 zt_1171_0 = true := z1F (zdt_X6_whyNotOaths) (by decide +kernel)
set_option maxRecDepth 100000 in
theorem zk_1171_1 : zm1 zKS zuq zNS zm_1171 4000 zt_1171_1 = true := z1F (zdt_X6_whyNotOaths) (by decide +kernel)
set_option maxRecDepth 100000 in
theorem zk_1171_2 : zm1 zKS zuq zNS zm_1171 4000 zt_1171_2 = true := z1F (zdt_X6_whyNotOaths) (by decide +kernel)
set_option maxRecDepth 100000 in
theorem zk_1171_3 : zm1 zKS zuq zNS zm_1171 4000 zt_1171_3 = true := z1F (zdt_X6_whyNotOaths) (by decide +kernel)
set_option maxRecDepth 100000 in
theorem zk_1171_4 : zm1 zKS zuq zNS zm_1171 4000 zt_1171_4 = true := z1F (zdt_X6_whyNotOaths) (by decide +kernel)
set_option maxRecDepth 100000 in
theorem zk_1171_5 : zm1 zKS zuq zNS zm_1171 4000 zt_1171_5 = true := z1F (zdt_X6_whyNotOaths) (by decide +kernel)
set_option maxRecDepth 100000 in
theorem zk_1171_6 : zm1 zKS zuq zNS zm_1171 4000 zt_1171_6 = true := z1F (zdt_X6_whyNotOaths) (by decide +kernel)
set_option maxRecDepth 100000 in
theorem zk_1171_7 : zm1 zKS zuq zNS zm_1171 4000 zt_1171_7 = true := z1F (zdt_X6_whyNotOaths) (by decide +kernel)
set_option maxRecDepth 100000 in
theorem zk_1171_8 : zm1 zKS zuq zNS zm_1171 4000 zt_1171_8 = true := z1F (zdt_X6_whyNotOaths) (by decide +kernel)
set_option maxRecDepth 100000 in
theorem zk_1171_9 : zm1 zKS zuq zNS zm_1171 4000 zt_1171_9 = true := z1F (zdt_X6_whyNotOaths) (by decide +kernel)
set_option maxRecDepth 100000 in
theorem zk_1171_10 : zm1 zKS zuq zNS zm_1171 4000 zt_1171_10 = true := z1F (zdt_X6_whyNotOaths) (by decide +kernel)
set_option maxRecDepth 100000 in
theorem zk_1171_11 : zm1 zKS zuq zNS zm_1171 4000 zt_1171_11 = true := z1F (zdt_X6_whyNotOaths) (by decide +kernel)
set_option maxRecDepth 100000 in
theorem zk_1171_12 : zm1 zKS zuq zNS zm_1171 4000 zt_1171_12 = true := z1F (zdt_X6_whyNotOaths) (by decide +kernel)
set_option maxRecDepth 100000 in
theorem zk_1171_13 : zm1 zKS zuq zNS zm_1171 4000 zt_1171_13 = true := z1F (zdt_X6_whyNotOaths) (by decide +kernel)
set_option maxRecDepth 100000 in
theorem zk_1171_14 : zm1 zKS zuq zNS zm_1171 4000 zt_1171_14 = true := z1F (zdt_X6_whyNotOaths) (by decide +kernel)
set_option maxRecDepth 100000 in
theorem zk_1171_15 : zm1 zKS zuq zNS zm_1171 4000 zt_1171_15 = true := z1F (zdt_X6_whyNotOaths) (by decide +kernel)
set_option maxRecDepth 100000 in
theorem zk_1171_16 : zm1 zKS zuq zNS zm_1171 4000 zt_1171_16 = true := z1F (zdt_X6_whyNotOaths) (by decide +kernel)
set_option maxRecDepth 100000 in
theorem zk_1171_17 : zm1 zKS zuq zNS zm_1171 4000 zt_1171_17 = true := z1F (zdt_X6_whyNotOaths) (by decide +kernel)
set_option maxRecDepth 100000 in
theorem zk_1171_18 : zm1 zKS zuq zNS zm_1171 4000 zt_1171_18 = true := z1F (zdt_X6_whyNotOaths) (by decide +kernel)
set_option maxRecDepth 100000 in
theorem zk_1171_19 : zm1 zKS zuq zNS zm_1171 4000 zt_1171_19 = true := z1F (zdt_X6_whyNotOaths) (by decide +kernel)
set_option maxRecDepth 100000 in
theorem zk_1171_20 : zm1 zKS zuq zNS zm_1171 4000 zt_1171_20 = true := z1F (zdt_X6_whyNotOaths) (by decide +kernel)
set_option maxRecDepth 100000 in
theorem zk_1171_s : zm0 zKS zuq zNS zm_1171 4000 = true := z0F (zdt_X6_whyNotOaths) (by decide +kernel)
set_option maxRecDepth 100000 in
theorem zk_1171 : zmeth zKS zuq zNS zm_1171 4000 = true := zmeth_by zk_1171_s (List.forall_mem_cons.mpr ⟨zk_1171_0, (List.forall_mem_cons.mpr ⟨zk_1171_1, (List.forall_mem_cons.mpr ⟨zk_1171_2, (List.forall_mem_cons.mpr ⟨zk_1171_3, (List.forall_mem_cons.mpr ⟨zk_1171_4, (List.forall_mem_cons.mpr ⟨zk_1171_5, (List.forall_mem_cons.mpr ⟨zk_1171_6, (List.forall_mem_cons.mpr ⟨zk_1171_7, (List.forall_mem_cons.mpr ⟨zk_1171_8, (List.forall_mem_cons.mpr ⟨zk_1171_9, (List.forall_mem_cons.mpr ⟨zk_1171_10, (List.forall_mem_cons.mpr ⟨zk_1171_11, (List.forall_mem_cons.mpr ⟨zk_1171_12, (List.forall_mem_cons.mpr ⟨zk_1171_13, (List.forall_mem_cons.mpr ⟨zk_1171_14, (List.forall_mem_cons.mpr ⟨zk_1171_15, (List.forall_mem_cons.mpr ⟨zk_1171_16, (List.forall_mem_cons.mpr ⟨zk_1171_17, (List.forall_mem_cons.mpr ⟨zk_1171_18, (List.forall_mem_cons.mpr ⟨zk_1171_19, (List.forall_mem_cons.mpr ⟨zk_1171_20, nilz⟩)⟩)⟩)⟩)⟩)⟩)⟩)⟩)⟩)⟩)⟩)⟩)⟩)⟩)⟩)⟩)⟩)⟩)⟩)⟩)⟩)
set_option maxRecDepth 100000 in
theorem zM_1171 {l : Launch} {D : va_G} {cI cZ cB cJ cR : ClassId} {ks ad : List Nat} {Psi : va_W → Prop} (hw : zworld ks ad zuq zNS Psi) (hm : zMan l D cI cZ cB cJ cR ks ad Psi) : zMet l D cI cZ cB cJ cR zKS ks ad Psi yX6_whyNotOaths (.code yX6_whyNotOaths cX6_whyNotOaths 4 (some .int)) 5 zc_1171 :=
  zmet_of hw 5 (by decide) 4000 zk_1171 (by decide) (by decide) (fun X => ⟨zg_RX6 X, zp_RX6 X, zl1_RX6 X, zl2_RX6 X, nilz, (List.forall_mem_cons.mpr ⟨zq_RX6_80 X (zM_935 hw hm) (by decide) rfl, (List.forall_mem_cons.mpr ⟨zq_RX6_234 X (zM_930 hw hm) (by decide) rfl rfl, (List.forall_mem_cons.mpr ⟨zq_RX6_267 X (zM_928 hw hm) (by decide) rfl rfl, (List.forall_mem_cons.mpr ⟨zq_RX6_270 X (zman_1017 hm) (by decide) rfl rfl, (List.forall_mem_cons.mpr ⟨zq_RX6_276 X (zM_923 hw hm) (by decide) rfl rfl, nilz⟩)⟩)⟩)⟩)⟩)⟩)
