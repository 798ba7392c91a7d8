set_option maxRecDepth 100000 in
theorem zk_1181_0 : zm1 zKS zuq zNS zm_1181 4000 zt_1181_0 = true := z1F (zdt_X6_whyNotWorn) (by decide +kernel)
set_option maxRecDepth 100000 in
theorem zk_1181_1 : zm1 zKS zuq zNS zm_1181 4000 zt_1181_1 = true := z1F (zdt_X6_whyNotWorn) (by decide +kernel)
set_option maxRecDepth 100000 in
theorem zk_1181_2 : zm1 zKS zuq zNS zm_1181 4000 zt_1181_2 = true := z1F (zdt_X6_whyNotWorn) (by decide +kernel)
set_option maxRecDepth 100000 in
theorem zk_1181_3 : zm1 zKS zuq zNS zm_1181 4000 zt_1181_3 = true := z1F (zdt_X6_whyNotWorn) (by decide +kernel)
set_option maxRecDepth 100000 in
theorem zk_1181_4 : zm1 zKS zuq zNS zm_1181 4000 zt_1181_4 = true := z1F (zdt_X6_whyNotWorn) (by decide +kernel)
set_option maxRecDepth 100000 in
theorem zk_1181_5 : zm1 zKS zuq zNS zm_1181 4000 zt_1181_5 = true := z1F (zdt_X6_whyNotWorn) (by decide +kernel)
set_option maxRecDepth 100000 in
theorem zk_1181_6 : zm1 zKS zuq zNS zm_1181 4000 zt_1181_6 = true := z1F (zdt_X6_whyNotWorn) (by decide +kernel)
set_option maxRecDepth 100000 in
theorem zk_1181_7 : zm1 zKS zuq zNS zm_1181 4000 zt_1181_7 = true := z1F (zdt_X6_whyNotWorn) (by decide +kernel)
set_option maxRecDepth 100000 in
theorem zk_1181_8 : zm1 zKS zuq zNS zm_1181 4000 zt_1181_8 = true := z1F (zdt_X6_whyNotWorn) (by decide +kernel)
set_option maxRecDepth 100000 in
theorem zk_1181_9 : zm1 zKS zuq zNS zm_1181 4000 zt_1181_9 = true := z1F (zdt_X6_whyNotWorn) (by decide +kernel)
set_option maxRecDepth 100000 in
theorem zk_1181_10 : zm1 zKS zuq zNS zm_1181 4000 zt_1181_10 = true := z1F (zdt_X6_whyNotWorn) (by decide +kernel)
set_option maxRecDepth 100000 in
theorem zk_1181_11 : zm1 zKS zuq zNS zm_1181 4000 zt_1181_11 = true := z1F (zdt_X6_whyNotWorn) (by decide +kernel)
set_option maxRecDepth 100000 in
theorem zk_1181_12 : zm1 zKS zuq zNS zm_1181 4000 zt_1181_12 = true := z1F (zdt_X6_whyNotWorn) (by decide +kernel)
set_option maxRecDepth 100000 in
theorem zk_1181_13 : zm1 zKS zuq zNS zm_1181 4000 zt_1181_13 = true := z1F (zdt_X6_whyNotWorn) (by decide +kernel)
set_option maxRecDepth 100000 in
theorem zk_1181_14 : zm1 zKS zuq zNS zm_1181 4000 zt_1181_14 = true := z1F (zdt_X6_whyNotWorn) (by decide +kernel)
set_option maxRecDepth 100000 in
theorem zk_1181_15 : zm1 zKS zuq zNS zm_1181 4000 zt_1181_15 = true := z1F (zdt_X6_whyNotWorn) (by decide +kernel)
set_option maxRecDepth 100000 in
theorem zk_1181_16 : zm1 zKS zuq zNS zm_1181 4000 zt_1181_16 = true := z1F (zdt_X6_whyNotWorn) (by decide +kernel)
set_option maxRecDepth 100000 in
theorem zk_1181_17 : zm1 zKS zuq zNS zm_1181 4000 zt_1181_17 = true := z1F (zdt_X6_whyNotWorn) (by decide +kernel)
set_option maxRecDepth 100000 in
theorem zk_1181_18 : zm1 zKS zuq zNS zm_1181 4000 zt_1181_18 = true := z1F (zdt_X6_whyNotWorn) (by decide +kernel)
set_option maxRecDepth 100000 in
theorem zk_1181_19 : zm1 zKS zuq zNS zm_1181 4000 zt_1181_19 = true := z1F (zdt_X6_whyNotWorn) (by decide +kernel)
set_option maxRecDepth 100000 in
theorem zk_1181_20 : zm1 zKS zuq zNS zm_1181 4000 zt_1181_20 = true := z1F (zdt_X6_whyNotWorn) (by decide +kernel)
set_option maxRecDepth 100000 in
theorem zk_1181_s : zm0 zKS zuq zNS zm_1181 4000 = true := z0F (zdt_X6_whyNotWorn) (by decide +kernel)
set_option maxRecDepth 100000 in
theorem zk_1181 : zmeth zKS zuq zNS zm_1181 4000 = true := zmeth_by zk_1181_s (List.forall_mem_cons.mpr ⟨zk_1181_0, (List.forall_mem_cons.mpr ⟨zk_1181_1, (List.forall_mem_cons.mpr ⟨zk_1181_2, (List.forall_mem_cons.mpr ⟨zk_1181_3, (List.forall_mem_cons.mpr ⟨zk_1181_4, (List.forall_mem_cons.mpr ⟨zk_1181_5, (List.forall_mem_cons.mpr ⟨zk_1181_6, (List.forall_mem_cons.mpr ⟨zk_1181_7, (List.forall_mem_cons.mpr ⟨zk_1181_8, (List.forall_mem_cons.mpr ⟨zk_1181_9, (List.forall_mem_cons.mpr ⟨zk_1181_10, (List.forall_mem_cons.mpr ⟨zk_1181_11, (List.forall_mem_cons.mpr ⟨zk_1181_12, (List.forall_mem_cons.mpr ⟨zk_1181_13, (List.forall_mem_cons.mpr ⟨zk_1181_14, (List.forall_mem_cons.mpr ⟨zk_1181_15, (List.forall_mem_cons.mpr ⟨zk_1181_16, (List.forall_mem_cons.mpr ⟨zk_1181_17, (List.forall_mem_cons.mpr ⟨zk_1181_18, (List.forall_mem_cons.mpr ⟨zk_1181_19, (List.forall_mem_cons.mpr ⟨zk_1181_20, nilz⟩)⟩)⟩)⟩)⟩)⟩)⟩)⟩)⟩)⟩)⟩)⟩)⟩)⟩)⟩)⟩)⟩)⟩)⟩)⟩)⟩)
set_option maxRecDepth 100000 in
theorem zM_1181 {l : Launch} {D : va_G} {cI cZ cB cJ cR : ClassId} {ks ad : List Nat} {Psi : va_W → Prop} (hw : zworld ks ad zuq zNS Psi) (hm : zMan l D cI cZ cB cJ cR ks ad Psi) : zMet l D cI cZ cB cJ cR zKS ks ad Psi yX6_whyNotWorn (.code yX6_whyNotWorn cX6_whyNotWorn 4 (some .int)) 2 zc_1181 :=
  zmet_of hw 2 (by decide) 4000 zk_1181 (by decide) (by decide) (fun X => ⟨zg_RX6 X, zp_RX6 X, zl1_RX6 X, zl2_RX6 X, nilz, (List.forall_mem_cons.mpr ⟨zq_RX6_76 X (zM_919 hw hm) (by decide) rfl, (List.forall_mem_cons.mpr ⟨zq_RX6_80 X (zM_935 hw hm) (by decide) rfl, (List.forall_mem_cons.mpr ⟨zq_RX6_234 X (zM_930 hw hm) (by decide) rfl rfl, (List.forall_mem_cons.mpr ⟨zq_RX6_267 X (zM_928 hw hm) (by decide) rfl rfl, (List.forall_mem_cons.mpr ⟨zq_RX6_276 X (zM_923 hw hm) (by decide) rfl rfl, nilz⟩)⟩)⟩)⟩)⟩)⟩)
set_option maxRecDepth 100000 in
theorem zk_1182_0 : zm1 zKS zuq zNS zm_1182 4000 zt_1182_0 = true := z1F (zdt_X6_whyNotWorn) (by decide +kernel)
set_option maxRecDepth 100000 in
theorem zk_1182_1 : zm1 zKS zuq zNS zm_1182 4000 zt_1182_1 = true := z1F (zdt_X6_whyNotWorn) (by decide +kernel)
set_option maxRecDepth 100000 in
theorem zk_1182_2 : zm1 zKS zuq zNS zm_1182 4000 zt_1182_2 = true := z1F (zdt_X6_whyNotWorn) (by decide +kernel)
set_option maxRecDepth 100000 in
theorem zk_1182_3 : zm1 zKS zuq zNS zm_1182 4000 zt_1182_3 = true := z1F (zdt_X6_whyNotWorn) (by decide +kernel)
set_option maxRecDepth 100000 in
theorem zk_1182_4 : zm1 zKS zuq zNS zm_1182 4000 zt_1182_4 = true := z1F (zdt_X6_whyNotWorn) (by decide +kernel)
set_option maxRecDepth 100000 in
theorem zk_1182_5 : zm1 zKS zuq zNS zm_1182 4000 zt_1182_5 = true := z1F (zdt_X6_whyNotWorn) (by decide +kernel)
set_option maxRecDepth 100000 in
theorem zk_1182_6 : zm1 zKS zuq zNS zm_1182 4000 zt_1182_6 = true := z1F (zdt_X6_whyNotWorn) (by decide +kernel)
set_option maxRecDepth 100000 in
theorem zk_1182_7 : zm1 zKS zuq zNS zm_1182 4000 zt_1182_7 = true := z1F (zdt_X6_whyNotWorn) (by decide +kernel)
set_option maxRecDepth 100000 in
theorem zk_1182_8 : zm1 zKS zuq zNS zm_1182 4000 zt_1182_8 = true := z1F (zdt_X6_whyNotWorn) (by decide +kernel)
set_option maxRecDepth 100000 in
theorem zk_1182_9 : zm1 zKS zuq zNS zm_1182 4000 zt_1182_9 = true := z1F (zdt_X6_whyNotWorn) (by decide +kernel)
set_option maxRecDepth 100000 in
theorem zk_1182_10 : zm1 zKS zuq zNS zm_1182 4000 zt_1182_10 = true := z1F (zdt_X6_whyNotWorn) (by decide +kernel)
set_option maxRecDepth 100000 in
theorem zk_1182_11 : zm1 zKS zuq zNS zm_1182 4000 zt_1182_11 = true := z1F (zdt_X6_whyNotWorn) (by decide +kernel)
set_option maxRecDepth 100000 in
theorem zk_1182_12 : zm1 zKS zuq zNS zm_1182 4000 zt_1182_12 = true := z1F (zdt_X6_whyNotWorn) (by decide +kernel)
set_option maxRecDepth 100000 in
theorem zk_1182_13 : zm1 zKS zuq zNS zm_1182 4000 zt_1182_13 = true := z1F (zdt_X6_whyNotWorn) (by decide +kernel)
set_option maxRecDepth 100000 in
theorem zk_1182_14 : zm1 zKS zuq zNS zm_1182 4000 zt_1182_14 = true := z1F (zdt_X6_whyNotWorn) (by decide +kernel)
set_option maxRecDepth 100000 in
theorem zk_1182_15 : zm1 zKS zuq zNS zm_1182 4000 zt_1182_15 = true := z1F (zdt_X6_whyNotWorn) (by decide +kernel)
set_option maxRecDepth 100000 in
theorem zk_1182_16 : zm1 zKS zuq zNS zm_1182 4000 zt_1182_16 = true := z1F (zdt_X6_whyNotWorn) (by decide +kernel)
set_option maxRecDepth 100000 in
theorem zk_1182_17 : zm1 zKS zuq zNS zm_1182 4000 zt_1182_17 = true := z1F (zdt_X6_whyNotWorn) (by decide +kernel)
set_option maxRecDepth 100000 in
theorem zk_1182_18 : zm1 zKS zuq zNS zm_1182 4000 zt_1182_18 = true := z1F (zdt_X6_whyNotWorn) (by decide +kernel)
set_option maxRecDepth 100000 in
theorem zk_1182_19 : zm1 zKS zuq zNS zm_1182 4000 zt_1182_19 = true := z1F (zdt_X6_whyNotWorn) (by decide +kernel)
set_option maxRecDepth 100000 in
theorem zk_1182_20 : zm1 zKS zuq zNS zm_1182 4000 zt_1182_20 = true := z1F (zdt_X6_whyNotWorn) (by decide +kernel)
set_option maxRecDepth 100000 in
theorem zk_1182_s : zm0 zKS zuq zNS zm_1182 4000 = true := z0F (zdt_X6_whyNotWorn) (by decide +kernel)
set_option maxRecDepth 100000 in
theorem zk_1182 : zmeth zKS zuq zNS zm_1182 4000 = true := zmeth_by zk_1182_s (List.forall_mem_cons.mpr ⟨zk_1182_0, (List.forall_mem_cons.mpr ⟨zk_1182_1, (List.forall_mem_cons.mpr ⟨zk_1182_2, (List.forall_mem_cons.mpr ⟨zk_1182_3, (List.forall_mem_cons.mpr ⟨zk_1182_4, (List.forall_mem_cons.mpr ⟨zk_1182_5, (List.forall_mem_cons.mpr ⟨zk_1182_6, (List.forall_mem_cons.mpr ⟨zk_1182_7, (List.forall_mem_cons.mpr ⟨zk_1182_8, (List.forall_mem_cons.mpr ⟨zk_1182_9, (List.forall_mem_cons.mpr ⟨zk_1182_10, (List.forall_mem_cons.mpr ⟨zk_1182_11, (List.forall_mem_cons.mpr ⟨zk_1182_12, (List.forall_mem_cons.mpr ⟨zk_1182_13, (List.forall_mem_cons.mpr ⟨zk_1182_14, (List.forall_mem_cons.mpr ⟨zk_1182_15, (List.forall_mem_cons.mpr ⟨zk_1182_16, (List.forall_mem_cons.mpr ⟨zk_1182_17, (List.forall_mem_cons.mpr ⟨zk_1182_18, (List.forall_mem_cons.mpr ⟨zk_1182_19, (List.forall_mem_cons.mpr ⟨zk_1182_20, nilz⟩)⟩)⟩)⟩)⟩)⟩)⟩)⟩)⟩)⟩)⟩)⟩)⟩)⟩)⟩)⟩)⟩)⟩)⟩)⟩)⟩)
set_option maxRecDepth 100000 in
theorem zM_1182 {l : Launch} {D : va_G} {cI cZ cB cJ cR : ClassId} {ks ad : List Nat} {Psi : va_W → Prop} (hw : zworld ks ad zuq zNS Psi) (hm : zMan l D cI cZ cB cJ cR ks ad Psi) : zMet l D cI cZ cB cJ cR zKS ks ad Psi yX6_whyNotWorn (.code yX6_whyNotWorn cX6_whyNotWorn 4 (some .int)) 2 zc_1182 :=
  zmet_of hw 2 (by decide) 4000 zk_1182 (by decide) (by decide) (fun X => ⟨zg_RX6 X, zp_RX6 X, zl1_RX6 X, zl2_RX6 X, nilz, (List.forall_mem_cons.mpr ⟨zq_RX6_76 X (zM_919 hw hm) (by decide) rfl, (List.forall_mem_cons.mpr ⟨zq_RX6_80 X (zM_935 hw hm) (by decide) rfl, (List.forall_mem_cons.mpr ⟨zq_RX6_234 X (zM_930 hw hm) (by decide) rfl rfl, (List.forall_mem_cons.mpr ⟨zq_RX6_267 X (zM_928 hw hm) (by decide) rfl rfl, (List.forall_mem_cons.mpr ⟨zq_RX6_276 X (zM_923 hw hm) (by decide) rfl rfl, nilz⟩)⟩)⟩)⟩)⟩)⟩)
set_option maxRecDepth 100000 in
theorem zk_1183_0 : zm1 zKS zuq zNS zm_1183 4000 zt_1183_0 = true := z1F (zdt_X6_whyNotWorn) (by decide +kernel)
set_option maxRecDepth 100000 in
theorem zk_1183_1 : zm1 zKS zuq zNS zm_1183 4000 zt_1183_1 = true := z1F (zdt_X6_whyNotWorn) (by decide +kernel)
set_option maxRecDepth 100000 in
theorem zk_1183_2 : zm1 zKS zuq zNS zm_1183 4000 zt_1183_2 = true := z1F (zdt_X6_whyNotWorn) (by decide +kernel)
set_option maxRecDepth 100000 in
theorem zk_1183_3 : zm1 zKS zuq zNS zm_1183 4000 zt_1183_3 = true := z1F (zdt_X6_whyNotWorn) (by decide +kernel)
set_option maxRecDepth 100000 in
theorem zk_1183_4 : zm1 zKS zuq zNS zm_1183 4000 zt_1183_4 = true := z1F (zdt_X6_whyNotWorn) (by decide +kernel)
set_option maxRecDepth 100000 in
theorem zk_1183_5 : zm1 zKS zuq zNS zm_1183 4000 zt_1183_5 = true := z1F (zdt_X6_whyNotWorn) (by decide +kernel)
set_option maxRecDepth 100000 in
theorem zk_1183_6 : zm1 zKS zuq zNS zm_1183 4000 zt_1183_6 = true := z1F (zdt_X6_whyNotWorn) (by decide +kernel)
set_option maxRecDepth 100000 in
theorem zk_1183_7 : zm1 zKS zuq zNS zm_1183 4000 zt_1183_7 = true := z1F (zdt_X6_whyNotWorn) (by decide +kernel)
set_option maxRecDepth 100000 in
theorem zk_1183_8 : zm1 zKS zuq zNS zm_1183 4000 zt_1183_8 = true := z1F (zdt_X6_whyNotWorn) (by decide +kernel)
set_option maxRecDepth 100000 in
theorem zk_1183_9 : zm1 zKS zuq zNS zm_1183 4000 zt_1183_9 = true := z1F (zdt_X6_whyNotWorn) (by decide +kernel)
set_option maxRecDepth 100000 in
theorem zk_1183_10 : zm1 zKS zuq zNS zm_1183 4000 zt_1183_10 = true := z1F (zdt_X6_whyNotWorn) (by decide +kernel)
set_option maxRecDepth 100000 in
theorem zk_1183_11 : zm1 zKS zuq zNS zm_1183 4000 zt_1183_11 = true := z1F (zdt_X6_whyNotWorn) (by decide +kernel)
set_option maxRecDepth 100000 in
theorem zk_1183_12 : zm1 zKS zuq zNS zm_1183 4000 zt_1183_12 = true := z1F (zdt_X6_whyNotWorn) (by decide +kernel)
set_option maxRecDepth 100000 in
theorem zk_1183_13 : zm1 zKS zuq zNS zm_1183 4000 zt_1183_13 = true := z1F (zdt_X6_whyNotWorn) (by decide +kernel)
set_option maxRecDepth 100000 in
theorem zk_1183_14 : zm1 zKS zuq zNS zm_1183 4000 zt_1183_14 = true := z1F (zdt_X6_whyNotWorn) (by decide +kernel)
set_option maxRecDepth 100000 in
theorem zk_1183_15 : zm1 zKS zuq zNS zm_1183 4000 zt_1183_15 = true := z1F (zdt_X6_whyNotWorn) (by decide +kernel)
set_option maxRecDepth 100000 in
theorem zk_1183_16 : zm1 zKS zuq zNS zm_1183 4000 zt_1183_16 = true := z1F (zdt_X6_whyNotWorn) (by decide +kernel)
set_option maxRecDepth 100000 in
theorem zk_1183_17 : zm1 zKS zuq zNS zm_1183 4000 zt_1183_17 = true := z1F (zdt_X6_whyNotWorn) (by decide +kernel)
set_option maxRecDepth 100000 in
theorem zk_1183_18 : zm1 zKS zuq zNS zm_1183 4000 zt_1183_18 = true := z1F (zdt_X6_whyNotWorn) (by decide +kernel)
set_option maxRecDepth 100000 in
theorem zk_1183_19 : zm1 zKS zuq zNS zm_1183 4000 zt_1183_19 = true := z1F (zdt_X6_whyNotWorn) (by decide +kernel)
set_option maxRecDepth 100000 in
theorem zk_1183_20 : zm1 zKS zuq zNS zm_1183 4000 zt_1183_20 = true := z1F (zdt_X6_whyNotWorn) (by decide +kernel)
set_option maxRecDepth 100000 in
theorem zk_1183_s : zm0 zKS zuq zNS zm_1183 4000 = true := z0F (zdt_X6_whyNotWorn) (by decide +kernel)
set_option maxRecDepth 100000 in
theorem zk_1183 : zmeth zKS zuq zNS zm_1183 4000 = true := zmeth_by zk_1183_s (List.forall_mem_cons.mpr ⟨zk_1183_0, (List.forall_mem_cons.mpr ⟨zk_1183_1, (List.forall_mem_cons.mpr ⟨zk_1183_2, (List.forall_mem_cons.mpr ⟨zk_1183_3, (List.forall_mem_cons.mpr ⟨zk_1183_4, (List.forall_mem_cons.mpr ⟨zk_1183_5, (List.forall_mem_cons.mpr ⟨zk_1183_6, (List.forall_mem_cons.mpr ⟨zk_1183_7, (List.forall_mem_cons.mpr ⟨zk_1183_8, (List.forall_mem_cons.mpr ⟨zk_1183_9, (List.forall_mem_cons.mpr ⟨zk_1183_10, (List.forall_mem_cons.mpr ⟨zk_1183_11, (List.forall_mem_cons.mpr ⟨zk_1183_12, (List.forall_mem_cons.mpr ⟨zk_1183_13, (List.forall_mem_cons.mpr ⟨zk_1183_14, (List.forall_mem_cons.mpr ⟨zk_1183_15, (List.forall_mem_cons.mpr ⟨zk_1183_16, (List.forall_mem_cons.mpr ⟨zk_1183_17, (List.forall_mem_cons.mpr ⟨zk_1183_18, (List.forall_mem_cons.mpr ⟨zk_1183_19, (List.forall_mem_cons.mpr ⟨zk_1183_20, nilz⟩)⟩)⟩)⟩)⟩)⟩)⟩)⟩)⟩)⟩)⟩)⟩)⟩)⟩)⟩)⟩)⟩)⟩)⟩)⟩)⟩)
set_option maxRecDepth 100000 in
theorem zM_1183 {l : Launch} {D : va_G} {cI cZ cB cJ cR : ClassId} {ks ad : List Nat} {Psi : va_W → Prop} (hw : zworld ks ad zuq zNS Psi) (hm : zMan l D cI cZ cB cJ cR ks ad Psi) : zMet l D cI cZ cB cJ cR zKS ks ad Psi yX6_whyNotWorn (.code yX6_whyNotWorn cX6_whyNotWorn 4 (some .int)) 2 zc_1183 :=
  zmet_of hw 2 (by decide) 4000 zk_1183 (by decide) (by decide) (fun X => ⟨zg_RX6 X, zp_RX6 X, zl1_RX6 X, zl2_RX6 X, nilz, (List.forall_mem_cons.mpr ⟨zq_RX6_76 X (zM_919 hw hm) (by decide) rfl, (List.forall_mem_cons.mpr ⟨zq_RX6_80 X (zM_935 hw hm) (by decide) rfl, (List.forall_mem_cons.mpr ⟨zq_RX6_234 X (zM_930 hw hm) (by decide) rfl rfl, (List.forall_mem_cons.mpr ⟨zq_RX6_267 X (zM_928 hw hm) (by decide) rfl rfl, (List.forall_mem_cons.mpr ⟨zq_RX6_276 X (zM_923 hw hm) (by decide) rfl rfl, nilz⟩)⟩)⟩)⟩)⟩)⟩)
