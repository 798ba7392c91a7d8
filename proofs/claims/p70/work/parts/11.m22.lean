set_option maxRecDepth 100000 in
theorem zk_1185_0 : zm1 zKS zuq zNS zm_1185 4000 zt_1185_0 = true := z1F (zdt_X6_whyNotWorn) (by decide +kernel)
set_option maxRecDepth 100000 in
theorem zk_1185_1 : zm1 zKS zuq zNS zm_1185 4000 zt_1185_1 = true := z1F (zdt_X6_whyNotWorn) (by decide +kernel)
set_option maxRecDepth 100000 in
theorem zk_1185_2 : zm1 zKS zuq zNS zm_1185 4000 zt_1185_2 = true := z1F (zdt_X6_whyNotWorn) (by decide +kernel)
set_option maxRecDepth 100000 in
theorem zk_1185_3 : zm1 zKS zuq zNS zm_1185 4000 zt_1185_3 = true := z1F (zdt_X6_whyNotWorn) (by decide +kernel)
set_option maxRecDepth 100000 in
theorem zk_1185_4 : zm1 zKS zuq zNS zm_1185 4000 zt_1185_4 = true := z1F (zdt_X6_whyNotWorn) (by decide +kernel)
set_option maxRecDepth 100000 in
theorem zk_1185_5 : zm1 zKS zuq zNS zm_1185 4000 zt_1185_5 = true := z1F (zdt_X6_whyNotWorn) (by decide +kernel)
set_option maxRecDepth 100000 in
theorem zk_1185_6 : zm1 zKS zuq zNS zm_1185 4000 zt_1185_6 = true := z1F (zdt_X6_whyNotWorn) (by decide +kernel)
set_option maxRecDepth 100000 in
theorem zk_1185_7 : zm1 zKS zuq zNS zm_1185 4000 zt_1185_7 = true := z1F (zdt_X6_whyNotWorn) (by decide +kernel)
set_option maxRecDepth 100000 in
theorem zk_1185_8 : zm1 zKS zuq zNS zm_1185 4000 zt_1185_8 = true := z1F (zdt_X6_whyNotWorn) (by decide +kernel)
set_option maxRecDepth 100000 in
theorem zk_1185_9 : zm1 zKS zuq zNS zm_1185 4000 zt_1185_9 = true := z1F (zdt_X6_whyNotWorn) (by decide +kernel)
set_option maxRecDepth 100000 in
theorem zk_1185_10 : zm1 zKS zuq zNS zm_1185 4000 zt_1185_10 = true := z1F (zdt_X6_whyNotWorn) (by decide +kernel)
set_option maxRecDepth 100000 in
theorem zk_1185_11 : zm1 zKS zuq zNS zm_1185 4000 zt_1185_11 = true := z1F (zdt_X6_whyNotWorn) (by decide +kernel)
set_option maxRecDepth 100000 in
theorem zk_1185_12 : zm1 zKS zuq zNS zm_1185 4000 zt_1185_12 = true := z1F (zdt_X6_whyNotWorn) (by decide +kernel)
set_option maxRecDepth 100000 in
theorem zk_1185_13 : zm1 zKS zuq zNS zm_1185 4000 zt_1185_13 = true := z1F (zdt_X6_whyNotWorn) (by decide +kernel)
set_option maxRecDepth 100000 in
theorem zk_1185_14 : zm1 zKS zuq zNS zm_1185 4000 zt_1185_14 = true := z1F (zdt_X6_whyNotWorn) (by decide +kernel)
set_option maxRecDepth 100000 in
theorem zk_1185_15 : zm1 zKS zuq zNS zm_1185 4000 zt_1185_15 = true := z1F (zdt_X6_whyNotWorn) (by decide +kernel)
set_option maxRecDepth 100000 in
theorem zk_1185_16 : zm1 zKS zuq zNS zm_1185 4000 zt_1185_16 = true := z1F (zdt_X6_whyNotWorn) (by decide +kernel)
set_option maxRecDepth 100000 in
theorem zk_1185_17 : zm1 zKS zuq zNS zm_1185 4000 zt_1185_17 = true := z1F (zdt_X6_whyNotWorn) (by decide +kernel)
set_option maxRecDepth 100000 in
theorem zk_1185_18 : zm1 zKS zuq zNS zm_1185 4000 zt_1185_18 = true := z1F (zdt_X6_whyNotWorn) (by decide +kernel)
set_option maxRecDepth 100000 in
theorem zk_1185_19 : zm1 zKS zuq zNS zm_1185 4000 zt_1185_19 = true := z1F (zdt_X6_whyNotWorn) (by decide +kernel)
set_option maxRecDepth 100000 in
theorem zk_1185_20 : zm1 zKS zuq zNS zm_1185 4000 zt_1185_20 = true := z1F (zdt_X6_whyNotWorn) (by decide +kernel)
set_option maxRecDepth 100000 in
theorem zk_1185_s : zm0 zKS zuq zNS zm_1185 4000 = true := z0F (zdt_X6_whyNotWorn) (by decide +kernel)
set_option maxRecDepth 100000 in
theorem zk_1185 : zmeth zKS zuq zNS zm_1185 4000 = true := zmeth_by zk_1185_s (List.forall_mem_cons.mpr ⟨zk_1185_0, (List.forall_mem_cons.mpr ⟨zk_1185_1, (List.forall_mem_cons.mpr ⟨zk_1185_2, (List.forall_mem_cons.mpr ⟨zk_1185_3, (List.forall_mem_cons.mpr ⟨zk_1185_4, (List.forall_mem_cons.mpr ⟨zk_1185_5, (List.forall_mem_cons.mpr ⟨zk_1185_6, (List.forall_mem_cons.mpr ⟨zk_1185_7, (List.forall_mem_cons.mpr ⟨zk_1185_8, (List.forall_mem_cons.mpr ⟨zk_1185_9, (List.forall_mem_cons.mpr ⟨zk_1185_10, (List.forall_mem_cons.mpr ⟨zk_1185_11, (List.forall_mem_cons.mpr ⟨zk_1185_12, (List.forall_mem_cons.mpr ⟨zk_1185_13, (List.forall_mem_cons.mpr ⟨zk_1185_14, (List.forall_mem_cons.mpr ⟨zk_1185_15, (List.forall_mem_cons.mpr ⟨zk_1185_16, (List.forall_mem_cons.mpr ⟨zk_1185_17, (List.forall_mem_cons.mpr ⟨zk_1185_18, (List.forall_mem_cons.mpr ⟨zk_1185_19, (List.forall_mem_cons.mpr ⟨zk_1185_20, nilz⟩)⟩)⟩)⟩)⟩)⟩)⟩)⟩)⟩)⟩)⟩)⟩)⟩)⟩)⟩)⟩)⟩)⟩)⟩)⟩)⟩)
set_option maxRecDepth 100000 in
theorem zM_1185 {l : Launch} {D : va_G} {cI cZ cB cJ cR : ClassId} {ks ad : List Nat} {Psi : va_W → Prop} (hw : zworld ks ad zuq zNS Psi) (hm : zMan l D cI cZ cB cJ cR ks ad Psi) : zMet l D cI cZ cB cJ cR zKS ks ad Psi yX6_whyNotWorn (.code yX6_whyNotWorn cX6_whyNotWorn 4 (some .int)) 2 zc_1185 :=
  zmet_of hw 2 (by decide) 4000 zk_1185 (by decide) (by decide) (fun X => ⟨zg_RX6 X, zp_RX6 X, zl1_RX6 X, zl2_RX6 X, nilz, (List.forall_mem_cons.mpr ⟨zq_RX6_76 X (zM_923 hw hm) (by decide) rfl, (List.forall_mem_cons.mpr ⟨zq_RX6_80 X (zM_939 hw hm) (by decide) rfl, (List.forall_mem_cons.mpr ⟨zq_RX6_234 X (zM_934 hw hm) (by decide) rfl rfl, (List.forall_mem_cons.mpr ⟨zq_RX6_267 X (zM_932 hw hm) (by decide) rfl rfl, (List.forall_mem_cons.mpr ⟨zq_RX6_276 X (zM_927 hw hm) (by decide) rfl rfl, nilz⟩)⟩)⟩)⟩)⟩)⟩)
set_option maxRecDepth 100000 in
theorem zk_1186_0 : zm1 zKS zuq zNS zm_1186 4000 zt_1186_0 = true := z1F (zdt_X6_whyNotWorn) (by decide +kernel)
set_option maxRecDepth 100000 in
theorem zk_1186_1 : zm1 zKS zuq zNS zm_1186 4000 zt_1186_1 = true := z1F (zdt_X6_whyNotWorn) (by decide +kernel)
set_option maxRecDepth 100000 in
theorem zk_1186_2 : zm1 zKS zuq zNS zm_1186 4000 zt_1186_2 = true := z1F (zdt_X6_whyNotWorn) (by decide +kernel)
set_option maxRecDepth 100000 in
theorem zk_1186_3 : zm1 zKS zuq zNS zm_1186 4000 zt_1186_3 = true := z1F (zdt_X6_whyNotWorn) (by decide +kernel)
set_option maxRecDepth 100000 in
theorem zk_1186_4 : zm1 zKS zuq zNS zm_1186 4000 zt_1186_4 = true := z1F (zdt_X6_whyNotWorn) (by decide +kernel)
set_option maxRecDepth 100000 in
theorem zk_1186_5 : zm1 zKS zuq zNS zm_1186 4000 zt_1186_5 = true := z1F (zdt_X6_whyNotWorn) (by decide +kernel)
set_option maxRecDepth 100000 in
theorem zk_1186_6 : zm1 zKS zuq zNS zm_1186 4000 zt_1186_6 = true := z1F (zdt_X6_whyNotWorn) (by decide +kernel)
set_option maxRecDepth 100000 in
theorem zk_1186_7 : zm1 zKS zuq zNS zm_1186 4000 zt_1186_7 = true := z1F (zdt_X6_whyNotWorn) (by decide +kernel)
set_option maxRecDepth 100000 in
theorem zk_1186_8 : zm1 zKS zuq zNS zm_1186 4000 zt_1186_8 = true := z1F (zdt_X6_whyNotWorn) (by decide +kernel)
set_option maxRecDepth 100000 in
theorem zk_1186_9 : zm1 zKS zuq zNS zm_1186 4000 zt_1186_9 = true := z1F (zdt_X6_whyNotWorn) (by decide +kernel)
set_option maxRecDepth 100000 in
theorem zk_1186_10 : zm1 zKS zuq zNS zm_1186 4000 zt_1186_10 = true := z1F (zdt_X6_whyNotWorn) (by decide +kernel)
set_option maxRecDepth 100000 in
theorem zk_1186_11 : zm1 zKS zuq zNS zm_1186 4000 zt_1186_11 = true := z1F (zdt_X6_whyNotWorn) (by decide +kernel)
set_option maxRecDepth 100000 in
theorem zk_1186_12 : zm1 zKS zuq zNS zm_1186 4000 zt_1186_12 = true := z1F (zdt_X6_whyNotWorn) (by decide +kernel)
set_option maxRecDepth 100000 in
theorem zk_1186_13 : zm1 zKS zuq zNS zm_1186 4000 zt_1186_13 = true := z1F (zdt_X6_whyNotWorn) (by decide +kernel)
set_option maxRecDepth 100000 in
theorem zk_1186_14 : zm1 zKS zuq zNS zm_1186 4000 zt_1186_14 = true := z1F (zdt_X6_whyNotWorn) (by decide +kernel)
set_option maxRecDepth 100000 in
theorem zk_1186_15 : zm1 zKS zuq zNS zm_1186 4000 zt_1186_15 = true := z1F (zdt_X6_whyNotWorn) (by decide +kernel)
set_option maxRecDepth 100000 in
theorem zk_1186_16 : zm1 zKS zuq zNS zm_1186 4000 zt_1186_16 = true := z1F (zdt_X6_whyNotWorn) (by decide +kernel)
set_option maxRecDepth 100000 in
theorem zk_1186_17 : zm1 zKS zuq zNS zm_1186 4000 zt_1186_17 = true := z1F (zdt_X6_whyNotWorn) (by decide +kernel)
set_option maxRecDepth 100000 in
theorem zk_1186_18 : zm1 zKS zuq zNS zm_1186 4000 zt_1186_18 = true := z1F (zdt_X6_whyNotWorn) (by decide +kernel)
set_option maxRecDepth 100000 in
theorem zk_1186_19 : zm1 zKS zuq zNS zm_1186 4000 zt_1186_19 = true := z1F (zdt_X6_whyNotWorn) (by decide +kernel)
set_option maxRecDepth 100000 in
theorem zk_1186_20 : zm1 zKS zuq zNS zm_1186 4000 zt_1186_20 = true := z1F (zdt_X6_whyNotWorn) (by decide +kernel)
set_option maxRecDepth 100000 in
theorem zk_1186_s : zm0 zKS zuq zNS zm_1186 4000 = true := z0F (zdt_X6_whyNotWorn) (by decide +kernel)
set_option maxRecDepth 100000 in
theorem zk_1186 : zmeth zKS zuq zNS zm_1186 4000 = true := zmeth_by zk_1186_s (List.forall_mem_cons.mpr ⟨zk_1186_0, (List.forall_mem_cons.mpr ⟨zk_1186_1, (List.forall_mem_cons.mpr ⟨zk_1186_2, (List.forall_mem_cons.mpr ⟨zk_1186_3, (List.forall_mem_cons.mpr ⟨zk_1186_4, (List.forall_mem_cons.mpr ⟨zk_1186_5, (List.forall_mem_cons.mpr ⟨zk_1186_6, (List.forall_mem_cons.mpr ⟨zk_1186_7, (List.forall_mem_cons.mpr ⟨zk_1186_8, (List.forall_mem_cons.mpr ⟨zk_1186_9, (List.forall_mem_cons.mpr ⟨zk_1186_10, (List.forall_mem_cons.mpr ⟨zk_1186_11, (List.forall_mem_cons.mpr ⟨zk_1186_12, (List.forall_mem_cons.mpr ⟨zk_1186_13, (List.forall_mem_cons.mpr ⟨zk_1186_14, (List.forall_mem_cons.mpr ⟨zk_1186_15, (List.forall_mem_cons.mpr ⟨zk_1186_16, (List.forall_mem_cons.mpr ⟨zk_1186_17, (List.forall_mem_cons.mpr ⟨zk_1186_18, (List.forall_mem_cons.mpr ⟨zk_1186_19, (List.forall_mem_cons.mpr ⟨zk_1186_20, nilz⟩)⟩)⟩)⟩)⟩)⟩)⟩)⟩)⟩)⟩)⟩)⟩)⟩)⟩)⟩)⟩)⟩)⟩)⟩)⟩)⟩)
set_option maxRecDepth 100000 in
theorem zM_1186 {l : Launch} {D : va_G} {cI cZ cB cJ cR : ClassId} {ks ad : List Nat} {Psi : va_W → Prop} (hw : zworld ks ad zuq zNS Psi) (hm : zMan l D cI cZ cB cJ cR ks ad Psi) : zMet l D cI cZ cB cJ cR zKS ks ad Psi yX6_whyNotWorn (.code yX6_whyNotWorn cX6_whyNotWorn 4 (some .int)) 2 zc_1186 :=
  zmet_of hw 2 (by decide) 4000 zk_1186 (by decide) (by decide) (fun X => ⟨zg_RX6 X, zp_RX6 X, zl1_RX6 X, zl2_RX6 X, nilz, (List.forall_mem_cons.mpr ⟨zq_RX6_76 X (zM_923 hw hm) (by decide) rfl, (List.forall_mem_cons.mpr ⟨zq_RX6_80 X (zM_939 hw hm) (by decide) rfl, (List.forall_mem_cons.mpr ⟨zq_RX6_234 X (zM_934 hw hm) (by decide) rfl rfl, (List.forall_mem_cons.mpr ⟨zq_RX6_267 X (zM_932 hw hm) (by decide) rfl rfl, (List.forall_mem_cons.mpr ⟨zq_RX6_276 X (zM_927 hw hm) (by decide) rfl rfl, nilz⟩)⟩)⟩)⟩)⟩)⟩)
set_option maxRecDepth 100000 in
theorem zk_1187_0 : zm1 zKS zuq zNS zm_1187 4000 zt_1187_0 = true := z1F (zdt_X6_whyNotWorn) (by decide +kernel)
set_option maxRecDepth 100000 in
theorem zk_1187_1 : zm1 zKS zuq zNS zm_1187 4000 zt_1187_1 = true := z1F (zdt_X6_whyNotWorn) (by decide +kernel)
set_option maxRecDepth 100000 in
theorem zk_1187_2 : zm1 zKS zuq zNS zm_1187 4000 zt_1187_2 = true := z1F (zdt_X6_whyNotWorn) (by decide +kernel)
set_option maxRecDepth 100000 in
theorem zk_1187_3 : zm1 zKS zuq zNS zm_1187 4000 zt_1187_3 = true := z1F (zdt_X6_whyNotWorn) (by decide +kernel)
set_option maxRecDepth 100000 in
theorem zk_1187_4 : zm1 zKS zuq zNS zm_1187 4000 zt_1187_4 = true := z1F (zdt_X6_whyNotWorn) (by decide +kernel)
set_option maxRecDepth 100000 in
theorem zk_1187_5 : zm1 zKS zuq zNS zm_1187 4000 zt_1187_5 = true := z1F (zdt_X6_whyNotWorn) (by decide +kernel)
set_option maxRecDepth 100000 in
theorem zk_1187_6 : zm1 zKS zuq zNS zm_1187 4000 zt_1187_6 = true := z1F (zdt_X6_whyNotWorn) (by decide +kernel)
set_option maxRecDepth 100000 in
theorem zk_1187_7 : zm1 zKS zuq zNS zm_1187 4000 zt_1187_7 = true := z1F (zdt_X6_whyNotWorn) (by decide +kernel)
set_option maxRecDepth 100000 in
theorem zk_1187_8 : zm1 zKS zuq zNS zm_1187 4000 zt_1187_8 = true := z1F (zdt_X6_whyNotWorn) (by decide +kernel)
set_option maxRecDepth 100000 in
theorem zk_1187_9 : zm1 zKS zuq zNS zm_1187 4000 zt_1187_9 = true := z1F (zdt_X6_whyNotWorn) (by decide +kernel)
set_option maxRecDepth 100000 in
theorem zk_1187_10 : zm1 zKS zuq zNS zm_1187 4000 zt_1187_10 = true := z1F (zdt_X6_whyNotWorn) (by decide +kernel)
set_option maxRecDepth 100000 in
theorem zk_1187_11 : zm1 zKS zuq zNS zm_1187 4000 zt_1187_11 = true := z1F (zdt_X6_whyNotWorn) (by decide +kernel)
set_option maxRecDepth 100000 in
theorem zk_1187_12 : zm1 zKS zuq zNS zm_1187 4000 zt_1187_12 = true := z1F (zdt_X6_whyNotWorn) (by decide +kernel)
set_option maxRecDepth 100000 in
theorem zk_1187_13 : zm1 zKS zuq zNS zm_1187 4000 zt_1187_13 = true := z1F (zdt_X6_whyNotWorn) (by decide +kernel)
set_option maxRecDepth 100000 in
theorem zk_1187_14 : zm1 zKS zuq zNS zm_1187 4000 zt_1187_14 = true := z1F (zdt_X6_whyNotWorn) (by decide +kernel)
set_option maxRecDepth 100000 in
theorem zk_1187_15 : zm1 zKS zuq zNS zm_1187 4000 zt_1187_15 = true := z1F (zdt_X6_whyNotWorn) (by decide +kernel)
set_option maxRecDepth 100000 in
theorem zk_1187_16 : zm1 zKS zuq zNS zm_1187 4000 zt_1187_16 = true := z1F (zdt_X6_whyNotWorn) (by decide +kernel)
set_option maxRecDepth 100000 in
theorem zk_1187_17 : zm1 zKS zuq zNS zm_1187 4000 zt_1187_17 = true := z1F (zdt_X6_whyNotWorn) (by decide +kernel)
set_option maxRecDepth 100000 in
theorem zk_1187_18 : zm1 zKS zuq zNS zm_1187 4000 zt_1187_18 = true := z1F (zdt_X6_whyNotWorn) (by decide +kernel)
set_option maxRecDepth 100000 in
theorem zk_1187_19 : zm1 zKS zuq zNS zm_1187 4000 zt_1187_19 = true := z1F (zdt_X6_whyNotWorn) (by decide +kernel)
set_option maxRecDepth 100000 in
theorem zk_1187_20 : zm1 zKS zuq zNS zm_1187 4000 zt_1187_20 = true := z1F (zdt_X6_whyNotWorn) (by decide +kernel)
set_option maxRecDepth 100000 in
theorem zk_1187_s : zm0 zKS zuq zNS zm_1187 4000 = true := z0F (zdt_X6_whyNotWorn) (by decide +kernel)
set_option maxRecDepth 100000 in
theorem zk_1187 : zmeth zKS zuq zNS zm_1187 4000 = true := zmeth_by zk_1187_s (List.forall_mem_cons.mpr ⟨zk_1187_0, (List.forall_mem_cons.mpr ⟨zk_1187_1, (List.forall_mem_cons.mpr ⟨zk_1187_2, (List.forall_mem_cons.mpr ⟨zk_1187_3, (List.forall_mem_cons.mpr ⟨zk_1187_4, (List.forall_mem_cons.mpr ⟨zk_1187_5, (List.forall_mem_cons.mpr ⟨zk_1187_6, (List.forall_mem_cons.mpr ⟨zk_1187_7, (List.forall_mem_cons.mpr ⟨zk_1187_8, (List.forall_mem_cons.mpr ⟨zk_1187_9, (List.forall_mem_cons.mpr ⟨zk_1187_10, (List.forall_mem_cons.mpr ⟨zk_1187_11, (List.forall_mem_cons.mpr ⟨zk_1187_12, (List.forall_mem_cons.mpr ⟨zk_1187_13, (List.forall_mem_cons.mpr ⟨zk_1187_14, (List.forall_mem_cons.mpr ⟨zk_1187_15, (List.forall_mem_cons.mpr ⟨zk_1187_16, (List.forall_mem_cons.mpr ⟨zk_1187_17, (List.forall_mem_cons.mpr ⟨zk_1187_18, (List.forall_mem_cons.mpr ⟨zk_1187_19, (List.forall_mem_cons.mpr ⟨zk_1187_20, nilz⟩)⟩)⟩)⟩)⟩)⟩)⟩)⟩)⟩)⟩)⟩)⟩)⟩)⟩)⟩)⟩)⟩)⟩)⟩)⟩)⟩)
set_option maxRecDepth 100000 in
theorem zM_1187 {l : Launch} {D : va_G} {cI cZ cB cJ cR : ClassId} {ks ad : List Nat} {Psi : va_W → Prop} (hw : zworld ks ad zuq zNS Psi) (hm : zMan l D cI cZ cB cJ cR ks ad Psi) : zMet l D cI cZ cB cJ cR zKS ks ad Psi yX6_whyNotWorn (.code yX6_whyNotWorn cX6_whyNotWorn 4 (some .int)) 2 zc_1187 :=
  zmet_of hw 2 (by decide) 4000 zk_1187 (by decide) (by decide) (fun X => ⟨zg_RX6 X, zp_RX6 X, zl1_RX6 X, zl2_RX6 X, nilz, (List.forall_mem_cons.mpr ⟨zq_RX6_76 X (zM_923 hw hm) (by decide) rfl, (List.forall_mem_cons.mpr ⟨zq_RX6_80 X (zM_939 hw hm) (by decide) rfl, (List.forall_mem_cons.mpr ⟨zq_RX6_234 X (zM_934 hw hm) (by decide) rfl rfl, (List.forall_mem_cons.mpr ⟨zq_RX6_267 X (zM_932 hw hm) (by decide) rfl rfl, (List.forall_mem_cons.mpr ⟨zq_RX6_276 X (zM_927 hw hm) (by decide) rfl rfl, nilz⟩)⟩)⟩)⟩)⟩)⟩)
