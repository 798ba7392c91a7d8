set_option maxRecDepth 100000 in
theorem zk_1182 : zmeth zKS zuq zNS zm_1182 4000 = true := zqF (zdt_X6_whyNotWho) (by decide +kernel)
theorem zM_1182 {l : Launch} {D : va_G} {cI cZ cB cJ cR : ClassId} {ks ad : List Nat} {Psi : va_W → Prop} (hw : zworld ks ad zuq zNS Psi) (hm : zMan l D cI cZ cB cJ cR ks ad Psi) : zMet l D cI cZ cB cJ cR zKS ks ad Psi yX6_whyNotWho (.code yX6_whyNotWho cX6_whyNotWho 3 (some .int)) 2 zc_1182 :=
  zmet_of hw 2 (by decide) 4000 zk_1182 (by decide) (by decide) (fun X => ⟨zg_RX6 X, zp_RX6 X, zl1_RX6 X, zl2_RX6 X, nilz, (List.forall_mem_cons.mpr ⟨zq_RX6_80 X (zM_939 hw hm) (by decide) rfl, nilz⟩)⟩)
set_option maxRecDepth 100000 in
theorem zk_1183 : zmeth zKS zuq zNS zm_1183 4000 = true := zqF (zdt_X6_whyNotWorn) (by decide +kernel)
theorem zM_1183 {l : Launch} {D : va_G} {cI cZ cB cJ cR : ClassId} {ks ad : List Nat} {Psi : va_W → Prop} (hw : zworld ks ad zuq zNS Psi) (hm : zMan l D cI cZ cB cJ cR ks ad Psi) : zMet l D cI cZ cB cJ cR zKS ks ad Psi yX6_whyNotWorn (.code yX6_whyNotWorn cX6_whyNotWorn 4 (some .int)) 2 zc_1183 :=
  zmet_of hw 2 (by decide) 4000 zk_1183 (by decide) (by decide) (fun X => ⟨zg_RX6 X, zp_RX6 X, zl1_RX6 X, zl2_RX6 X, nilz, (List.forall_mem_cons.mpr ⟨zq_RX6_80 X (zM_939 hw hm) (by decide) rfl, nilz⟩)⟩)
set_option maxRecDepth 100000 in
theorem zk_1184_0 : zm1 zKS zuq zNS zm_1184 4000 zt_1184_0 = true := z1F (zdt_X6_whyNotWorn) (by decide +kernel)
set_option maxRecDepth 100000 in
theorem zk_1184_1 : zm1 zKS zuq zNS zm_1184 4000 zt_1184_1 = true := z1F (zdt_X6_whyNotWorn) (by decide +kernel)
set_option maxRecDepth 100000 in
theorem zk_1184_2 : zm1 zKS zuq zNS zm_1184 4000 zt_1184_2 = true := z1F (zdt_X6_whyNotWorn) (by decide +kernel)
set_option maxRecDepth 100000 in
theorem zk_1184_3 : zm1 zKS zuq zNS zm_1184 4000 zt_1184_3 = true := z1F (zdt_X6_whyNotWorn) (by decide +kernel)
set_option maxRecDepth 100000 in
theorem zk_1184_4 : zm1 zKS zuq zNS zm_1184 4000 zt_1184_4 = true := z1F (zdt_X6_whyNotWorn) (by decide +kernel)
set_option maxRecDepth 100000 in
theorem zk_1184_5 : zm1 zKS zuq zNS zm_1184 4000 zt_1184_5 = true := z1F (zdt_X6_whyNotWorn) (by decide +kernel)
set_option maxRecDepth 100000 in
theorem zk_1184_6 : zm1 zKS zuq zNS zm_1184 4000 zt_1184_6 = true := z1F (zdt_X6_whyNotWorn) (by decide +kernel)
set_option maxRecDepth 100000 in
theorem zk_1184_7 : zm1 zKS zuq zNS zm_1184 4000 zt_1184_7 = true := z1F (zdt_X6_whyNotWorn) (by decide +kernel)
set_option maxRecDepth 100000 in
theorem zk_1184_8 : zm1 zKS zuq zNS zm_1184 4000 zt_1184_8 = true := z1F (zdt_X6_whyNotWorn) (by decide +kernel)
set_option maxRecDepth 100000 in
theorem zk_1184_9 : zm1 zKS zuq zNS zm_1184 4000 zt_1184_9 = true := z1F (zdt_X6_whyNotWorn) (by decide +kernel)
set_option maxRecDepth 100000 in
theorem zk_1184_10 : zm1 zKS zuq zNS zm_1184 4000 zt_1184_10 = true := z1F (zdt_X6_whyNotWorn) (by decide +kernel)
set_option maxRecDepth 100000 in
theorem zk_1184_11 : zm1 zKS zuq zNS zm_1184 4000 zt_1184_11 = true := z1F (zdt_X6_whyNotWorn) (by decide +kernel)
set_option maxRecDepth 100000 in
theorem zk_1184_12 : zm1 zKS zuq zNS zm_1184 4000 zt_1184_12 = true := z1F (zdt_X6_whyNotWorn) (by decide +kernel)
set_option maxRecDepth 100000 in
theorem zk_1184_13 : zm1 zKS zuq zNS zm_1184 4000 zt_1184_13 = true := z1F (zdt_X6_whyNotWorn) (by decide +kernel)
set_option maxRecDepth 100000 in
theorem zk_1184_14 : zm1 zKS zuq zNS zm_1184 4000 zt_1184_14 = true := z1F (zdt_X6_whyNotWorn) (by decide +kernel)
set_option maxRecDepth 100000 in
theorem zk_1184_15 : zm1 zKS zuq zNS zm_1184 4000 zt_1184_15 = true := z1F (zdt_X6_whyNotWorn) (by decide +kernel)
set_option maxRecDepth 100000 in
theorem zk_1184_16 : zm1 zKS zuq zNS zm_1184 4000 zt_1184_16 = true := z1F (zdt_X6_whyNotWorn) (by decide +kernel)
set_option maxRecDepth 100000 in
theorem zk_1184_17 : zm1 zKS zuq zNS zm_1184 4000 zt_1184_17 = true := z1F (zdt_X6_whyNotWorn) (by decide +kernel)
set_option maxRecDepth 100000 in
theorem zk_1184_18 : zm1 zKS zuq zNS zm_1184 4000 zt_1184_18 = true := z1F (zdt_X6_whyNotWorn) (by decide +kernel)
set_option maxRecDepth 100000 in
theorem zk_1184_19 : zm1 zKS zuq zNS zm_1184 4000 zt_1184_19 = true := z1F (zdt_X6_whyNotWorn) (by decide +kernel)
set_option maxRecDepth 100000 in
theorem zk_1184_20 : zm1 zKS zuq zNS zm_1184 4000 zt_1184_20 = true := z1F (zdt_X6_whyNotWorn) (by decide +kernel)
set_option maxRecDepth 100000 in
theorem zk_1184_s : zm0 zKS zuq zNS zm_1184 4000 = true := z0F (zdt_X6_whyNotWorn) (by decide +kernel)
set_option maxRecDepth 100000 in
theorem zk_1184 : zmeth zKS zuq zNS zm_1184 4000 = true := zmeth_by zk_1184_s (List.forall_mem_cons.mpr ⟨zk_1184_0, (List.forall_mem_cons.mpr ⟨zk_1184_1, (List.forall_mem_cons.mpr ⟨zk_1184_2, (List.forall_mem_cons.mpr ⟨zk_1184_3, (List.forall_mem_cons.mpr ⟨zk_1184_4, (List.forall_mem_cons.mpr ⟨zk_1184_5, (List.forall_mem_cons.mpr ⟨zk_1184_6, (List.forall_mem_cons.mpr ⟨zk_1184_7, (List.forall_mem_cons.mpr ⟨zk_1184_8, (List.forall_mem_cons.mpr ⟨zk_1184_9, (List.forall_mem_cons.mpr ⟨zk_1184_10, (List.forall_mem_cons.mpr ⟨zk_1184_11, (List.forall_mem_cons.mpr ⟨zk_1184_12, (List.forall_mem_cons.mpr ⟨zk_1184_13, (List.forall_mem_cons.mpr ⟨zk_1184_14, (List.forall_mem_cons.mpr ⟨zk_1184_15, (List.forall_mem_cons.mpr ⟨zk_1184_16, (List.forall_mem_cons.mpr ⟨zk_1184_17, (List.forall_mem_cons.mpr ⟨zk_1184_18, (List.forall_mem_cons.mpr ⟨zk_1184_19, (List.forall_mem_cons.mpr ⟨zk_1184_20, nilz⟩)⟩)⟩)⟩)⟩)⟩)⟩)⟩)⟩)⟩)⟩)⟩)⟩)⟩)⟩)⟩)⟩)⟩)⟩)⟩)⟩)
set_option maxRecDepth 100000 in
theorem zM_1184 {l : Launch} {D : va_G} {cI cZ cB cJ cR : ClassId} {ks ad : List Nat} {Psi : va_W → Prop} (hw : zworld ks ad zuq zNS Psi) (hm : zMan l D cI cZ cB cJ cR ks ad Psi) : zMet l D cI cZ cB cJ cR zKS ks ad Psi yX6_whyNotWorn (.code yX6_whyNotWorn cX6_whyNotWorn 4 (some .int)) 2 zc_1184 :=
  zmet_of hw 2 (by decide) 4000 zk_1184 (by decide) (by decide) (fun X => ⟨zg_RX6 X, zp_RX6 X, zl1_RX6 X, zl2_RX6 X, nilz, (List.forall_mem_cons.mpr ⟨zq_RX6_76 X (zM_923 hw hm) (by decide) rfl, (List.forall_mem_cons.mpr ⟨zq_RX6_80 X (zM_939 hw hm) (by decide) rfl, (List.forall_mem_cons.mpr ⟨zq_RX6_234 X (zM_934 hw hm) (by decide) rfl rfl, (List.forall_mem_cons.mpr ⟨zq_RX6_267 X (zM_932 hw hm) (by decide) rfl rfl, (List.forall_mem_cons.mpr ⟨zq_RX6_276 X (zM_927 hw hm) (by decide) rfl rfl, nilz⟩)⟩)⟩)⟩)⟩)⟩)
