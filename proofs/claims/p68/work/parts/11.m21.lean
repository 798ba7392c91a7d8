set_option maxRecDepth 100000 in
theorem zk_1178 : zmeth zKS zuq zNS zm_1178 4000 = true := zqF (zdt_X6_whyNotWho) (by decide +kernel)
theorem zM_1178 {l : Launch} {D : va_G} {cI cZ cB cJ cR : ClassId} {ks ad : List Nat} {Psi : va_W → Prop} (hw : zworld ks ad zuq zNS Psi) (hm : zMan l D cI cZ cB cJ cR ks ad Psi) : zMet l D cI cZ cB cJ cR zKS ks ad Psi yX6_whyNotWho (.code yX6_whyNotWho cX6_whyNotWho 3 (some .int)) 2 zc_1178 :=
  zmet_of hw 2 (by decide) 4000 zk_1178 (by decide) (by decide) (fun X => ⟨zg_RX6 X, zp_RX6 X, zl1_RX6 X, zl2_RX6 X, nilz, (List.forall_mem_cons.mpr ⟨zq_RX6_80 X (zM_935 hw hm) (by decide) rfl, nilz⟩)⟩)
set_option maxRecDepth 100000 in
theorem zk_1179 : zmeth zKS zuq zNS zm_1179 4000 = true := zqF (zdt_X6_whyNotWorn) (by decide +kernel)
theorem zM_1179 {l : Launch} {D : va_G} {cI cZ cB cJ cR : ClassId} {ks ad : List Nat} {Psi : va_W → Prop} (hw : zworld ks ad zuq zNS Psi) (hm : zMan l D cI cZ cB cJ cR ks ad Psi) : zMet l D cI cZ cB cJ cR zKS ks ad Psi yX6_whyNotWorn (.code yX6_whyNotWorn cX6_whyNotWorn 4 (some .int)) 2 zc_1179 :=
  zmet_of hw 2 (by decide) 4000 zk_1179 (by decide) (by decide) (fun X => ⟨zg_RX6 X, zp_RX6 X, zl1_RX6 X, zl2_RX6 X, nilz, (List.forall_mem_cons.mpr ⟨zq_RX6_80 X (zM_935 hw hm) (by decide) rfl, nilz⟩)⟩)
set_option maxRecDepth 100000 in
theorem zk_1180_0 : zm1 zKS zuq zNS zm_1180 4000 zt_1180_0 = true := z1F (zdt_X6_whyNotWorn) (by decide +kernel)
set_option maxRecDepth 100000 in
theorem zk_1180_1 : zm1 zKS zuq zNS zm_1180 4000 zt_1180_1 = true := z1F (zdt_X6_whyNotWorn) (by decide +kernel)
set_option maxRecDepth 100000 in
theorem zk_1180_2 : zm1 zKS zuq zNS zm_1180 4000 zt_1180_2 = true := z1F (zdt_X6_whyNotWorn) (by decide +kernel)
set_option maxRecDepth 100000 in
theorem zk_1180_3 : zm1 zKS zuq zNS zm_1180 4000 zt_1180_3 = true := z1F (zdt_X6_whyNotWorn) (by decide +kernel)
set_option maxRecDepth 100000 in
theorem zk_1180_4 : zm1 zKS zuq zNS zm_1180 4000 zt_1180_4 = true := z1F (zdt_X6_whyNotWorn) (by decide +kernel)
set_option maxRecDepth 100000 in
theorem zk_1180_5 : zm1 zKS zuq zNS zm_1180 4000 zt_1180_5 = true := z1F (zdt_X6_whyNotWorn) (by decide +kernel)
set_option maxRecDepth 100000 in
theorem zk_1180_6 : zm1 zKS zuq zNS zm_1180 4000 zt_1180_6 = true := z1F (zdt_X6_whyNotWorn) (by decide +kernel)
set_option maxRecDepth 100000 in
theorem zk_1180_7 : zm1 zKS zuq zNS zm_1180 4000 zt_1180_7 = true := z1F (zdt_X6_whyNotWorn) (by decide +kernel)
set_option maxRecDepth 100000 in
theorem zk_1180_8 : zm1 zKS zuq zNS zm_1180 4000 zt_1180_8 = true := z1F (zdt_X6_whyNotWorn) (by decide +kernel)
set_option maxRecDepth 100000 in
theorem zk_1180_9 : zm1 zKS zuq zNS zm_1180 4000 zt_1180_9 = true := z1F (zdt_X6_whyNotWorn) (by decide +kernel)
set_option maxRecDepth 100000 in
theorem zk_1180_10 : zm1 zKS zuq zNS zm_1180 4000 zt_1180_10 = true := z1F (zdt_X6_whyNotWorn) (by decide +kernel)
set_option maxRecDepth 100000 in
theorem zk_1180_11 : zm1 zKS zuq zNS zm_1180 4000 zt_1180_11 = true := z1F (zdt_X6_whyNotWorn) (by decide +kernel)
set_option maxRecDepth 100000 in
theorem zk_1180_12 : zm1 zKS zuq zNS zm_1180 4000 zt_1180_12 = true := z1F (zdt_X6_whyNotWorn) (by decide +kernel)
set_option maxRecDepth 100000 in
theorem zk_1180_13 : zm1 zKS zuq zNS zm_1180 4000 zt_1180_13 = true := z1F (zdt_X6_whyNotWorn) (by decide +kernel)
set_option maxRecDepth 100000 in
theorem zk_1180_14 : zm1 zKS zuq zNS zm_1180 4000 zt_1180_14 = true := z1F (zdt_X6_whyNotWorn) (by decide +kernel)
set_option maxRecDepth 100000 in
theorem zk_1180_15 : zm1 zKS zuq zNS zm_1180 4000 zt_1180_15 = true := z1F (zdt_X6_whyNotWorn) (by decide +kernel)
set_option maxRecDepth 100000 in
theorem zk_1180_16 : zm1 zKS zuq zNS zm_1180 4000 zt_1180_16 = true := z1F (zdt_X6_whyNotWorn) (by decide +kernel)
set_option maxRecDepth 100000 in
theorem zk_1180_17 : zm1 zKS zuq zNS zm_1180 4000 zt_1180_17 = true := z1F (zdt_X6_whyNotWorn) (by decide +kernel)
set_option maxRecDepth 100000 in
theorem zk_1180_18 : zm1 zKS zuq zNS zm_1180 4000 zt_1180_18 = true := z1F (zdt_X6_whyNotWorn) (by decide +kernel)
set_option maxRecDepth 100000 in
theorem zk_1180_19 : zm1 zKS zuq zNS zm_1180 4000 zt_1180_19 = true := z1F (zdt_X6_whyNotWorn) (by decide +kernel)
set_option maxRecDepth 100000 in
theorem zk_1180_20 : zm1 zKS zuq zNS zm_1180 4000 zt_1180_20 = true := z1F (zdt_X6_whyNotWorn) (by decide +kernel)
set_option maxRecDepth 100000 in
theorem zk_1180_s : zm0 zKS zuq zNS zm_1180 4000 = true := z0F (zdt_X6_whyNotWorn) (by decide +kernel)
set_option maxRecDepth 100000 in
theorem zk_1180 : zmeth zKS zuq zNS zm_1180 4000 = true := zmeth_by zk_1180_s (List.forall_mem_cons.mpr ⟨zk_1180_0, (List.forall_mem_cons.mpr ⟨zk_1180_1, (List.forall_mem_cons.mpr ⟨zk_1180_2, (List.forall_mem_cons.mpr ⟨zk_1180_3, (List.forall_mem_cons.mpr ⟨zk_1180_4, (List.forall_mem_cons.mpr ⟨zk_1180_5, (List.forall_mem_cons.mpr ⟨zk_1180_6, (List.forall_mem_cons.mpr ⟨zk_1180_7, (List.forall_mem_cons.mpr ⟨zk_1180_8, (List.forall_mem_cons.mpr ⟨zk_1180_9, (List.forall_mem_cons.mpr ⟨zk_1180_10, (List.forall_mem_cons.mpr ⟨zk_1180_11, (List.forall_mem_cons.mpr ⟨zk_1180_12, (List.forall_mem_cons.mpr ⟨zk_1180_13, (List.forall_mem_cons.mpr ⟨zk_1180_14, (List.forall_mem_cons.mpr ⟨zk_1180_15, (List.forall_mem_cons.mpr ⟨zk_1180_16, (List.forall_mem_cons.mpr ⟨zk_1180_17, (List.forall_mem_cons.mpr ⟨zk_1180_18, (List.forall_mem_cons.mpr ⟨zk_1180_19, (List.forall_mem_cons.mpr ⟨zk_1180_20, nilz⟩)⟩)⟩)⟩)⟩)⟩)⟩)⟩)⟩)⟩)⟩)⟩)⟩)⟩)⟩)⟩)⟩)⟩)⟩)⟩)⟩)
set_option maxRecDepth 100000 in
theorem zM_1180 {l : Launch} {D : va_G} {cI cZ cB cJ cR : ClassId} {ks ad : List Nat} {Psi : va_W → Prop} (hw : zworld ks ad zuq zNS Psi) (hm : zMan l D cI cZ cB cJ cR ks ad Psi) : zMet l D cI cZ cB cJ cR zKS ks ad Psi yX6_whyNotWorn (.code yX6_whyNotWorn cX6_whyNotWorn 4 (some .int)) 2 zc_1180 :=
  zmet_of hw 2 (by decide) 4000 zk_1180 (by decide) (by decide) (fun X => ⟨zg_RX6 X, zp_RX6 X, zl1_RX6 X, zl2_RX6 X, nilz, (List.forall_mem_cons.mpr ⟨zq_RX6_76 X (zM_919 hw hm) (by decide) rfl, (List.forall_mem_cons.mpr ⟨zq_RX6_80 X (zM_935 hw hm) (by decide) rfl, (List.forall_mem_cons.mpr ⟨zq_RX6_234 X (zM_930 hw hm) (by decide) rfl rfl, (List.forall_mem_cons.mpr ⟨zq_RX6_267 X (zM_928 hw hm) (by decide) rfl rfl, (List.forall_mem_cons.mpr ⟨zq_RX6_276 X (zM_923 hw hm) (by decide) rfl rfl, nilz⟩)⟩)⟩)⟩)⟩)⟩)
