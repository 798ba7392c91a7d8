set_option maxRecDepth 100000 in
theorem zk_1126 : zmeth zKS zuq zNS zm_1126 4000 = true := zqF (zdt0 _) (by decide +kernel)
theorem zM_1126 {l : Launch} {D : va_G} {cI cZ cB cJ cR : ClassId} {ks ad : List Nat} {Psi : va_W → Prop} (hw : zworld ks ad zuq zNS Psi) (hm : zMan l D cI cZ cB cJ cR ks ad Psi) : zMet l D cI cZ cB cJ cR zKS ks ad Psi yX6_takes (.code yX6_takes cX6_takes 3 (some .boolean)) 2 zc_1126 :=
  zmet_of hw 2 (by decide) 4000 zk_1126 (by decide) (by decide) (fun X => ⟨zg_RX6 X, zp_RX6 X, zl1_RX6 X, zl2_RX6 X, nilz, (List.forall_mem_cons.mpr ⟨zq_RX6_129 X (zM_920 hw hm) (by decide) rfl rfl, (List.forall_mem_cons.mpr ⟨zq_RX6_133 X (zM_1038 hw hm) (by decide) rfl rfl, nilz⟩)⟩)⟩)
set_option maxRecDepth 100000 in
theorem zk_1167 : zmeth zKS zuq zNS zm_1167 4000 = true := zqF (zdt_X6_whyNotOaths) (by decide +kernel)
theorem zM_1167 {l : Launch} {D : va_G} {cI cZ cB cJ cR : ClassId} {ks ad : List Nat} {Psi : va_W → Prop} (hw : zworld ks ad zuq zNS Psi) (hm : zMan l D cI cZ cB cJ cR ks ad Psi) : zMet l D cI cZ cB cJ cR zKS ks ad Psi yX6_whyNotOaths (.code yX6_whyNotOaths cX6_whyNotOaths 4 (some .int)) 2 zc_1167 :=
  zmet_of hw 2 (by decide) 4000 zk_1167 (by decide) (by decide) (fun X => ⟨zg_RX6 X, zp_RX6 X, zl1_RX6 X, zl2_RX6 X, nilz, (List.forall_mem_cons.mpr ⟨zq_RX6_80 X (zM_935 hw hm) (by decide) rfl, nilz⟩)⟩)
set_option maxRecDepth 100000 in
theorem zk_1172 : zmeth zKS zuq zNS zm_1172 4000 = true := zqF (zdt_X6_whyNotOaths) (by decide +kernel)
theorem zM_1172 {l : Launch} {D : va_G} {cI cZ cB cJ cR : ClassId} {ks ad : List Nat} {Psi : va_W → Prop} (hw : zworld ks ad zuq zNS Psi) (hm : zMan l D cI cZ cB cJ cR ks ad Psi) : zMet l D cI cZ cB cJ cR zKS ks ad Psi yX6_whyNotOaths (.code yX6_whyNotOaths cX6_whyNotOaths 4 (some .int)) 2 zc_1172 :=
  zmet_of hw 2 (by decide) 4000 zk_1172 (by decide) (by decide) (fun X => ⟨zg_RX6 X, zp_RX6 X, zl1_RX6 X, zl2_RX6 X, nilz, (List.forall_mem_cons.mpr ⟨zq_RX6_80 X (zM_935 hw hm) (by decide) rfl, nilz⟩)⟩)
set_option maxRecDepth 100000 in
theorem zk_1173 : zmeth zKS zuq zNS zm_1173 4000 = true := zqF (zdt_X6_whyNotWho) (by decide +kernel)
theorem zM_1173 {l : Launch} {D : va_G} {cI cZ cB cJ cR : ClassId} {ks ad : List Nat} {Psi : va_W → Prop} (hw : zworld ks ad zuq zNS Psi) (hm : zMan l D cI cZ cB cJ cR ks ad Psi) : zMet l D cI cZ cB cJ cR zKS ks ad Psi yX6_whyNotWho (.code yX6_whyNotWho cX6_whyNotWho 3 (some .int)) 2 zc_1173 :=
  zmet_of hw 2 (by decide) 4000 zk_1173 (by decide) (by decide) (fun X => ⟨zg_RX6 X, zp_RX6 X, zl1_RX6 X, zl2_RX6 X, nilz, (List.forall_mem_cons.mpr ⟨zq_RX6_80 X (zM_935 hw hm) (by decide) rfl, nilz⟩)⟩)
