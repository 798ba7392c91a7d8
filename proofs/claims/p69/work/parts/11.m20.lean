set_option maxRecDepth 100000 in
theorem zk_1130 : zmeth zKS zuq zNS zm_1130 4000 = true := zqF (zdt0 _) (by decide +kernel)
theorem zM_1130 {l : Launch} {D : va_G} {cI cZ cB cJ cR : ClassId} {ks ad : List Nat} {Psi : va_W → Prop} (hw : zworld ks ad zuq zNS Psi) (hm : zMan l D cI cZ cB cJ cR ks ad Psi) : zMet l D cI cZ cB cJ cR zKS ks ad Psi yX6_takes (.code yX6_takes cX6_takes 3 (some .boolean)) 2 zc_1130 :=
  zmet_of hw 2 (by decide) 4000 zk_1130 (by decide) (by decide) (fun X => ⟨zg_RX6 X, zp_RX6 X, zl1_RX6 X, zl2_RX6 X, nilz, (List.forall_mem_cons.mpr ⟨zq_RX6_129 X (zM_924 hw hm) (by decide) rfl rfl, (List.forall_mem_cons.mpr ⟨zq_RX6_133 X (zM_1042 hw hm) (by decide) rfl rfl, nilz⟩)⟩)⟩)
set_option maxRecDepth 100000 in
theorem zk_1171 : zmeth zKS zuq zNS zm_1171 4000 = true := zqF (zdt_X6_whyNotOaths) (by decide +kernel)
theorem zM_1171 {l : Launch} {D : va_G} {cI cZ cB cJ cR : ClassId} {ks ad : List Nat} {Psi : va_W → Prop} (hw : zworld ks ad zuq zNS Psi) (hm : zMan l D cI cZ cB cJ cR ks ad Psi) : zMet l D cI cZ cB cJ cR zKS ks ad Psi yX6_whyNotOaths (.code yX6_whyNotOaths cX6_whyNotOaths 4 (some .int)) 2 zc_1171 :=
  zmet_of hw 2 (by decide) 4000 zk_1171 (by decide) (by decide) (fun X => ⟨zg_RX6 X, zp_RX6 X, zl1_RX6 X, zl2_RX6 X, nilz, (List.forall_mem_cons.mpr ⟨zq_RX6_80 X (zM_939 hw hm) (by decide) rfl, nilz⟩)⟩)
set_option maxRecDepth 100000 in
theorem zk_1176 : zmeth zKS zuq zNS zm_1176 4000 = true := zqF (zdt_X6_whyNotOaths) (by decide +kernel)
theorem zM_1176 {l : Launch} {D : va_G} {cI cZ cB cJ cR : ClassId} {ks ad : List Nat} {Psi : va_W → Prop} (hw : zworld ks ad zuq zNS Psi) (hm : zMan l D cI cZ cB cJ cR ks ad Psi) : zMet l D cI cZ cB cJ cR zKS ks ad Psi yX6_whyNotOaths (.code yX6_whyNotOaths cX6_whyNotOaths 4 (some .int)) 2 zc_1176 :=
  zmet_of hw 2 (by decide) 4000 zk_1176 (by decide) (by decide) (fun X => ⟨zg_RX6 X, zp_RX6 X, zl1_RX6 X, zl2_RX6 X, nilz, (List.forall_mem_cons.mpr ⟨zq_RX6_80 X (zM_939 hw hm) (by decide) rfl, nilz⟩)⟩)
set_option maxRecDepth 100000 in
theorem zk_1177 : zmeth zKS zuq zNS zm_1177 4000 = true := zqF (zdt_X6_whyNotWho) (by decide +kernel)
theorem zM_1177 {l : Launch} {D : va_G} {cI cZ cB cJ cR : ClassId} {ks ad : List Nat} {Psi : va_W → Prop} (hw : zworld ks ad zuq zNS Psi) (hm : zMan l D cI cZ cB cJ cR ks ad Psi) : zMet l D cI cZ cB cJ cR zKS ks ad Psi yX6_whyNotWho (.code yX6_whyNotWho cX6_whyNotWho 3 (some .int)) 2 zc_1177 :=
  zmet_of hw 2 (by decide) 4000 zk_1177 (by decide) (by decide) (fun X => ⟨zg_RX6 X, zp_RX6 X, zl1_RX6 X, zl2_RX6 X, nilz, (List.forall_mem_cons.mpr ⟨zq_RX6_80 X (zM_939 hw hm) (by decide) rfl, nilz⟩)⟩)
