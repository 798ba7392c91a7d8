set_option maxRecDepth 100000 in
theorem zk_1164 : zmeth zKS zuq zNS zm_1164 4000 = true := by decide +kernel
theorem zM_1164 {l : Launch} {D : va_G} {cI cZ cB cJ cR : ClassId} {ks ad : List Nat} {Psi : va_W → Prop} (hw : zworld ks ad zuq zNS Psi) (hm : zMan l D cI cZ cB cJ cR ks ad Psi) : zMet l D cI cZ cB cJ cR zKS ks ad Psi yX6_whoOf (.code yX6_whoOf cX6_whoOf 6 (some .int)) 6 zc_1164 :=
  zmet_of hw 6 (by decide) 4000 zk_1164 (by decide) (by decide) (fun X => ⟨zg_RX6 X, zp_RX6 X, zl1_RX6 X, zl2_RX6 X, nilz, (List.forall_mem_cons.mpr ⟨zq_RX6_227 X (zM_1061 hw hm) (by decide) rfl rfl, (List.forall_mem_cons.mpr ⟨zq_RX6_340 X (zM_842 hw hm) (by decide) rfl rfl, nilz⟩)⟩)⟩)
set_option maxRecDepth 100000 in
theorem zk_1165 : zmeth zKS zuq zNS zm_1165 4000 = true := by decide +kernel
theorem zM_1165 {l : Launch} {D : va_G} {cI cZ cB cJ cR : ClassId} {ks ad : List Nat} {Psi : va_W → Prop} (hw : zworld ks ad zuq zNS Psi) (hm : zMan l D cI cZ cB cJ cR ks ad Psi) : zMet l D cI cZ cB cJ cR zKS ks ad Psi yX6_whoOf (.code yX6_whoOf cX6_whoOf 6 (some .int)) 6 zc_1165 :=
  zmet_of hw 6 (by decide) 4000 zk_1165 (by decide) (by decide) (fun X => ⟨zg_RX6 X, zp_RX6 X, zl1_RX6 X, zl2_RX6 X, nilz, (List.forall_mem_cons.mpr ⟨zq_RX6_227 X (zM_1061 hw hm) (by decide) rfl rfl, (List.forall_mem_cons.mpr ⟨zq_RX6_340 X (zM_842 hw hm) (by decide) rfl rfl, nilz⟩)⟩)⟩)
