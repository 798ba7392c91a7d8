set_option maxRecDepth 100000 in
theorem zk_1067 : zmeth zKS zuq zNS zm_1067 4000 = true := by decide +kernel
theorem zM_1067 {l : Launch} {D : va_G} {cI cZ cB cJ cR : ClassId} {ks ad : List Nat} {Psi : va_W → Prop} (hw : zworld ks ad zuq zNS Psi) (hm : zMan l D cI cZ cB cJ cR ks ad Psi) : zMet l D cI cZ cB cJ cR zKS ks ad Psi yX6_rota (.code yX6_rota cX6_rota 2 (some .int)) 17 zc_1067 :=
  zmet_of hw 17 (by decide) 4000 zk_1067 (by decide) (by decide) (fun X => ⟨zg_RX6 X, zp_RX6 X, zl1_RX6 X, zl2_RX6 X, nilz, (List.forall_mem_cons.mpr ⟨zq_RX6_234 X (zM_930 hw hm) (by decide) rfl rfl, (List.forall_mem_cons.mpr ⟨zq_RX6_310 X (zM_1023 hw hm) (by decide) rfl rfl, nilz⟩)⟩)⟩)
set_option maxRecDepth 100000 in
theorem zk_1161 : zmeth zKS zuq zNS zm_1161 4000 = true := by decide +kernel
theorem zM_1161 {l : Launch} {D : va_G} {cI cZ cB cJ cR : ClassId} {ks ad : List Nat} {Psi : va_W → Prop} (hw : zworld ks ad zuq zNS Psi) (hm : zMan l D cI cZ cB cJ cR ks ad Psi) : zMet l D cI cZ cB cJ cR zKS ks ad Psi yX6_ways (.code yX6_ways cX6_ways 1 (some .int)) 17 zc_1161 :=
  zmet_of hw 17 (by decide) 4000 zk_1161 (by decide) (by decide) (fun X => ⟨zg_RX6 X, zp_RX6 X, zl1_RX6 X, zl2_RX6 X, nilz, (List.forall_mem_cons.mpr ⟨zq_RX6_276 X (zM_923 hw hm) (by decide) rfl rfl, (List.forall_mem_cons.mpr ⟨zq_RX6_310 X (zM_1023 hw hm) (by decide) rfl rfl, nilz⟩)⟩)⟩)
set_option maxRecDepth 100000 in
theorem zk_844 : zmeth zKS zuq zNS zm_844 4000 = true := by decide +kernel
theorem zM_844 {l : Launch} {D : va_G} {cI cZ cB cJ cR : ClassId} {ks ad : List Nat} {Psi : va_W → Prop} (hw : zworld ks ad zuq zNS Psi) (hm : zMan l D cI cZ cB cJ cR ks ad Psi) : zMet l D cI cZ cB cJ cR zKS ks ad Psi yX6_chance (.code yX6_chance cX6_chance 8 (some .long)) 91 zc_844 :=
  zmet_of hw 91 (by decide) 4000 zk_844 (by decide) (by decide) (fun X => ⟨zg_RX6 X, zp_RX6 X, zl1_RX6 X, zl2_RX6 X, nilz, (List.forall_mem_cons.mpr ⟨zq_RX6_231 X (zM_898 hw hm) (by decide) rfl rfl, (List.forall_mem_cons.mpr ⟨zq_RX6_234 X (zM_930 hw hm) (by decide) rfl rfl, (List.forall_mem_cons.mpr ⟨zq_RX6_270 X (zman_1017 hm) (by decide) rfl rfl, (List.forall_mem_cons.mpr ⟨zq_RX6_376 X (zman_851 hm) (by decide) rfl, (List.forall_mem_cons.mpr ⟨zq_RX6_380 X (zM_927 hw hm) (by decide) rfl, (List.forall_mem_cons.mpr ⟨zq_RX6_385 X (zM_885 hw hm) (by decide) rfl rfl, nilz⟩)⟩)⟩)⟩)⟩)⟩)⟩)
