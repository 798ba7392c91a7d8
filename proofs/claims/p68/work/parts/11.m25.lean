set_option maxRecDepth 100000 in
theorem zk_650 : zmeth zKS zuq zNS zm_650 4000 = true := zqF (zdt0 _) (by decide +kernel)
theorem zM_650 {l : Launch} {D : va_G} {cI cZ cB cJ cR : ClassId} {ks ad : List Nat} {Psi : va_W → Prop} (hw : zworld ks ad zuq zNS Psi) (hm : zMan l D cI cZ cB cJ cR ks ad Psi) : zMet l D cI cZ cB cJ cR zKS ks ad Psi yX5_dark (.code yX5_dark cX5_dark 4 (some .int)) 3 zc_650 :=
  zmet_of hw 3 (by decide) 4000 zk_650 (by decide) (by decide) (fun X => ⟨zg_RX5 X, zp_RX5 X, zl1_RX5 X, zl2_RX5 X, nilz, (List.forall_mem_cons.mpr ⟨zq_RX5_87 X (zM_301 hw hm) (by decide) rfl rfl, (List.forall_mem_cons.mpr ⟨zq_RX5_189 X (zM_326 hw hm) (by decide) rfl rfl, (List.forall_mem_cons.mpr ⟨zq_RX5_192 X (zM_313 hw hm) (by decide) rfl rfl, nilz⟩)⟩)⟩)⟩)
set_option maxRecDepth 100000 in
theorem zk_651 : zmeth zKS zuq zNS zm_651 4000 = true := zqF (zdt0 _) (by decide +kernel)
theorem zM_651 {l : Launch} {D : va_G} {cI cZ cB cJ cR : ClassId} {ks ad : List Nat} {Psi : va_W → Prop} (hw : zworld ks ad zuq zNS Psi) (hm : zMan l D cI cZ cB cJ cR ks ad Psi) : zMet l D cI cZ cB cJ cR zKS ks ad Psi yX5_deeds (.code yX5_deeds cX5_deeds 3 (some .int)) 3 zc_651 :=
  zmet_of hw 3 (by decide) 4000 zk_651 (by decide) (by decide) (fun X => ⟨zg_RX5 X, zp_RX5 X, zl1_RX5 X, zl2_RX5 X, nilz, (List.forall_mem_cons.mpr ⟨zq_RX5_83 X (zM_303 hw hm) (by decide) rfl rfl, (List.forall_mem_cons.mpr ⟨zq_RX5_109 X (zM_292 hw hm) (by decide) rfl rfl, (List.forall_mem_cons.mpr ⟨zq_RX5_186 X (zM_304 hw hm) (by decide) rfl rfl, (List.forall_mem_cons.mpr ⟨zq_RX5_217 X (zM_311 hw hm) (by decide) rfl rfl, nilz⟩)⟩)⟩)⟩)⟩)
set_option maxRecDepth 100000 in
theorem zk_654 : zmeth zKS zuq zNS zm_654 4000 = true := zqF (zdt0 _) (by decide +kernel)
theorem zM_654 {l : Launch} {D : va_G} {cI cZ cB cJ cR : ClassId} {ks ad : List Nat} {Psi : va_W → Prop} (hw : zworld ks ad zuq zNS Psi) (hm : zMan l D cI cZ cB cJ cR ks ad Psi) : zMet l D cI cZ cB cJ cR zKS ks ad Psi yX5_envy (.code yX5_envy cX5_envy 4 (some .int)) 3 zc_654 :=
  zmet_of hw 3 (by decide) 4000 zk_654 (by decide) (by decide) (fun X => ⟨zg_RX5 X, zp_RX5 X, zl1_RX5 X, zl2_RX5 X, nilz, (List.forall_mem_cons.mpr ⟨zq_RX5_115 X (zM_287 hw hm) (by decide) rfl rfl, (List.forall_mem_cons.mpr ⟨zq_RX5_176 X (zM_286 hw hm) (by decide) rfl rfl, nilz⟩)⟩)⟩)
set_option maxRecDepth 100000 in
theorem zk_659 : zmeth zKS zuq zNS zm_659 4000 = true := zqF (zdt0 _) (by decide +kernel)
theorem zM_659 {l : Launch} {D : va_G} {cI cZ cB cJ cR : ClassId} {ks ad : List Nat} {Psi : va_W → Prop} (hw : zworld ks ad zuq zNS Psi) (hm : zMan l D cI cZ cB cJ cR ks ad Psi) : zMet l D cI cZ cB cJ cR zKS ks ad Psi yX5_extra (.code yX5_extra cX5_extra 6 (some .int)) 3 zc_659 :=
  zmet_of hw 3 (by decide) 4000 zk_659 (by decide) (by decide) (fun X => ⟨zg_RX5 X, zp_RX5 X, zl1_RX5 X, zl2_RX5 X, nilz, (List.forall_mem_cons.mpr ⟨zq_RX5_109 X (zM_292 hw hm) (by decide) rfl rfl, (List.forall_mem_cons.mpr ⟨zq_RX5_115 X (zM_287 hw hm) (by decide) rfl rfl, (List.forall_mem_cons.mpr ⟨zq_RX5_149 X (zM_0 hw hm) (by decide) rfl, (List.forall_mem_cons.mpr ⟨zq_RX5_201 X (zM_316 hw hm) (by decide) rfl rfl, nilz⟩)⟩)⟩)⟩)⟩)
set_option maxRecDepth 100000 in
theorem zk_666 : zmeth zKS zuq zNS zm_666 4000 = true := zqF (zdt0 _) (by decide +kernel)
theorem zM_666 {l : Launch} {D : va_G} {cI cZ cB cJ cR : ClassId} {ks ad : List Nat} {Psi : va_W → Prop} (hw : zworld ks ad zuq zNS Psi) (hm : zMan l D cI cZ cB cJ cR ks ad Psi) : zMet l D cI cZ cB cJ cR zKS ks ad Psi yX5_gaps (.code yX5_gaps cX5_gaps 2 (some .int)) 3 zc_666 :=
  zmet_of hw 3 (by decide) 4000 zk_666 (by decide) (by decide) (fun X => ⟨zg_RX5 X, zp_RX5 X, zl1_RX5 X, zl2_RX5 X, nilz, (List.forall_mem_cons.mpr ⟨zq_RX5_83 X (zM_303 hw hm) (by decide) rfl rfl, (List.forall_mem_cons.mpr ⟨zq_RX5_109 X (zM_292 hw hm) (by decide) rfl rfl, nilz⟩)⟩)⟩)
set_option maxRecDepth 100000 in
theorem zk_667 : zmeth zKS zuq zNS zm_667 4000 = true := zqF (zdt0 _) (by decide +kernel)
theorem zM_667 {l : Launch} {D : va_G} {cI cZ cB cJ cR : ClassId} {ks ad : List Nat} {Psi : va_W → Prop} (hw : zworld ks ad zuq zNS Psi) (hm : zMan l D cI cZ cB cJ cR ks ad Psi) : zMet l D cI cZ cB cJ cR zKS ks ad Psi yX5_guard (.code yX5_guard cX5_guard 6 (some .int)) 3 zc_667 :=
  zmet_of hw 3 (by decide) 4000 zk_667 (by decide) (by decide) (fun X => ⟨zg_RX5 X, zp_RX5 X, zl1_RX5 X, zl2_RX5 X, nilz, (List.forall_mem_cons.mpr ⟨zq_RX5_83 X (zM_303 hw hm) (by decide) rfl rfl, (List.forall_mem_cons.mpr ⟨zq_RX5_109 X (zM_292 hw hm) (by decide) rfl rfl, (List.forall_mem_cons.mpr ⟨zq_RX5_186 X (zM_304 hw hm) (by decide) rfl rfl, (List.forall_mem_cons.mpr ⟨zq_RX5_201 X (zM_316 hw hm) (by decide) rfl rfl, (List.forall_mem_cons.mpr ⟨zq_RX5_217 X (zM_311 hw hm) (by decide) rfl rfl, nilz⟩)⟩)⟩)⟩)⟩)⟩)
set_option maxRecDepth 100000 in
theorem zk_672 : zmeth zKS zuq zNS zm_672 4000 = true := zqF (zdt0 _) (by decide +kernel)
theorem zM_672 {l : Launch} {D : va_G} {cI cZ cB cJ cR : ClassId} {ks ad : List Nat} {Psi : va_W → Prop} (hw : zworld ks ad zuq zNS Psi) (hm : zMan l D cI cZ cB cJ cR ks ad Psi) : zMet l D cI cZ cB cJ cR zKS ks ad Psi yX5_image (.code yX5_image cX5_image 2 (some .int)) 3 zc_672 :=
  zmet_of hw 3 (by decide) 4000 zk_672 (by decide) (by decide) (fun X => ⟨zg_RX5 X, zp_RX5 X, zl1_RX5 X, zl2_RX5 X, nilz, (List.forall_mem_cons.mpr ⟨zq_RX5_317 X (zman_284 hm) (by decide) rfl rfl, nilz⟩)⟩)
set_option maxRecDepth 100000 in
theorem zk_755 : zmeth zKS zuq zNS zm_755 4000 = true := zqF (zdt0 _) (by decide +kernel)
theorem zM_755 {l : Launch} {D : va_G} {cI cZ cB cJ cR : ClassId} {ks ad : List Nat} {Psi : va_W → Prop} (hw : zworld ks ad zuq zNS Psi) (hm : zMan l D cI cZ cB cJ cR ks ad Psi) : zMet l D cI cZ cB cJ cR zKS ks ad Psi yX5_leftAtWorst (.code yX5_leftAtWorst cX5_leftAtWorst 6 (some .int)) 3 zc_755 :=
  zmet_of hw 3 (by decide) 4000 zk_755 (by decide) (by decide) (fun X => ⟨zg_RX5 X, zp_RX5 X, zl1_RX5 X, zl2_RX5 X, nilz, (List.forall_mem_cons.mpr ⟨zq_RX5_98 X (zM_300 hw hm) (by decide) rfl rfl, (List.forall_mem_cons.mpr ⟨zq_max X (by decide) lm_26_1 lm_13_10 lm_11_7 lm_13_11 (by decide) (by decide), (List.forall_mem_cons.mpr ⟨zq_RX5_149 X (zM_0 hw hm) (by decide) rfl, nilz⟩)⟩)⟩)⟩)
