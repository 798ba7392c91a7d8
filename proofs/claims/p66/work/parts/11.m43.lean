set_option maxRecDepth 100000 in
theorem zk_868 : zmeth zKS zuq zNS zm_868 4000 = true := by decide +kernel
set_option maxRecDepth 100000 in
theorem zM_868 {l : Launch} {D : va_G} {cI cZ cB cJ cR : ClassId} {ks ad : List Nat} {Psi : va_W → Prop} (hw : zworld ks ad zuq zNS Psi) (hm : zMan l D cI cZ cB cJ cR ks ad Psi) : zMet l D cI cZ cB cJ cR zKS ks ad Psi yX6_deedsOf (.code yX6_deedsOf cX6_deedsOf 5 (some .int)) 6 zc_868 :=
  zmet_of hw 6 (by decide) 4000 zk_868 (by decide) (by decide) (fun X => ⟨zg_RX6 X, zp_RX6 X, zl1_RX6 X, zl2_RX6 X, nilz, (List.forall_mem_cons.mpr ⟨zq_RX6_231 X (zM_898 hw hm) (by decide) rfl rfl, (List.forall_mem_cons.mpr ⟨zq_RX6_340 X (zM_842 hw hm) (by decide) rfl rfl, nilz⟩)⟩)⟩)
set_option maxRecDepth 100000 in
theorem zk_869 : zmeth zKS zuq zNS zm_869 4000 = true := by decide +kernel
set_option maxRecDepth 100000 in
theorem zM_869 {l : Launch} {D : va_G} {cI cZ cB cJ cR : ClassId} {ks ad : List Nat} {Psi : va_W → Prop} (hw : zworld ks ad zuq zNS Psi) (hm : zMan l D cI cZ cB cJ cR ks ad Psi) : zMet l D cI cZ cB cJ cR zKS ks ad Psi yX6_drawn (.code yX6_drawn cX6_drawn 6 (some .int)) 6 zc_869 :=
  zmet_of hw 6 (by decide) 4000 zk_869 (by decide) (by decide) (fun X => ⟨zg_RX6 X, zp_RX6 X, zl1_RX6 X, zl2_RX6 X, nilz, (List.forall_mem_cons.mpr ⟨zq_RX6_76 X (zM_904 hw hm) (by decide) rfl, (List.forall_mem_cons.mpr ⟨zq_RX6_227 X (zM_1061 hw hm) (by decide) rfl rfl, (List.forall_mem_cons.mpr ⟨zq_RX6_270 X (zman_1017 hm) (by decide) rfl rfl, (List.forall_mem_cons.mpr ⟨zq_RX6_400 X (zM_932 hw hm) (by decide) rfl rfl, (List.forall_mem_cons.mpr ⟨zq_RX6_405 X (zM_870 hw hm) (by decide) rfl rfl, (List.forall_mem_cons.mpr ⟨zq_RX6_409 X (zM_887 hw hm) (by decide) rfl rfl, nilz⟩)⟩)⟩)⟩)⟩)⟩)⟩)
set_option maxRecDepth 100000 in
theorem zk_875 : zmeth zKS zuq zNS zm_875 4000 = true := by decide +kernel
set_option maxRecDepth 100000 in
theorem zM_875 {l : Launch} {D : va_G} {cI cZ cB cJ cR : ClassId} {ks ad : List Nat} {Psi : va_W → Prop} (hw : zworld ks ad zuq zNS Psi) (hm : zMan l D cI cZ cB cJ cR ks ad Psi) : zMet l D cI cZ cB cJ cR zKS ks ad Psi yX6_extra (.code yX6_extra cX6_extra 6 (some .int)) 6 zc_875 :=
  zmet_of hw 6 (by decide) 4000 zk_875 (by decide) (by decide) (fun X => ⟨zg_RX6 X, zp_RX6 X, zl1_RX6 X, zl2_RX6 X, nilz, (List.forall_mem_cons.mpr ⟨zq_RX6_227 X (zM_1061 hw hm) (by decide) rfl rfl, (List.forall_mem_cons.mpr ⟨zq_RX6_261 X (zM_888 hw hm) (by decide) rfl rfl, (List.forall_mem_cons.mpr ⟨zq_RX6_264 X (zman_1119 hm) (by decide) rfl, (List.forall_mem_cons.mpr ⟨zq_RX6_270 X (zman_1017 hm) (by decide) rfl rfl, (List.forall_mem_cons.mpr ⟨zq_RX6_276 X (zM_923 hw hm) (by decide) rfl rfl, (List.forall_mem_cons.mpr ⟨zq_RX6_328 X (zM_1115 hw hm) (by decide) rfl rfl, nilz⟩)⟩)⟩)⟩)⟩)⟩)⟩)
set_option maxRecDepth 100000 in
theorem zk_881 : zmeth zKS zuq zNS zm_881 4000 = true := by decide +kernel
set_option maxRecDepth 100000 in
theorem zM_881 {l : Launch} {D : va_G} {cI cZ cB cJ cR : ClassId} {ks ad : List Nat} {Psi : va_W → Prop} (hw : zworld ks ad zuq zNS Psi) (hm : zMan l D cI cZ cB cJ cR ks ad Psi) : zMet l D cI cZ cB cJ cR zKS ks ad Psi yX6_fine (.code yX6_fine cX6_fine 2 (some .int)) 6 zc_881 :=
  zmet_of hw 6 (by decide) 4000 zk_881 (by decide) (by decide) (fun X => ⟨zg_RX6 X, zp_RX6 X, zl1_RX6 X, zl2_RX6 X, nilz, (List.forall_mem_cons.mpr ⟨zq_RX6_234 X (zM_930 hw hm) (by decide) rfl rfl, (List.forall_mem_cons.mpr ⟨zq_RX6_270 X (zman_1017 hm) (by decide) rfl rfl, (List.forall_mem_cons.mpr ⟨zq_RX6_282 X (zM_882 hw hm) (by decide) rfl rfl, nilz⟩)⟩)⟩)⟩)
set_option maxRecDepth 100000 in
theorem zk_886 : zmeth zKS zuq zNS zm_886 4000 = true := by decide +kernel
set_option maxRecDepth 100000 in
theorem zM_886 {l : Launch} {D : va_G} {cI cZ cB cJ cR : ClassId} {ks ad : List Nat} {Psi : va_W → Prop} (hw : zworld ks ad zuq zNS Psi) (hm : zMan l D cI cZ cB cJ cR ks ad Psi) : zMet l D cI cZ cB cJ cR zKS ks ad Psi yX6_gaps (.code yX6_gaps cX6_gaps 2 (some .int)) 6 zc_886 :=
  zmet_of hw 6 (by decide) 4000 zk_886 (by decide) (by decide) (fun X => ⟨zg_RX6 X, zp_RX6 X, zl1_RX6 X, zl2_RX6 X, nilz, (List.forall_mem_cons.mpr ⟨zq_RX6_234 X (zM_930 hw hm) (by decide) rfl rfl, (List.forall_mem_cons.mpr ⟨zq_RX6_261 X (zM_888 hw hm) (by decide) rfl rfl, (List.forall_mem_cons.mpr ⟨zq_RX6_270 X (zman_1017 hm) (by decide) rfl rfl, nilz⟩)⟩)⟩)⟩)
set_option maxRecDepth 100000 in
theorem zk_891 : zmeth zKS zuq zNS zm_891 4000 = true := by decide +kernel
set_option maxRecDepth 100000 in
theorem zM_891 {l : Launch} {D : va_G} {cI cZ cB cJ cR : ClassId} {ks ad : List Nat} {Psi : va_W → Prop} (hw : zworld ks ad zuq zNS Psi) (hm : zMan l D cI cZ cB cJ cR ks ad Psi) : zMet l D cI cZ cB cJ cR zKS ks ad Psi yX6_guardedOf (.code yX6_guardedOf cX6_guardedOf 7 (some .int)) 6 zc_891 :=
  zmet_of hw 6 (by decide) 4000 zk_891 (by decide) (by decide) (fun X => ⟨zg_RX6 X, zp_RX6 X, zl1_RX6 X, zl2_RX6 X, nilz, (List.forall_mem_cons.mpr ⟨zq_RX6_227 X (zM_1061 hw hm) (by decide) rfl rfl, (List.forall_mem_cons.mpr ⟨zq_RX6_240 X (zM_921 hw hm) (by decide) rfl, (List.forall_mem_cons.mpr ⟨zq_RX6_261 X (zM_888 hw hm) (by decide) rfl rfl, (List.forall_mem_cons.mpr ⟨zq_RX6_264 X (zman_1119 hm) (by decide) rfl, (List.forall_mem_cons.mpr ⟨zq_RX6_270 X (zman_1017 hm) (by decide) rfl rfl, (List.forall_mem_cons.mpr ⟨zq_RX6_328 X (zM_1115 hw hm) (by decide) rfl rfl, nilz⟩)⟩)⟩)⟩)⟩)⟩)⟩)
set_option maxRecDepth 100000 in
theorem zk_1016 : zmeth zKS zuq zNS zm_1016 4000 = true := by decide +kernel
set_option maxRecDepth 100000 in
theorem zM_1016 {l : Launch} {D : va_G} {cI cZ cB cJ cR : ClassId} {ks ad : List Nat} {Psi : va_W → Prop} (hw : zworld ks ad zuq zNS Psi) (hm : zMan l D cI cZ cB cJ cR ks ad Psi) : zMet l D cI cZ cB cJ cR zKS ks ad Psi yX6_law (.code yX6_law cX6_law 6 (some .int)) 6 zc_1016 :=
  zmet_of hw 6 (by decide) 4000 zk_1016 (by decide) (by decide) (fun X => ⟨zg_RX6 X, zp_RX6 X, zl1_RX6 X, zl2_RX6 X, nilz, (List.forall_mem_cons.mpr ⟨zq_RX6_76 X (zM_911 hw hm) (by decide) rfl, (List.forall_mem_cons.mpr ⟨zq_RX6_227 X (zM_1061 hw hm) (by decide) rfl rfl, (List.forall_mem_cons.mpr ⟨zq_RX6_231 X (zM_898 hw hm) (by decide) rfl rfl, (List.forall_mem_cons.mpr ⟨zq_RX6_261 X (zM_888 hw hm) (by decide) rfl rfl, (List.forall_mem_cons.mpr ⟨zq_RX6_264 X (zman_1119 hm) (by decide) rfl, (List.forall_mem_cons.mpr ⟨zq_RX6_267 X (zM_928 hw hm) (by decide) rfl rfl, (List.forall_mem_cons.mpr ⟨zq_RX6_270 X (zman_1017 hm) (by decide) rfl rfl, nilz⟩)⟩)⟩)⟩)⟩)⟩)⟩)⟩)
