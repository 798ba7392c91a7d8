set_option maxRecDepth 100000 in
theorem zk_1058 : zmeth zKS zuq zNS zm_1058 4000 = true := by decide +kernel
theorem zM_1058 {l : Launch} {D : va_G} {cI cZ cB cJ cR : ClassId} {ks ad : List Nat} {Psi : va_W → Prop} (hw : zworld ks ad zuq zNS Psi) (hm : zMan l D cI cZ cB cJ cR ks ad Psi) : zMet l D cI cZ cB cJ cR zKS ks ad Psi yX6_swears (.code yX6_swears cX6_swears 2 (some .int)) 5 zc_1058 :=
  zmet_of hw 5 (by decide) 4000 zk_1058 (by decide) (by decide) (fun X => ⟨zg_RX6 X, zp_RX6 X, zl1_RX6 X, zl2_RX6 X, nilz, (List.forall_mem_cons.mpr ⟨zq_RX6_234 X (zM_865 hw hm) (by decide) rfl rfl, (List.forall_mem_cons.mpr ⟨zq_RX6_270 X (zman_952 hm) (by decide) rfl rfl, nilz⟩)⟩)⟩)
set_option maxRecDepth 100000 in
theorem zk_1059 : zmeth zKS zuq zNS zm_1059 4000 = true := by decide +kernel
theorem zM_1059 {l : Launch} {D : va_G} {cI cZ cB cJ cR : ClassId} {ks ad : List Nat} {Psi : va_W → Prop} (hw : zworld ks ad zuq zNS Psi) (hm : zMan l D cI cZ cB cJ cR ks ad Psi) : zMet l D cI cZ cB cJ cR zKS ks ad Psi yX6_sworn (.code yX6_sworn cX6_sworn 2 (some .int)) 5 zc_1059 :=
  zmet_of hw 5 (by decide) 4000 zk_1059 (by decide) (by decide) (fun X => ⟨zg_RX6 X, zp_RX6 X, zl1_RX6 X, zl2_RX6 X, nilz, (List.forall_mem_cons.mpr ⟨zq_RX6_234 X (zM_865 hw hm) (by decide) rfl rfl, (List.forall_mem_cons.mpr ⟨zq_RX6_270 X (zman_952 hm) (by decide) rfl rfl, (List.forall_mem_cons.mpr ⟨zq_RX6_273 X (zM_1060 hw hm) (by decide) rfl rfl, nilz⟩)⟩)⟩)⟩)
set_option maxRecDepth 100000 in
theorem zk_1089 : zmeth zKS zuq zNS zm_1089 4000 = true := by decide +kernel
theorem zM_1089 {l : Launch} {D : va_G} {cI cZ cB cJ cR : ClassId} {ks ad : List Nat} {Psi : va_W → Prop} (hw : zworld ks ad zuq zNS Psi) (hm : zMan l D cI cZ cB cJ cR ks ad Psi) : zMet l D cI cZ cB cJ cR zKS ks ad Psi yX6_unsworn (.code yX6_unsworn cX6_unsworn 3 (some .int)) 5 zc_1089 :=
  zmet_of hw 5 (by decide) 4000 zk_1089 (by decide) (by decide) (fun X => ⟨zg_RX6 X, zp_RX6 X, zl1_RX6 X, zl2_RX6 X, nilz, (List.forall_mem_cons.mpr ⟨zq_RX6_227 X (zM_996 hw hm) (by decide) rfl rfl, (List.forall_mem_cons.mpr ⟨zq_RX6_270 X (zman_952 hm) (by decide) rfl rfl, (List.forall_mem_cons.mpr ⟨zq_RX6_273 X (zM_1060 hw hm) (by decide) rfl rfl, (List.forall_mem_cons.mpr ⟨zq_RX6_276 X (zM_858 hw hm) (by decide) rfl rfl, nilz⟩)⟩)⟩)⟩)⟩)
set_option maxRecDepth 100000 in
theorem zk_570 : zmeth zKS zuq zNS zm_570 4000 = true := by decide +kernel
theorem zM_570 {l : Launch} {D : va_G} {cI cZ cB cJ cR : ClassId} {ks ad : List Nat} {Psi : va_W → Prop} (hw : zworld ks ad zuq zNS Psi) (hm : zMan l D cI cZ cB cJ cR ks ad Psi) : zMet l D cI cZ cB cJ cR zKS ks ad Psi yX5_best (.code yX5_best cX5_best 1 (some .int)) 6 zc_570 :=
  zmet_of hw 6 (by decide) 4000 zk_570 (by decide) (by decide) (fun X => ⟨zg_RX5 X, zp_RX5 X, zl1_RX5 X, zl2_RX5 X, nilz, (List.forall_mem_cons.mpr ⟨zq_RX5_115 X (zM_231 hw hm) (by decide) rfl rfl, (List.forall_mem_cons.mpr ⟨zq_RX5_154 X (zM_740 hw hm) (by decide) rfl rfl, nilz⟩)⟩)⟩)
set_option maxRecDepth 100000 in
theorem zk_580 : zmeth zKS zuq zNS zm_580 4000 = true := by decide +kernel
theorem zM_580 {l : Launch} {D : va_G} {cI cZ cB cJ cR : ClassId} {ks ad : List Nat} {Psi : va_W → Prop} (hw : zworld ks ad zuq zNS Psi) (hm : zMan l D cI cZ cB cJ cR ks ad Psi) : zMet l D cI cZ cB cJ cR zKS ks ad Psi yX5_clean (.code yX5_clean cX5_clean 1 (some .int)) 6 zc_580 :=
  zmet_of hw 6 (by decide) 4000 zk_580 (by decide) (by decide) (fun X => ⟨zg_RX5 X, zp_RX5 X, zl1_RX5 X, zl2_RX5 X, nilz, (List.forall_mem_cons.mpr ⟨zq_RX5_115 X (zM_231 hw hm) (by decide) rfl rfl, (List.forall_mem_cons.mpr ⟨zq_RX5_154 X (zM_740 hw hm) (by decide) rfl rfl, nilz⟩)⟩)⟩)
set_option maxRecDepth 100000 in
theorem zk_595 : zmeth zKS zuq zNS zm_595 4000 = true := by decide +kernel
theorem zM_595 {l : Launch} {D : va_G} {cI cZ cB cJ cR : ClassId} {ks ad : List Nat} {Psi : va_W → Prop} (hw : zworld ks ad zuq zNS Psi) (hm : zMan l D cI cZ cB cJ cR ks ad Psi) : zMet l D cI cZ cB cJ cR zKS ks ad Psi yX5_fair (.code yX5_fair cX5_fair 1 (some .int)) 6 zc_595 :=
  zmet_of hw 6 (by decide) 4000 zk_595 (by decide) (by decide) (fun X => ⟨zg_RX5 X, zp_RX5 X, zl1_RX5 X, zl2_RX5 X, nilz, (List.forall_mem_cons.mpr ⟨zq_RX5_115 X (zM_231 hw hm) (by decide) rfl rfl, (List.forall_mem_cons.mpr ⟨zq_RX5_154 X (zM_740 hw hm) (by decide) rfl rfl, nilz⟩)⟩)⟩)
set_option maxRecDepth 100000 in
theorem zk_733 : zmeth zKS zuq zNS zm_733 4000 = true := by decide +kernel
theorem zM_733 {l : Launch} {D : va_G} {cI cZ cB cJ cR : ClassId} {ks ad : List Nat} {Psi : va_W → Prop} (hw : zworld ks ad zuq zNS Psi) (hm : zMan l D cI cZ cB cJ cR ks ad Psi) : zMet l D cI cZ cB cJ cR zKS ks ad Psi yX5_rota (.code yX5_rota cX5_rota 2 (some .int)) 6 zc_733 :=
  zmet_of hw 6 (by decide) 4000 zk_733 (by decide) (by decide) (fun X => ⟨zg_RX5 X, zp_RX5 X, zl1_RX5 X, zl2_RX5 X, nilz, (List.forall_mem_cons.mpr ⟨zq_RX5_83 X (zM_247 hw hm) (by decide) rfl rfl, (List.forall_mem_cons.mpr ⟨zq_RX5_154 X (zM_740 hw hm) (by decide) rfl rfl, nilz⟩)⟩)⟩)
set_option maxRecDepth 100000 in
theorem zk_754 : zmeth zKS zuq zNS zm_754 4000 = true := by decide +kernel
theorem zM_754 {l : Launch} {D : va_G} {cI cZ cB cJ cR : ClassId} {ks ad : List Nat} {Psi : va_W → Prop} (hw : zworld ks ad zuq zNS Psi) (hm : zMan l D cI cZ cB cJ cR ks ad Psi) : zMet l D cI cZ cB cJ cR zKS ks ad Psi yX5_ways (.code yX5_ways cX5_ways 1 (some .int)) 6 zc_754 :=
  zmet_of hw 6 (by decide) 4000 zk_754 (by decide) (by decide) (fun X => ⟨zg_RX5 X, zp_RX5 X, zl1_RX5 X, zl2_RX5 X, nilz, (List.forall_mem_cons.mpr ⟨zq_RX5_115 X (zM_231 hw hm) (by decide) rfl rfl, (List.forall_mem_cons.mpr ⟨zq_RX5_154 X (zM_740 hw hm) (by decide) rfl rfl, nilz⟩)⟩)⟩)
set_option maxRecDepth 100000 in
theorem zk_967 : zmeth zKS zuq zNS zm_967 4000 = true := by decide +kernel
theorem zM_967 {l : Launch} {D : va_G} {cI cZ cB cJ cR : ClassId} {ks ad : List Nat} {Psi : va_W → Prop} (hw : zworld ks ad zuq zNS Psi) (hm : zMan l D cI cZ cB cJ cR ks ad Psi) : zMet l D cI cZ cB cJ cR zKS ks ad Psi yX6_line (.code yX6_line cX6_line 2 none) 6 zc_967 :=
  zmet_of hw 6 (by decide) 4000 zk_967 (by decide) (by decide) (fun X => ⟨zg_RX6 X, zp_RX6 X, zl1_RX6 X, zl2_RX6 X, nilz, (List.forall_mem_cons.mpr ⟨zq_RX6_129 X (zM_855 hw hm) (by decide) rfl rfl, (List.forall_mem_cons.mpr ⟨zq_RX6_133 X (zM_973 hw hm) (by decide) rfl rfl, (List.forall_mem_cons.mpr ⟨zq_RX6_136 X (zM_1061 hw hm) (by decide) rfl rfl, (List.forall_mem_cons.mpr ⟨zq_RX6_139 X (zM_811 hw hm) (by decide) rfl rfl, (List.forall_mem_cons.mpr ⟨zq_RX6_142 X (zM_769 hw hm) (by decide) rfl rfl, (List.forall_mem_cons.mpr ⟨zq_RX6_146 X (zM_977 hw hm) (by decide) rfl rfl, (List.forall_mem_cons.mpr ⟨zq_RX6_153 X (zM_828 hw hm) (by decide) rfl rfl, (List.forall_mem_cons.mpr ⟨zq_RX6_153 X (zM_830 hw hm) (by decide) rfl rfl, (List.forall_mem_cons.mpr ⟨zq_RX6_153 X (zM_831 hw hm) (by decide) rfl rfl, (List.forall_mem_cons.mpr ⟨zq_RX6_164 X (zM_1084 hw hm) (by decide) rfl rfl, (List.forall_mem_cons.mpr ⟨zq_RX6_170 X (zM_861 hw hm) (by decide) rfl rfl, (List.forall_mem_cons.mpr ⟨zq_RX6_178 X (zM_997 hw hm) (by decide) rfl rfl, (List.forall_mem_cons.mpr ⟨zq_RX6_183 X (zM_809 hw hm) (by decide) rfl rfl, nilz⟩)⟩)⟩)⟩)⟩)⟩)⟩)⟩)⟩)⟩)⟩)⟩)⟩)⟩)
