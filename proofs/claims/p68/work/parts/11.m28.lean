set_option maxRecDepth 100000 in
theorem zk_758 : zmeth zKS zuq zNS zm_758 4000 = true := zqF (zdt0 _) (by decide +kernel)
theorem zM_758 {l : Launch} {D : va_G} {cI cZ cB cJ cR : ClassId} {ks ad : List Nat} {Psi : va_W → Prop} (hw : zworld ks ad zuq zNS Psi) (hm : zMan l D cI cZ cB cJ cR ks ad Psi) : zMet l D cI cZ cB cJ cR zKS ks ad Psi yX5_likely (.code yX5_likely cX5_likely 8 (some .int)) 3 zc_758 :=
  zmet_of hw 3 (by decide) 4000 zk_758 (by decide) (by decide) (fun X => ⟨zg_RX5 X, zp_RX5 X, zl1_RX5 X, zl2_RX5 X, nilz, (List.forall_mem_cons.mpr ⟨zq_RX5_83 X (zM_303 hw hm) (by decide) rfl rfl, (List.forall_mem_cons.mpr ⟨zq_RX5_109 X (zM_292 hw hm) (by decide) rfl rfl, (List.forall_mem_cons.mpr ⟨zq_RX5_125 X (zM_298 hw hm) (by decide) rfl rfl, (List.forall_mem_cons.mpr ⟨zq_RX5_273 X (zM_290 hw hm) (by decide) rfl rfl, (List.forall_mem_cons.mpr ⟨zq_RX5_276 X (zM_665 hw hm) (by decide) rfl rfl, nilz⟩)⟩)⟩)⟩)⟩)⟩)
set_option maxRecDepth 100000 in
theorem zk_759 : zmeth zKS zuq zNS zm_759 4000 = true := zqF (zdt0 _) (by decide +kernel)
theorem zM_759 {l : Launch} {D : va_G} {cI cZ cB cJ cR : ClassId} {ks ad : List Nat} {Psi : va_W → Prop} (hw : zworld ks ad zuq zNS Psi) (hm : zMan l D cI cZ cB cJ cR ks ad Psi) : zMet l D cI cZ cB cJ cR zKS ks ad Psi yX5_longest (.code yX5_longest cX5_longest 6 (some .int)) 3 zc_759 :=
  zmet_of hw 3 (by decide) 4000 zk_759 (by decide) (by decide) (fun X => ⟨zg_RX5 X, zp_RX5 X, zl1_RX5 X, zl2_RX5 X, nilz, (List.forall_mem_cons.mpr ⟨zq_RX5_83 X (zM_303 hw hm) (by decide) rfl rfl, (List.forall_mem_cons.mpr ⟨zq_RX5_109 X (zM_292 hw hm) (by decide) rfl rfl, (List.forall_mem_cons.mpr ⟨zq_RX5_125 X (zM_298 hw hm) (by decide) rfl rfl, (List.forall_mem_cons.mpr ⟨zq_RX5_128 X (zM_670 hw hm) (by decide) rfl, (List.forall_mem_cons.mpr ⟨zq_max X (by decide) lm_26_1 lm_13_10 lm_11_7 lm_13_11 (by decide) (by decide), (List.forall_mem_cons.mpr ⟨zq_max X (by decide) lm_26_1 lm_13_10 lm_11_7 lm_13_11 (by decide) (by decide), nilz⟩)⟩)⟩)⟩)⟩)⟩)⟩)
set_option maxRecDepth 100000 in
theorem zk_760 : zmeth zKS zuq zNS zm_760 4000 = true := zqF (zdt0 _) (by decide +kernel)
theorem zM_760 {l : Launch} {D : va_G} {cI cZ cB cJ cR : ClassId} {ks ad : List Nat} {Psi : va_W → Prop} (hw : zworld ks ad zuq zNS Psi) (hm : zMan l D cI cZ cB cJ cR ks ad Psi) : zMet l D cI cZ cB cJ cR zKS ks ad Psi yX5_lookAnew (.code yX5_lookAnew cX5_lookAnew 1 none) 3 zc_760 :=
  zmet_of hw 3 (by decide) 4000 zk_760 (by decide) (by decide) (fun X => ⟨zg_RX5 X, zp_RX5 X, zl1_RX5 X, zl2_RX5 X, nilz, (List.forall_mem_cons.mpr ⟨zq_RX5_345 X (zM_308 hw hm) (by decide) rfl rfl, nilz⟩)⟩)
set_option maxRecDepth 100000 in
theorem zk_796 : zmeth zKS zuq zNS zm_796 4000 = true := zqF (zdt0 _) (by decide +kernel)
theorem zM_796 {l : Launch} {D : va_G} {cI cZ cB cJ cR : ClassId} {ks ad : List Nat} {Psi : va_W → Prop} (hw : zworld ks ad zuq zNS Psi) (hm : zMan l D cI cZ cB cJ cR ks ad Psi) : zMet l D cI cZ cB cJ cR zKS ks ad Psi yX5_ring (.code yX5_ring cX5_ring 2 (some .int)) 3 zc_796 :=
  zmet_of hw 3 (by decide) 4000 zk_796 (by decide) (by decide) (fun X => ⟨zg_RX5 X, zp_RX5 X, zl1_RX5 X, zl2_RX5 X, nilz, (List.forall_mem_cons.mpr ⟨zq_RX5_83 X (zM_303 hw hm) (by decide) rfl rfl, (List.forall_mem_cons.mpr ⟨zq_RX5_143 X (zM_315 hw hm) (by decide) rfl rfl, nilz⟩)⟩)⟩)
set_option maxRecDepth 100000 in
theorem zk_797 : zmeth zKS zuq zNS zm_797 4000 = true := zqF (zdt0 _) (by decide +kernel)
theorem zM_797 {l : Launch} {D : va_G} {cI cZ cB cJ cR : ClassId} {ks ad : List Nat} {Psi : va_W → Prop} (hw : zworld ks ad zuq zNS Psi) (hm : zMan l D cI cZ cB cJ cR ks ad Psi) : zMet l D cI cZ cB cJ cR zKS ks ad Psi yX5_rings (.code yX5_rings cX5_rings 4 (some .int)) 3 zc_797 :=
  zmet_of hw 3 (by decide) 4000 zk_797 (by decide) (by decide) (fun X => ⟨zg_RX5 X, zp_RX5 X, zl1_RX5 X, zl2_RX5 X, nilz, (List.forall_mem_cons.mpr ⟨zq_RX5_115 X (zM_287 hw hm) (by decide) rfl rfl, (List.forall_mem_cons.mpr ⟨zq_RX5_143 X (zM_315 hw hm) (by decide) rfl rfl, nilz⟩)⟩)⟩)
set_option maxRecDepth 100000 in
theorem zk_802 : zmeth zKS zuq zNS zm_802 4000 = true := zqF (zdt0 _) (by decide +kernel)
theorem zM_802 {l : Launch} {D : va_G} {cI cZ cB cJ cR : ClassId} {ks ad : List Nat} {Psi : va_W → Prop} (hw : zworld ks ad zuq zNS Psi) (hm : zMan l D cI cZ cB cJ cR ks ad Psi) : zMet l D cI cZ cB cJ cR zKS ks ad Psi yX5_sight (.code yX5_sight cX5_sight 3 (some .int)) 3 zc_802 :=
  zmet_of hw 3 (by decide) 4000 zk_802 (by decide) (by decide) (fun X => ⟨zg_RX5 X, zp_RX5 X, zl1_RX5 X, zl2_RX5 X, nilz, (List.forall_mem_cons.mpr ⟨zq_RX5_83 X (zM_303 hw hm) (by decide) rfl rfl, (List.forall_mem_cons.mpr ⟨zq_RX5_87 X (zM_301 hw hm) (by decide) rfl rfl, (List.forall_mem_cons.mpr ⟨zq_RX5_98 X (zM_300 hw hm) (by decide) rfl rfl, nilz⟩)⟩)⟩)⟩)
set_option maxRecDepth 100000 in
theorem zk_803 : zmeth zKS zuq zNS zm_803 4000 = true := zqF (zdt0 _) (by decide +kernel)
theorem zM_803 {l : Launch} {D : va_G} {cI cZ cB cJ cR : ClassId} {ks ad : List Nat} {Psi : va_W → Prop} (hw : zworld ks ad zuq zNS Psi) (hm : zMan l D cI cZ cB cJ cR ks ad Psi) : zMet l D cI cZ cB cJ cR zKS ks ad Psi yX5_steps (.code yX5_steps cX5_steps 3 (some .int)) 3 zc_803 :=
  zmet_of hw 3 (by decide) 4000 zk_803 (by decide) (by decide) (fun X => ⟨zg_RX5 X, zp_RX5 X, zl1_RX5 X, zl2_RX5 X, nilz, (List.forall_mem_cons.mpr ⟨zq_RX5_179 X (zM_302 hw hm) (by decide) rfl rfl, (List.forall_mem_cons.mpr ⟨zq_RX5_204 X (zM_332 hw hm) (by decide) rfl rfl, (List.forall_mem_cons.mpr ⟨zq_RX5_214 X (zM_327 hw hm) (by decide) rfl rfl, nilz⟩)⟩)⟩)⟩)
set_option maxRecDepth 100000 in
theorem zk_814 : zmeth zKS zuq zNS zm_814 4000 = true := zqF (zdt0 _) (by decide +kernel)
theorem zM_814 {l : Launch} {D : va_G} {cI cZ cB cJ cR : ClassId} {ks ad : List Nat} {Psi : va_W → Prop} (hw : zworld ks ad zuq zNS Psi) (hm : zMan l D cI cZ cB cJ cR ks ad Psi) : zMet l D cI cZ cB cJ cR zKS ks ad Psi yX5_tied (.code yX5_tied cX5_tied 3 (some .int)) 3 zc_814 :=
  zmet_of hw 3 (by decide) 4000 zk_814 (by decide) (by decide) (fun X => ⟨zg_RX5 X, zp_RX5 X, zl1_RX5 X, zl2_RX5 X, nilz, (List.forall_mem_cons.mpr ⟨zq_RX5_179 X (zM_302 hw hm) (by decide) rfl rfl, (List.forall_mem_cons.mpr ⟨zq_RX5_204 X (zM_332 hw hm) (by decide) rfl rfl, (List.forall_mem_cons.mpr ⟨zq_RX5_208 X (zM_331 hw hm) (by decide) rfl rfl, nilz⟩)⟩)⟩)⟩)
set_option maxRecDepth 100000 in
theorem zk_815 : zmeth zKS zuq zNS zm_815 4000 = true := zqF (zdt0 _) (by decide +kernel)
theorem zM_815 {l : Launch} {D : va_G} {cI cZ cB cJ cR : ClassId} {ks ad : List Nat} {Psi : va_W → Prop} (hw : zworld ks ad zuq zNS Psi) (hm : zMan l D cI cZ cB cJ cR ks ad Psi) : zMet l D cI cZ cB cJ cR zKS ks ad Psi yX5_ties (.code yX5_ties cX5_ties 4 (some .int)) 3 zc_815 :=
  zmet_of hw 3 (by decide) 4000 zk_815 (by decide) (by decide) (fun X => ⟨zg_RX5 X, zp_RX5 X, zl1_RX5 X, zl2_RX5 X, nilz, (List.forall_mem_cons.mpr ⟨zq_RX5_87 X (zM_301 hw hm) (by decide) rfl rfl, (List.forall_mem_cons.mpr ⟨zq_RX5_179 X (zM_302 hw hm) (by decide) rfl rfl, (List.forall_mem_cons.mpr ⟨zq_RX5_204 X (zM_332 hw hm) (by decide) rfl rfl, (List.forall_mem_cons.mpr ⟨zq_RX5_211 X (zM_328 hw hm) (by decide) rfl rfl, nilz⟩)⟩)⟩)⟩)⟩)
set_option maxRecDepth 100000 in
theorem zk_821 : zmeth zKS zuq zNS zm_821 4000 = true := zqF (zdt0 _) (by decide +kernel)
theorem zM_821 {l : Launch} {D : va_G} {cI cZ cB cJ cR : ClassId} {ks ad : List Nat} {Psi : va_W → Prop} (hw : zworld ks ad zuq zNS Psi) (hm : zMan l D cI cZ cB cJ cR ks ad Psi) : zMet l D cI cZ cB cJ cR zKS ks ad Psi yX5_witness (.code yX5_witness cX5_witness 3 (some .int)) 3 zc_821 :=
  zmet_of hw 3 (by decide) 4000 zk_821 (by decide) (by decide) (fun X => ⟨zg_RX5 X, zp_RX5 X, zl1_RX5 X, zl2_RX5 X, nilz, (List.forall_mem_cons.mpr ⟨zq_RX5_87 X (zM_301 hw hm) (by decide) rfl rfl, (List.forall_mem_cons.mpr ⟨zq_RX5_186 X (zM_304 hw hm) (by decide) rfl rfl, (List.forall_mem_cons.mpr ⟨zq_RX5_189 X (zM_326 hw hm) (by decide) rfl rfl, nilz⟩)⟩)⟩)⟩)
set_option maxRecDepth 100000 in
theorem zk_834 : zmeth zKS zuq zNS zm_834 4000 = true := zqF (zdt0 _) (by decide +kernel)
theorem zM_834 {l : Launch} {D : va_G} {cI cZ cB cJ cR : ClassId} {ks ad : List Nat} {Psi : va_W → Prop} (hw : zworld ks ad zuq zNS Psi) (hm : zMan l D cI cZ cB cJ cR ks ad Psi) : zMet l D cI cZ cB cJ cR zKS ks ad Psi yX6_asks (.code yX6_asks cX6_asks 3 none) 3 zc_834 :=
  zmet_of hw 3 (by decide) 4000 zk_834 (by decide) (by decide) (fun X => ⟨zg_RX6 X, zp_RX6 X, zl1_RX6 X, zl2_RX6 X, nilz, (List.forall_mem_cons.mpr ⟨zq_RX6_136 X (zM_1126 hw hm) (by decide) rfl rfl, (List.forall_mem_cons.mpr ⟨zq_RX6_139 X (zM_876 hw hm) (by decide) rfl rfl, nilz⟩)⟩)⟩)
set_option maxRecDepth 100000 in
theorem zk_852 : zmeth zKS zuq zNS zm_852 4000 = true := zqF (zdt0 _) (by decide +kernel)
theorem zM_852 {l : Launch} {D : va_G} {cI cZ cB cJ cR : ClassId} {ks ad : List Nat} {Psi : va_W → Prop} (hw : zworld ks ad zuq zNS Psi) (hm : zMan l D cI cZ cB cJ cR ks ad Psi) : zMet l D cI cZ cB cJ cR zKS ks ad Psi yX6_copyCity (.code yX6_copyCity cX6_copyCity 3 none) 3 zc_852 :=
  zmet_of hw 3 (by decide) 4000 zk_852 (by decide) (by decide) (fun X => ⟨zg_RX6 X, zp_RX6 X, zl1_RX6 X, zl2_RX6 X, nilz, (List.forall_mem_cons.mpr ⟨zq_RX6_223 X (zman_853 hm) (by decide) rfl, (List.forall_mem_cons.mpr ⟨zq_RX6_223 X (zman_855 hm) (by decide) rfl, (List.forall_mem_cons.mpr ⟨zq_RX6_223 X (zman_857 hm) (by decide) rfl, (List.forall_mem_cons.mpr ⟨zq_RX6_223 X (zman_859 hm) (by decide) rfl, (List.forall_mem_cons.mpr ⟨zq_RX6_223 X (zman_861 hm) (by decide) rfl, nilz⟩)⟩)⟩)⟩)⟩)⟩)
set_option maxRecDepth 100000 in
theorem zk_934 : zmeth zKS zuq zNS zm_934 4000 = true := zqF (zdt0 _) (by decide +kernel)
theorem zM_934 {l : Launch} {D : va_G} {cI cZ cB cJ cR : ClassId} {ks ad : List Nat} {Psi : va_W → Prop} (hw : zworld ks ad zuq zNS Psi) (hm : zMan l D cI cZ cB cJ cR ks ad Psi) : zMet l D cI cZ cB cJ cR zKS ks ad Psi yX6_isSeenBy (.code yX6_isSeenBy cX6_isSeenBy 5 (some .boolean)) 3 zc_934 :=
  zmet_of hw 3 (by decide) 4000 zk_934 (by decide) (by decide) (fun X => ⟨zg_RX6 X, zp_RX6 X, zl1_RX6 X, zl2_RX6 X, nilz, (List.forall_mem_cons.mpr ⟨zq_RX6_244 X (zM_1063 hw hm) (by decide) rfl rfl, (List.forall_mem_cons.mpr ⟨zq_RX6_250 X (zM_933 hw hm) (by decide) rfl rfl, nilz⟩)⟩)⟩)
set_option maxRecDepth 100000 in
theorem zk_936 : zmeth zKS zuq zNS zm_936 4000 = true := zqF (zdt_X6_isTrue) (by decide +kernel)
theorem zM_936 {l : Launch} {D : va_G} {cI cZ cB cJ cR : ClassId} {ks ad : List Nat} {Psi : va_W → Prop} (hw : zworld ks ad zuq zNS Psi) (hm : zMan l D cI cZ cB cJ cR ks ad Psi) : zMet l D cI cZ cB cJ cR zKS ks ad Psi yX6_isTrue (.code yX6_isTrue cX6_isTrue 4 (some .boolean)) 3 zc_936 :=
  zmet_of hw 3 (by decide) 4000 zk_936 (by decide) (by decide) (fun X => ⟨zg_RX6 X, zp_RX6 X, zl1_RX6 X, zl2_RX6 X, nilz, (List.forall_mem_cons.mpr ⟨zq_RX6_250 X (zM_933 hw hm) (by decide) rfl rfl, nilz⟩)⟩)
set_option maxRecDepth 100000 in
theorem zk_937 : zmeth zKS zuq zNS zm_937 4000 = true := zqF (zdt_X6_isTrue) (by decide +kernel)
theorem zM_937 {l : Launch} {D : va_G} {cI cZ cB cJ cR : ClassId} {ks ad : List Nat} {Psi : va_W → Prop} (hw : zworld ks ad zuq zNS Psi) (hm : zMan l D cI cZ cB cJ cR ks ad Psi) : zMet l D cI cZ cB cJ cR zKS ks ad Psi yX6_isTrue (.code yX6_isTrue cX6_isTrue 4 (some .boolean)) 3 zc_937 :=
  zmet_of hw 3 (by decide) 4000 zk_937 (by decide) (by decide) (fun X => ⟨zg_RX6 X, zp_RX6 X, zl1_RX6 X, zl2_RX6 X, nilz, (List.forall_mem_cons.mpr ⟨zq_RX6_250 X (zM_933 hw hm) (by decide) rfl rfl, nilz⟩)⟩)
set_option maxRecDepth 100000 in
theorem zk_938 : zmeth zKS zuq zNS zm_938 4000 = true := zqF (zdt_X6_isTrue) (by decide +kernel)
theorem zM_938 {l : Launch} {D : va_G} {cI cZ cB cJ cR : ClassId} {ks ad : List Nat} {Psi : va_W → Prop} (hw : zworld ks ad zuq zNS Psi) (hm : zMan l D cI cZ cB cJ cR ks ad Psi) : zMet l D cI cZ cB cJ cR zKS ks ad Psi yX6_isTrue (.code yX6_isTrue cX6_isTrue 4 (some .boolean)) 3 zc_938 :=
  zmet_of hw 3 (by decide) 4000 zk_938 (by decide) (by decide) (fun X => ⟨zg_RX6 X, zp_RX6 X, zl1_RX6 X, zl2_RX6 X, nilz, (List.forall_mem_cons.mpr ⟨zq_RX6_250 X (zM_933 hw hm) (by decide) rfl rfl, nilz⟩)⟩)
set_option maxRecDepth 100000 in
theorem zk_939 : zmeth zKS zuq zNS zm_939 4000 = true := zqF (zdt_X6_isTrue) (by decide +kernel)
theorem zM_939 {l : Launch} {D : va_G} {cI cZ cB cJ cR : ClassId} {ks ad : List Nat} {Psi : va_W → Prop} (hw : zworld ks ad zuq zNS Psi) (hm : zMan l D cI cZ cB cJ cR ks ad Psi) : zMet l D cI cZ cB cJ cR zKS ks ad Psi yX6_isTrue (.code yX6_isTrue cX6_isTrue 4 (some .boolean)) 3 zc_939 :=
  zmet_of hw 3 (by decide) 4000 zk_939 (by decide) (by decide) (fun X => ⟨zg_RX6 X, zp_RX6 X, zl1_RX6 X, zl2_RX6 X, nilz, (List.forall_mem_cons.mpr ⟨zq_RX6_250 X (zM_933 hw hm) (by decide) rfl rfl, nilz⟩)⟩)
set_option maxRecDepth 100000 in
theorem zk_940 : zmeth zKS zuq zNS zm_940 4000 = true := zqF (zdt_X6_isTrue) (by decide +kernel)
theorem zM_940 {l : Launch} {D : va_G} {cI cZ cB cJ cR : ClassId} {ks ad : List Nat} {Psi : va_W → Prop} (hw : zworld ks ad zuq zNS Psi) (hm : zMan l D cI cZ cB cJ cR ks ad Psi) : zMet l D cI cZ cB cJ cR zKS ks ad Psi yX6_isTrue (.code yX6_isTrue cX6_isTrue 4 (some .boolean)) 3 zc_940 :=
  zmet_of hw 3 (by decide) 4000 zk_940 (by decide) (by decide) (fun X => ⟨zg_RX6 X, zp_RX6 X, zl1_RX6 X, zl2_RX6 X, nilz, (List.forall_mem_cons.mpr ⟨zq_RX6_250 X (zM_933 hw hm) (by decide) rfl rfl, nilz⟩)⟩)
set_option maxRecDepth 100000 in
theorem zk_941 : zmeth zKS zuq zNS zm_941 4000 = true := zqF (zdt_X6_isTrue) (by decide +kernel)
theorem zM_941 {l : Launch} {D : va_G} {cI cZ cB cJ cR : ClassId} {ks ad : List Nat} {Psi : va_W → Prop} (hw : zworld ks ad zuq zNS Psi) (hm : zMan l D cI cZ cB cJ cR ks ad Psi) : zMet l D cI cZ cB cJ cR zKS ks ad Psi yX6_isTrue (.code yX6_isTrue cX6_isTrue 4 (some .boolean)) 3 zc_941 :=
  zmet_of hw 3 (by decide) 4000 zk_941 (by decide) (by decide) (fun X => ⟨zg_RX6 X, zp_RX6 X, zl1_RX6 X, zl2_RX6 X, nilz, (List.forall_mem_cons.mpr ⟨zq_RX6_250 X (zM_933 hw hm) (by decide) rfl rfl, nilz⟩)⟩)
set_option maxRecDepth 100000 in
theorem zk_942 : zmeth zKS zuq zNS zm_942 4000 = true := zqF (zdt_X6_isTrue) (by decide +kernel)
theorem zM_942 {l : Launch} {D : va_G} {cI cZ cB cJ cR : ClassId} {ks ad : List Nat} {Psi : va_W → Prop} (hw : zworld ks ad zuq zNS Psi) (hm : zMan l D cI cZ cB cJ cR ks ad Psi) : zMet l D cI cZ cB cJ cR zKS ks ad Psi yX6_isTrue (.code yX6_isTrue cX6_isTrue 4 (some .boolean)) 3 zc_942 :=
  zmet_of hw 3 (by decide) 4000 zk_942 (by decide) (by decide) (fun X => ⟨zg_RX6 X, zp_RX6 X, zl1_RX6 X, zl2_RX6 X, nilz, (List.forall_mem_cons.mpr ⟨zq_RX6_250 X (zM_933 hw hm) (by decide) rfl rfl, nilz⟩)⟩)
set_option maxRecDepth 100000 in
theorem zk_943 : zmeth zKS zuq zNS zm_943 4000 = true := zqF (zdt_X6_isTrue) (by decide +kernel)
theorem zM_943 {l : Launch} {D : va_G} {cI cZ cB cJ cR : ClassId} {ks ad : List Nat} {Psi : va_W → Prop} (hw : zworld ks ad zuq zNS Psi) (hm : zMan l D cI cZ cB cJ cR ks ad Psi) : zMet l D cI cZ cB cJ cR zKS ks ad Psi yX6_isTrue (.code yX6_isTrue cX6_isTrue 4 (some .boolean)) 3 zc_943 :=
  zmet_of hw 3 (by decide) 4000 zk_943 (by decide) (by decide) (fun X => ⟨zg_RX6 X, zp_RX6 X, zl1_RX6 X, zl2_RX6 X, nilz, (List.forall_mem_cons.mpr ⟨zq_RX6_250 X (zM_933 hw hm) (by decide) rfl rfl, nilz⟩)⟩)
set_option maxRecDepth 100000 in
theorem zk_944 : zmeth zKS zuq zNS zm_944 4000 = true := zqF (zdt_X6_isTrue) (by decide +kernel)
theorem zM_944 {l : Launch} {D : va_G} {cI cZ cB cJ cR : ClassId} {ks ad : List Nat} {Psi : va_W → Prop} (hw : zworld ks ad zuq zNS Psi) (hm : zMan l D cI cZ cB cJ cR ks ad Psi) : zMet l D cI cZ cB cJ cR zKS ks ad Psi yX6_isTrue (.code yX6_isTrue cX6_isTrue 4 (some .boolean)) 3 zc_944 :=
  zmet_of hw 3 (by decide) 4000 zk_944 (by decide) (by decide) (fun X => ⟨zg_RX6 X, zp_RX6 X, zl1_RX6 X, zl2_RX6 X, nilz, (List.forall_mem_cons.mpr ⟨zq_RX6_250 X (zM_933 hw hm) (by decide) rfl rfl, nilz⟩)⟩)
set_option maxRecDepth 100000 in
theorem zk_945 : zmeth zKS zuq zNS zm_945 4000 = true := zqF (zdt_X6_isTrue) (by decide +kernel)
theorem zM_945 {l : Launch} {D : va_G} {cI cZ cB cJ cR : ClassId} {ks ad : List Nat} {Psi : va_W → Prop} (hw : zworld ks ad zuq zNS Psi) (hm : zMan l D cI cZ cB cJ cR ks ad Psi) : zMet l D cI cZ cB cJ cR zKS ks ad Psi yX6_isTrue (.code yX6_isTrue cX6_isTrue 4 (some .boolean)) 3 zc_945 :=
  zmet_of hw 3 (by decide) 4000 zk_945 (by decide) (by decide) (fun X => ⟨zg_RX6 X, zp_RX6 X, zl1_RX6 X, zl2_RX6 X, nilz, (List.forall_mem_cons.mpr ⟨zq_RX6_250 X (zM_933 hw hm) (by decide) rfl rfl, nilz⟩)⟩)
set_option maxRecDepth 100000 in
theorem zk_946 : zmeth zKS zuq zNS zm_946 4000 = true := zqF (zdt_X6_isTrue) (by decide +kernel)
theorem zM_946 {l : Launch} {D : va_G} {cI cZ cB cJ cR : ClassId} {ks ad : List Nat} {Psi : va_W → Prop} (hw : zworld ks ad zuq zNS Psi) (hm : zMan l D cI cZ cB cJ cR ks ad Psi) : zMet l D cI cZ cB cJ cR zKS ks ad Psi yX6_isTrue (.code yX6_isTrue cX6_isTrue 4 (some .boolean)) 3 zc_946 :=
  zmet_of hw 3 (by decide) 4000 zk_946 (by decide) (by decide) (fun X => ⟨zg_RX6 X, zp_RX6 X, zl1_RX6 X, zl2_RX6 X, nilz, (List.forall_mem_cons.mpr ⟨zq_RX6_250 X (zM_933 hw hm) (by decide) rfl rfl, nilz⟩)⟩)
set_option maxRecDepth 100000 in
theorem zk_947 : zmeth zKS zuq zNS zm_947 4000 = true := zqF (zdt_X6_isTrue) (by decide +kernel)
theorem zM_947 {l : Launch} {D : va_G} {cI cZ cB cJ cR : ClassId} {ks ad : List Nat} {Psi : va_W → Prop} (hw : zworld ks ad zuq zNS Psi) (hm : zMan l D cI cZ cB cJ cR ks ad Psi) : zMet l D cI cZ cB cJ cR zKS ks ad Psi yX6_isTrue (.code yX6_isTrue cX6_isTrue 4 (some .boolean)) 3 zc_947 :=
  zmet_of hw 3 (by decide) 4000 zk_947 (by decide) (by decide) (fun X => ⟨zg_RX6 X, zp_RX6 X, zl1_RX6 X, zl2_RX6 X, nilz, (List.forall_mem_cons.mpr ⟨zq_RX6_250 X (zM_933 hw hm) (by decide) rfl rfl, nilz⟩)⟩)
set_option maxRecDepth 100000 in
theorem zk_948 : zmeth zKS zuq zNS zm_948 4000 = true := zqF (zdt_X6_isTrue) (by decide +kernel)
theorem zM_948 {l : Launch} {D : va_G} {cI cZ cB cJ cR : ClassId} {ks ad : List Nat} {Psi : va_W → Prop} (hw : zworld ks ad zuq zNS Psi) (hm : zMan l D cI cZ cB cJ cR ks ad Psi) : zMet l D cI cZ cB cJ cR zKS ks ad Psi yX6_isTrue (.code yX6_isTrue cX6_isTrue 4 (some .boolean)) 3 zc_948 :=
  zmet_of hw 3 (by decide) 4000 zk_948 (by decide) (by decide) (fun X => ⟨zg_RX6 X, zp_RX6 X, zl1_RX6 X, zl2_RX6 X, nilz, (List.forall_mem_cons.mpr ⟨zq_RX6_250 X (zM_933 hw hm) (by decide) rfl rfl, nilz⟩)⟩)
set_option maxRecDepth 100000 in
theorem zk_949 : zmeth zKS zuq zNS zm_949 4000 = true := zqF (zdt_X6_isTrue) (by decide +kernel)
theorem zM_949 {l : Launch} {D : va_G} {cI cZ cB cJ cR : ClassId} {ks ad : List Nat} {Psi : va_W → Prop} (hw : zworld ks ad zuq zNS Psi) (hm : zMan l D cI cZ cB cJ cR ks ad Psi) : zMet l D cI cZ cB cJ cR zKS ks ad Psi yX6_isTrue (.code yX6_isTrue cX6_isTrue 4 (some .boolean)) 3 zc_949 :=
  zmet_of hw 3 (by decide) 4000 zk_949 (by decide) (by decide) (fun X => ⟨zg_RX6 X, zp_RX6 X, zl1_RX6 X, zl2_RX6 X, nilz, (List.forall_mem_cons.mpr ⟨zq_RX6_250 X (zM_933 hw hm) (by decide) rfl rfl, nilz⟩)⟩)
set_option maxRecDepth 100000 in
theorem zk_950 : zmeth zKS zuq zNS zm_950 4000 = true := zqF (zdt_X6_isTrue) (by decide +kernel)
theorem zM_950 {l : Launch} {D : va_G} {cI cZ cB cJ cR : ClassId} {ks ad : List Nat} {Psi : va_W → Prop} (hw : zworld ks ad zuq zNS Psi) (hm : zMan l D cI cZ cB cJ cR ks ad Psi) : zMet l D cI cZ cB cJ cR zKS ks ad Psi yX6_isTrue (.code yX6_isTrue cX6_isTrue 4 (some .boolean)) 3 zc_950 :=
  zmet_of hw 3 (by decide) 4000 zk_950 (by decide) (by decide) (fun X => ⟨zg_RX6 X, zp_RX6 X, zl1_RX6 X, zl2_RX6 X, nilz, (List.forall_mem_cons.mpr ⟨zq_RX6_250 X (zM_933 hw hm) (by decide) rfl rfl, nilz⟩)⟩)
set_option maxRecDepth 100000 in
theorem zk_951 : zmeth zKS zuq zNS zm_951 4000 = true := zqF (zdt_X6_isTrue) (by decide +kernel)
theorem zM_951 {l : Launch} {D : va_G} {cI cZ cB cJ cR : ClassId} {ks ad : List Nat} {Psi : va_W → Prop} (hw : zworld ks ad zuq zNS Psi) (hm : zMan l D cI cZ cB cJ cR ks ad Psi) : zMet l D cI cZ cB cJ cR zKS ks ad Psi yX6_isTrue (.code yX6_isTrue cX6_isTrue 4 (some .boolean)) 3 zc_951 :=
  zmet_of hw 3 (by decide) 4000 zk_951 (by decide) (by decide) (fun X => ⟨zg_RX6 X, zp_RX6 X, zl1_RX6 X, zl2_RX6 X, nilz, (List.forall_mem_cons.mpr ⟨zq_RX6_250 X (zM_933 hw hm) (by decide) rfl rfl, nilz⟩)⟩)
set_option maxRecDepth 100000 in
theorem zk_952 : zmeth zKS zuq zNS zm_952 4000 = true := zqF (zdt_X6_isTrue) (by decide +kernel)
theorem zM_952 {l : Launch} {D : va_G} {cI cZ cB cJ cR : ClassId} {ks ad : List Nat} {Psi : va_W → Prop} (hw : zworld ks ad zuq zNS Psi) (hm : zMan l D cI cZ cB cJ cR ks ad Psi) : zMet l D cI cZ cB cJ cR zKS ks ad Psi yX6_isTrue (.code yX6_isTrue cX6_isTrue 4 (some .boolean)) 3 zc_952 :=
  zmet_of hw 3 (by decide) 4000 zk_952 (by decide) (by decide) (fun X => ⟨zg_RX6 X, zp_RX6 X, zl1_RX6 X, zl2_RX6 X, nilz, (List.forall_mem_cons.mpr ⟨zq_RX6_250 X (zM_933 hw hm) (by decide) rfl rfl, nilz⟩)⟩)
set_option maxRecDepth 100000 in
theorem zk_953 : zmeth zKS zuq zNS zm_953 4000 = true := zqF (zdt_X6_isTrue) (by decide +kernel)
theorem zM_953 {l : Launch} {D : va_G} {cI cZ cB cJ cR : ClassId} {ks ad : List Nat} {Psi : va_W → Prop} (hw : zworld ks ad zuq zNS Psi) (hm : zMan l D cI cZ cB cJ cR ks ad Psi) : zMet l D cI cZ cB cJ cR zKS ks ad Psi yX6_isTrue (.code yX6_isTrue cX6_isTrue 4 (some .boolean)) 3 zc_953 :=
  zmet_of hw 3 (by decide) 4000 zk_953 (by decide) (by decide) (fun X => ⟨zg_RX6 X, zp_RX6 X, zl1_RX6 X, zl2_RX6 X, nilz, (List.forall_mem_cons.mpr ⟨zq_RX6_250 X (zM_933 hw hm) (by decide) rfl rfl, nilz⟩)⟩)
set_option maxRecDepth 100000 in
theorem zk_954 : zmeth zKS zuq zNS zm_954 4000 = true := zqF (zdt_X6_isTrue) (by decide +kernel)
theorem zM_954 {l : Launch} {D : va_G} {cI cZ cB cJ cR : ClassId} {ks ad : List Nat} {Psi : va_W → Prop} (hw : zworld ks ad zuq zNS Psi) (hm : zMan l D cI cZ cB cJ cR ks ad Psi) : zMet l D cI cZ cB cJ cR zKS ks ad Psi yX6_isTrue (.code yX6_isTrue cX6_isTrue 4 (some .boolean)) 3 zc_954 :=
  zmet_of hw 3 (by decide) 4000 zk_954 (by decide) (by decide) (fun X => ⟨zg_RX6 X, zp_RX6 X, zl1_RX6 X, zl2_RX6 X, nilz, (List.forall_mem_cons.mpr ⟨zq_RX6_250 X (zM_933 hw hm) (by decide) rfl rfl, nilz⟩)⟩)
set_option maxRecDepth 100000 in
theorem zk_955 : zmeth zKS zuq zNS zm_955 4000 = true := zqF (zdt_X6_isTrue) (by decide +kernel)
theorem zM_955 {l : Launch} {D : va_G} {cI cZ cB cJ cR : ClassId} {ks ad : List Nat} {Psi : va_W → Prop} (hw : zworld ks ad zuq zNS Psi) (hm : zMan l D cI cZ cB cJ cR ks ad Psi) : zMet l D cI cZ cB cJ cR zKS ks ad Psi yX6_isTrue (.code yX6_isTrue cX6_isTrue 4 (some .boolean)) 3 zc_955 :=
  zmet_of hw 3 (by decide) 4000 zk_955 (by decide) (by decide) (fun X => ⟨zg_RX6 X, zp_RX6 X, zl1_RX6 X, zl2_RX6 X, nilz, (List.forall_mem_cons.mpr ⟨zq_RX6_250 X (zM_933 hw hm) (by decide) rfl rfl, nilz⟩)⟩)
set_option maxRecDepth 100000 in
theorem zk_956 : zmeth zKS zuq zNS zm_956 4000 = true := zqF (zdt_X6_isTrue) (by decide +kernel)
theorem zM_956 {l : Launch} {D : va_G} {cI cZ cB cJ cR : ClassId} {ks ad : List Nat} {Psi : va_W → Prop} (hw : zworld ks ad zuq zNS Psi) (hm : zMan l D cI cZ cB cJ cR ks ad Psi) : zMet l D cI cZ cB cJ cR zKS ks ad Psi yX6_isTrue (.code yX6_isTrue cX6_isTrue 4 (some .boolean)) 3 zc_956 :=
  zmet_of hw 3 (by decide) 4000 zk_956 (by decide) (by decide) (fun X => ⟨zg_RX6 X, zp_RX6 X, zl1_RX6 X, zl2_RX6 X, nilz, (List.forall_mem_cons.mpr ⟨zq_RX6_250 X (zM_933 hw hm) (by decide) rfl rfl, nilz⟩)⟩)
set_option maxRecDepth 100000 in
theorem zk_957 : zmeth zKS zuq zNS zm_957 4000 = true := zqF (zdt_X6_isTrue) (by decide +kernel)
theorem zM_957 {l : Launch} {D : va_G} {cI cZ cB cJ cR : ClassId} {ks ad : List Nat} {Psi : va_W → Prop} (hw : zworld ks ad zuq zNS Psi) (hm : zMan l D cI cZ cB cJ cR ks ad Psi) : zMet l D cI cZ cB cJ cR zKS ks ad Psi yX6_isTrue (.code yX6_isTrue cX6_isTrue 4 (some .boolean)) 3 zc_957 :=
  zmet_of hw 3 (by decide) 4000 zk_957 (by decide) (by decide) (fun X => ⟨zg_RX6 X, zp_RX6 X, zl1_RX6 X, zl2_RX6 X, nilz, (List.forall_mem_cons.mpr ⟨zq_RX6_250 X (zM_933 hw hm) (by decide) rfl rfl, nilz⟩)⟩)
set_option maxRecDepth 100000 in
theorem zk_958 : zmeth zKS zuq zNS zm_958 4000 = true := zqF (zdt_X6_isTrue) (by decide +kernel)
theorem zM_958 {l : Launch} {D : va_G} {cI cZ cB cJ cR : ClassId} {ks ad : List Nat} {Psi : va_W → Prop} (hw : zworld ks ad zuq zNS Psi) (hm : zMan l D cI cZ cB cJ cR ks ad Psi) : zMet l D cI cZ cB cJ cR zKS ks ad Psi yX6_isTrue (.code yX6_isTrue cX6_isTrue 4 (some .boolean)) 3 zc_958 :=
  zmet_of hw 3 (by decide) 4000 zk_958 (by decide) (by decide) (fun X => ⟨zg_RX6 X, zp_RX6 X, zl1_RX6 X, zl2_RX6 X, nilz, (List.forall_mem_cons.mpr ⟨zq_RX6_250 X (zM_933 hw hm) (by decide) rfl rfl, nilz⟩)⟩)
set_option maxRecDepth 100000 in
theorem zk_959 : zmeth zKS zuq zNS zm_959 4000 = true := zqF (zdt_X6_isTrue) (by decide +kernel)
theorem zM_959 {l : Launch} {D : va_G} {cI cZ cB cJ cR : ClassId} {ks ad : List Nat} {Psi : va_W → Prop} (hw : zworld ks ad zuq zNS Psi) (hm : zMan l D cI cZ cB cJ cR ks ad Psi) : zMet l D cI cZ cB cJ cR zKS ks ad Psi yX6_isTrue (.code yX6_isTrue cX6_isTrue 4 (some .boolean)) 3 zc_959 :=
  zmet_of hw 3 (by decide) 4000 zk_959 (by decide) (by decide) (fun X => ⟨zg_RX6 X, zp_RX6 X, zl1_RX6 X, zl2_RX6 X, nilz, (List.forall_mem_cons.mpr ⟨zq_RX6_250 X (zM_933 hw hm) (by decide) rfl rfl, nilz⟩)⟩)
set_option maxRecDepth 100000 in
theorem zk_960 : zmeth zKS zuq zNS zm_960 4000 = true := zqF (zdt_X6_isTrue) (by decide +kernel)
theorem zM_960 {l : Launch} {D : va_G} {cI cZ cB cJ cR : ClassId} {ks ad : List Nat} {Psi : va_W → Prop} (hw : zworld ks ad zuq zNS Psi) (hm : zMan l D cI cZ cB cJ cR ks ad Psi) : zMet l D cI cZ cB cJ cR zKS ks ad Psi yX6_isTrue (.code yX6_isTrue cX6_isTrue 4 (some .boolean)) 3 zc_960 :=
  zmet_of hw 3 (by decide) 4000 zk_960 (by decide) (by decide) (fun X => ⟨zg_RX6 X, zp_RX6 X, zl1_RX6 X, zl2_RX6 X, nilz, (List.forall_mem_cons.mpr ⟨zq_RX6_250 X (zM_933 hw hm) (by decide) rfl rfl, nilz⟩)⟩)
set_option maxRecDepth 100000 in
theorem zk_961 : zmeth zKS zuq zNS zm_961 4000 = true := zqF (zdt_X6_isTrue) (by decide +kernel)
theorem zM_961 {l : Launch} {D : va_G} {cI cZ cB cJ cR : ClassId} {ks ad : List Nat} {Psi : va_W → Prop} (hw : zworld ks ad zuq zNS Psi) (hm : zMan l D cI cZ cB cJ cR ks ad Psi) : zMet l D cI cZ cB cJ cR zKS ks ad Psi yX6_isTrue (.code yX6_isTrue cX6_isTrue 4 (some .boolean)) 3 zc_961 :=
  zmet_of hw 3 (by decide) 4000 zk_961 (by decide) (by decide) (fun X => ⟨zg_RX6 X, zp_RX6 X, zl1_RX6 X, zl2_RX6 X, nilz, (List.forall_mem_cons.mpr ⟨zq_RX6_250 X (zM_933 hw hm) (by decide) rfl rfl, nilz⟩)⟩)
set_option maxRecDepth 100000 in
theorem zk_962 : zmeth zKS zuq zNS zm_962 4000 = true := zqF (zdt_X6_isTrue) (by decide +kernel)
theorem zM_962 {l : Launch} {D : va_G} {cI cZ cB cJ cR : ClassId} {ks ad : List Nat} {Psi : va_W → Prop} (hw : zworld ks ad zuq zNS Psi) (hm : zMan l D cI cZ cB cJ cR ks ad Psi) : zMet l D cI cZ cB cJ cR zKS ks ad Psi yX6_isTrue (.code yX6_isTrue cX6_isTrue 4 (some .boolean)) 3 zc_962 :=
  zmet_of hw 3 (by decide) 4000 zk_962 (by decide) (by decide) (fun X => ⟨zg_RX6 X, zp_RX6 X, zl1_RX6 X, zl2_RX6 X, nilz, (List.forall_mem_cons.mpr ⟨zq_RX6_250 X (zM_933 hw hm) (by decide) rfl rfl, nilz⟩)⟩)
