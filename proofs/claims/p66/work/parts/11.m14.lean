set_option maxRecDepth 100000 in
theorem zk_239 : zmeth zKS zuq zNS zm_239 4000 = true := by decide +kernel
theorem zM_239 {l : Launch} {D : va_G} {cI cZ cB cJ cR : ClassId} {ks ad : List Nat} {Psi : va_W → Prop} (hw : zworld ks ad zuq zNS Psi) (hm : zMan l D cI cZ cB cJ cR ks ad Psi) : zMet l D cI cZ cB cJ cR zKS ks ad Psi yX0_gapsIfTraded (.code yX0_gapsIfTraded cX0_gapsIfTraded 4 (some .int)) 4 zc_239 :=
  zmet_of hw 4 (by decide) 4000 zk_239 (by decide) (by decide) (fun X => ⟨zg_RX0 X, zp_RX0 X, zl1_RX0 X, zl2_RX0 X, nilz, (List.forall_mem_cons.mpr ⟨zq_RX0_111 X (zM_224 hw hm) (by decide) rfl rfl, (List.forall_mem_cons.mpr ⟨zq_RX0_130 X (zM_265 hw hm) (by decide) rfl rfl, (List.forall_mem_cons.mpr ⟨zq_RX0_134 X (zM_240 hw hm) (by decide) rfl rfl, nilz⟩)⟩)⟩)⟩)
set_option maxRecDepth 100000 in
theorem zk_288 : zmeth zKS zuq zNS zm_288 4000 = true := by decide +kernel
theorem zM_288 {l : Launch} {D : va_G} {cI cZ cB cJ cR : ClassId} {ks ad : List Nat} {Psi : va_W → Prop} (hw : zworld ks ad zuq zNS Psi) (hm : zMan l D cI cZ cB cJ cR ks ad Psi) : zMet l D cI cZ cB cJ cR zKS ks ad Psi yX2_explain (.code yX2_explain cX2_explain 4 none) 4 zc_288 :=
  zmet_of hw 4 (by decide) 4000 zk_288 (by decide) (by decide) (fun X => ⟨zg_RX2 X, zp_RX2 X, zl1_RX2 X, zl2_RX2 X, nilz, (List.forall_mem_cons.mpr ⟨zq_RX2_39 X (zM_284 hw hm) (by decide) rfl rfl, (List.forall_mem_cons.mpr ⟨zq_RX2_60 X (zM_290 hw hm) (by decide) rfl rfl, (List.forall_mem_cons.mpr ⟨zq_copy (k0 := 21) (k1 := 27) (fun ws i k a e e9 h1 h2 => hw.2.2.2 ws i k a e e9 h1 (by rw [h2]; decide)) X (by decide) lm_31_12 lm_31_13 lm_31_14 lm_31_15 rfl rfl (by decide) (by decide) (by decide), nilz⟩)⟩)⟩)⟩)
set_option maxRecDepth 100000 in
theorem zk_292 : zmeth zKS zuq zNS zm_292 4000 = true := by decide +kernel
theorem zM_292 {l : Launch} {D : va_G} {cI cZ cB cJ cR : ClassId} {ks ad : List Nat} {Psi : va_W → Prop} (hw : zworld ks ad zuq zNS Psi) (hm : zMan l D cI cZ cB cJ cR ks ad Psi) : zMet l D cI cZ cB cJ cR zKS ks ad Psi yX2_survey (.code yX2_survey cX2_survey 3 none) 4 zc_292 :=
  zmet_of hw 4 (by decide) 4000 zk_292 (by decide) (by decide) (fun X => ⟨zg_RX2 X, zp_RX2 X, zl1_RX2 X, zl2_RX2 X, nilz, (List.forall_mem_cons.mpr ⟨zq_RX2_36 X (zM_287 hw hm) (by decide) rfl rfl, (List.forall_mem_cons.mpr ⟨zq_RX2_39 X (zM_284 hw hm) (by decide) rfl rfl, (List.forall_mem_cons.mpr ⟨zq_RX2_43 X (zM_285 hw hm) (by decide) rfl rfl, (List.forall_mem_cons.mpr ⟨zq_RX2_60 X (zM_290 hw hm) (by decide) rfl rfl, (List.forall_mem_cons.mpr ⟨zq_RX2_64 X (zM_293 hw hm) (by decide) rfl rfl, nilz⟩)⟩)⟩)⟩)⟩)⟩)
set_option maxRecDepth 100000 in
theorem zk_564 : zmeth zKS zuq zNS zm_564 4000 = true := by decide +kernel
theorem zM_564 {l : Launch} {D : va_G} {cI cZ cB cJ cR : ClassId} {ks ad : List Nat} {Psi : va_W → Prop} (hw : zworld ks ad zuq zNS Psi) (hm : zMan l D cI cZ cB cJ cR ks ad Psi) : zMet l D cI cZ cB cJ cR zKS ks ad Psi yX5_all (.code yX5_all cX5_all 1 (some .int)) 4 zc_564 :=
  zmet_of hw 4 (by decide) 4000 zk_564 (by decide) (by decide) (fun X => ⟨zg_RX5 X, zp_RX5 X, zl1_RX5 X, zl2_RX5 X, nilz, (List.forall_mem_cons.mpr ⟨zq_RX5_115 X (zM_231 hw hm) (by decide) rfl rfl, (List.forall_mem_cons.mpr ⟨zq_RX5_118 X (zM_224 hw hm) (by decide) rfl rfl, (List.forall_mem_cons.mpr ⟨zq_RX5_122 X (zM_240 hw hm) (by decide) rfl rfl, nilz⟩)⟩)⟩)⟩)
set_option maxRecDepth 100000 in
theorem zk_565 : zmeth zKS zuq zNS zm_565 4000 = true := by decide +kernel
theorem zM_565 {l : Launch} {D : va_G} {cI cZ cB cJ cR : ClassId} {ks ad : List Nat} {Psi : va_W → Prop} (hw : zworld ks ad zuq zNS Psi) (hm : zMan l D cI cZ cB cJ cR ks ad Psi) : zMet l D cI cZ cB cJ cR zKS ks ad Psi yX5_alone (.code yX5_alone cX5_alone 2 (some .int)) 4 zc_565 :=
  zmet_of hw 4 (by decide) 4000 zk_565 (by decide) (by decide) (fun X => ⟨zg_RX5 X, zp_RX5 X, zl1_RX5 X, zl2_RX5 X, nilz, (List.forall_mem_cons.mpr ⟨zq_RX5_87 X (zM_245 hw hm) (by decide) rfl rfl, (List.forall_mem_cons.mpr ⟨zq_RX5_112 X (zM_225 hw hm) (by decide) rfl rfl, nilz⟩)⟩)⟩)
set_option maxRecDepth 100000 in
theorem zk_566 : zmeth zKS zuq zNS zm_566 4000 = true := by decide +kernel
theorem zM_566 {l : Launch} {D : va_G} {cI cZ cB cJ cR : ClassId} {ks ad : List Nat} {Psi : va_W → Prop} (hw : zworld ks ad zuq zNS Psi) (hm : zMan l D cI cZ cB cJ cR ks ad Psi) : zMet l D cI cZ cB cJ cR zKS ks ad Psi yX5_anew (.code yX5_anew cX5_anew 3 (some .int)) 4 zc_566 :=
  zmet_of hw 4 (by decide) 4000 zk_566 (by decide) (by decide) (fun X => ⟨zg_RX5 X, zp_RX5 X, zl1_RX5 X, zl2_RX5 X, nilz, (List.forall_mem_cons.mpr ⟨zq_RX5_71 X (zM_695 hw hm) (by decide) rfl rfl, (List.forall_mem_cons.mpr ⟨zq_RX5_115 X (zM_231 hw hm) (by decide) rfl rfl, (List.forall_mem_cons.mpr ⟨zq_RX5_302 X (zman_268 hm) (by decide) rfl rfl, nilz⟩)⟩)⟩)⟩)
set_option maxRecDepth 100000 in
theorem zk_569 : zmeth zKS zuq zNS zm_569 4000 = true := by decide +kernel
theorem zM_569 {l : Launch} {D : va_G} {cI cZ cB cJ cR : ClassId} {ks ad : List Nat} {Psi : va_W → Prop} (hw : zworld ks ad zuq zNS Psi) (hm : zMan l D cI cZ cB cJ cR ks ad Psi) : zMet l D cI cZ cB cJ cR zKS ks ad Psi yX5_back (.code yX5_back cX5_back 2 (some .int)) 4 zc_569 :=
  zmet_of hw 4 (by decide) 4000 zk_569 (by decide) (by decide) (fun X => ⟨zg_RX5 X, zp_RX5 X, zl1_RX5 X, zl2_RX5 X, nilz, (List.forall_mem_cons.mpr ⟨zq_RX5_71 X (zM_695 hw hm) (by decide) rfl rfl, (List.forall_mem_cons.mpr ⟨zq_RX5_317 X (zman_228 hm) (by decide) rfl rfl, nilz⟩)⟩)⟩)
set_option maxRecDepth 100000 in
theorem zk_575 : zmeth zKS zuq zNS zm_575 4000 = true := by decide +kernel
theorem zM_575 {l : Launch} {D : va_G} {cI cZ cB cJ cR : ClassId} {ks ad : List Nat} {Psi : va_W → Prop} (hw : zworld ks ad zuq zNS Psi) (hm : zMan l D cI cZ cB cJ cR ks ad Psi) : zMet l D cI cZ cB cJ cR zKS ks ad Psi yX5_busiest (.code yX5_busiest cX5_busiest 5 (some .int)) 4 zc_575 :=
  zmet_of hw 4 (by decide) 4000 zk_575 (by decide) (by decide) (fun X => ⟨zg_RX5 X, zp_RX5 X, zl1_RX5 X, zl2_RX5 X, nilz, (List.forall_mem_cons.mpr ⟨zq_RX5_112 X (zM_225 hw hm) (by decide) rfl rfl, (List.forall_mem_cons.mpr ⟨zq_RX5_115 X (zM_231 hw hm) (by decide) rfl rfl, (List.forall_mem_cons.mpr ⟨zq_RX5_125 X (zM_242 hw hm) (by decide) rfl rfl, (List.forall_mem_cons.mpr ⟨zq_RX5_149 X (zM_0 hw hm) (by decide) rfl, nilz⟩)⟩)⟩)⟩)⟩)
set_option maxRecDepth 100000 in
theorem zk_576 : zmeth zKS zuq zNS zm_576 4000 = true := by decide +kernel
theorem zM_576 {l : Launch} {D : va_G} {cI cZ cB cJ cR : ClassId} {ks ad : List Nat} {Psi : va_W → Prop} (hw : zworld ks ad zuq zNS Psi) (hm : zMan l D cI cZ cB cJ cR ks ad Psi) : zMet l D cI cZ cB cJ cR zKS ks ad Psi yX5_can (.code yX5_can cX5_can 3 (some .int)) 4 zc_576 :=
  zmet_of hw 4 (by decide) 4000 zk_576 (by decide) (by decide) (fun X => ⟨zg_RX5 X, zp_RX5 X, zl1_RX5 X, zl2_RX5 X, nilz, (List.forall_mem_cons.mpr ⟨zq_RX5_87 X (zM_245 hw hm) (by decide) rfl rfl, (List.forall_mem_cons.mpr ⟨zq_RX5_186 X (zM_248 hw hm) (by decide) rfl rfl, (List.forall_mem_cons.mpr ⟨zq_RX5_220 X (zM_229 hw hm) (by decide) rfl rfl, nilz⟩)⟩)⟩)⟩)
set_option maxRecDepth 100000 in
theorem zk_587 : zmeth zKS zuq zNS zm_587 4000 = true := by decide +kernel
theorem zM_587 {l : Launch} {D : va_G} {cI cZ cB cJ cR : ClassId} {ks ad : List Nat} {Psi : va_W → Prop} (hw : zworld ks ad zuq zNS Psi) (hm : zMan l D cI cZ cB cJ cR ks ad Psi) : zMet l D cI cZ cB cJ cR zKS ks ad Psi yX5_drawn (.code yX5_drawn cX5_drawn 8 (some .int)) 4 zc_587 :=
  zmet_of hw 4 (by decide) 4000 zk_587 (by decide) (by decide) (fun X => ⟨zg_RX5 X, zp_RX5 X, zl1_RX5 X, zl2_RX5 X, nilz, (List.forall_mem_cons.mpr ⟨zq_RX5_115 X (zM_231 hw hm) (by decide) rfl rfl, (List.forall_mem_cons.mpr ⟨zq_RX5_149 X (zM_0 hw hm) (by decide) rfl, (List.forall_mem_cons.mpr ⟨zq_RX5_287 X (zM_233 hw hm) (by decide) rfl rfl, (List.forall_mem_cons.mpr ⟨zq_RX5_290 X (zM_237 hw hm) (by decide) rfl rfl, nilz⟩)⟩)⟩)⟩)⟩)
set_option maxRecDepth 100000 in
theorem zk_598 : zmeth zKS zuq zNS zm_598 4000 = true := by decide +kernel
theorem zM_598 {l : Launch} {D : va_G} {cI cZ cB cJ cR : ClassId} {ks ad : List Nat} {Psi : va_W → Prop} (hw : zworld ks ad zuq zNS Psi) (hm : zMan l D cI cZ cB cJ cR ks ad Psi) : zMet l D cI cZ cB cJ cR zKS ks ad Psi yX5_fine (.code yX5_fine cX5_fine 2 (some .int)) 4 zc_598 :=
  zmet_of hw 4 (by decide) 4000 zk_598 (by decide) (by decide) (fun X => ⟨zg_RX5 X, zp_RX5 X, zl1_RX5 X, zl2_RX5 X, nilz, (List.forall_mem_cons.mpr ⟨zq_RX5_83 X (zM_247 hw hm) (by decide) rfl rfl, (List.forall_mem_cons.mpr ⟨zq_RX5_137 X (zM_232 hw hm) (by decide) rfl rfl, nilz⟩)⟩)⟩)
set_option maxRecDepth 100000 in
theorem zk_603 : zmeth zKS zuq zNS zm_603 4000 = true := by decide +kernel
theorem zM_603 {l : Launch} {D : va_G} {cI cZ cB cJ cR : ClassId} {ks ad : List Nat} {Psi : va_W → Prop} (hw : zworld ks ad zuq zNS Psi) (hm : zMan l D cI cZ cB cJ cR ks ad Psi) : zMet l D cI cZ cB cJ cR zKS ks ad Psi yX5_guarded (.code yX5_guarded cX5_guarded 2 (some .int)) 4 zc_603 :=
  zmet_of hw 4 (by decide) 4000 zk_603 (by decide) (by decide) (fun X => ⟨zg_RX5 X, zp_RX5 X, zl1_RX5 X, zl2_RX5 X, nilz, (List.forall_mem_cons.mpr ⟨zq_RX5_83 X (zM_247 hw hm) (by decide) rfl rfl, (List.forall_mem_cons.mpr ⟨zq_RX5_227 X (zM_251 hw hm) (by decide) rfl rfl, nilz⟩)⟩)⟩)
set_option maxRecDepth 100000 in
theorem zk_604 : zmeth zKS zuq zNS zm_604 4000 = true := by decide +kernel
theorem zM_604 {l : Launch} {D : va_G} {cI cZ cB cJ cR : ClassId} {ks ad : List Nat} {Psi : va_W → Prop} (hw : zworld ks ad zuq zNS Psi) (hm : zMan l D cI cZ cB cJ cR ks ad Psi) : zMet l D cI cZ cB cJ cR zKS ks ad Psi yX5_guards (.code yX5_guards cX5_guards 3 (some .int)) 4 zc_604 :=
  zmet_of hw 4 (by decide) 4000 zk_604 (by decide) (by decide) (fun X => ⟨zg_RX5 X, zp_RX5 X, zl1_RX5 X, zl2_RX5 X, nilz, (List.forall_mem_cons.mpr ⟨zq_RX5_83 X (zM_247 hw hm) (by decide) rfl rfl, (List.forall_mem_cons.mpr ⟨zq_RX5_149 X (zM_0 hw hm) (by decide) rfl, (List.forall_mem_cons.mpr ⟨zq_RX5_227 X (zM_251 hw hm) (by decide) rfl rfl, nilz⟩)⟩)⟩)⟩)
set_option maxRecDepth 100000 in
theorem zk_606 : zmeth zKS zuq zNS zm_606 4000 = true := by decide +kernel
theorem zM_606 {l : Launch} {D : va_G} {cI cZ cB cJ cR : ClassId} {ks ad : List Nat} {Psi : va_W → Prop} (hw : zworld ks ad zuq zNS Psi) (hm : zMan l D cI cZ cB cJ cR ks ad Psi) : zMet l D cI cZ cB cJ cR zKS ks ad Psi yX5_homebody (.code yX5_homebody cX5_homebody 5 (some .int)) 4 zc_606 :=
  zmet_of hw 4 (by decide) 4000 zk_606 (by decide) (by decide) (fun X => ⟨zg_RX5 X, zp_RX5 X, zl1_RX5 X, zl2_RX5 X, nilz, (List.forall_mem_cons.mpr ⟨zq_RX5_115 X (zM_231 hw hm) (by decide) rfl rfl, (List.forall_mem_cons.mpr ⟨zq_RX5_118 X (zM_224 hw hm) (by decide) rfl rfl, (List.forall_mem_cons.mpr ⟨zq_RX5_122 X (zM_240 hw hm) (by decide) rfl rfl, (List.forall_mem_cons.mpr ⟨zq_RX5_198 X (zM_238 hw hm) (by decide) rfl rfl, nilz⟩)⟩)⟩)⟩)⟩)
set_option maxRecDepth 100000 in
theorem zk_688 : zmeth zKS zuq zNS zm_688 4000 = true := by decide +kernel
theorem zM_688 {l : Launch} {D : va_G} {cI cZ cB cJ cR : ClassId} {ks ad : List Nat} {Psi : va_W → Prop} (hw : zworld ks ad zuq zNS Psi) (hm : zMan l D cI cZ cB cJ cR ks ad Psi) : zMet l D cI cZ cB cJ cR zKS ks ad Psi yX5_law (.code yX5_law cX5_law 4 (some .int)) 4 zc_688 :=
  zmet_of hw 4 (by decide) 4000 zk_688 (by decide) (by decide) (fun X => ⟨zg_RX5 X, zp_RX5 X, zl1_RX5 X, zl2_RX5 X, nilz, (List.forall_mem_cons.mpr ⟨zq_RX5_87 X (zM_245 hw hm) (by decide) rfl rfl, (List.forall_mem_cons.mpr ⟨zq_RX5_118 X (zM_224 hw hm) (by decide) rfl rfl, (List.forall_mem_cons.mpr ⟨zq_RX5_122 X (zM_240 hw hm) (by decide) rfl rfl, nilz⟩)⟩)⟩)⟩)
set_option maxRecDepth 100000 in
theorem zk_696 : zmeth zKS zuq zNS zm_696 4000 = true := by decide +kernel
theorem zM_696 {l : Launch} {D : va_G} {cI cZ cB cJ cR : ClassId} {ks ad : List Nat} {Psi : va_W → Prop} (hw : zworld ks ad zuq zNS Psi) (hm : zMan l D cI cZ cB cJ cR ks ad Psi) : zMet l D cI cZ cB cJ cR zKS ks ad Psi yX5_luck (.code yX5_luck cX5_luck 6 (some .int)) 4 zc_696 :=
  zmet_of hw 4 (by decide) 4000 zk_696 (by decide) (by decide) (fun X => ⟨zg_RX5 X, zp_RX5 X, zl1_RX5 X, zl2_RX5 X, nilz, (List.forall_mem_cons.mpr ⟨zq_RX5_83 X (zM_247 hw hm) (by decide) rfl rfl, (List.forall_mem_cons.mpr ⟨zq_RX5_287 X (zM_233 hw hm) (by decide) rfl rfl, (List.forall_mem_cons.mpr ⟨zq_RX5_290 X (zM_237 hw hm) (by decide) rfl rfl, nilz⟩)⟩)⟩)⟩)
set_option maxRecDepth 100000 in
theorem zk_697 : zmeth zKS zuq zNS zm_697 4000 = true := by decide +kernel
theorem zM_697 {l : Launch} {D : va_G} {cI cZ cB cJ cR : ClassId} {ks ad : List Nat} {Psi : va_W → Prop} (hw : zworld ks ad zuq zNS Psi) (hm : zMan l D cI cZ cB cJ cR ks ad Psi) : zMet l D cI cZ cB cJ cR zKS ks ad Psi yX5_move (.code yX5_move cX5_move 5 (some .int)) 4 zc_697 :=
  zmet_of hw 4 (by decide) 4000 zk_697 (by decide) (by decide) (fun X => ⟨zg_RX5 X, zp_RX5 X, zl1_RX5 X, zl2_RX5 X, nilz, (List.forall_mem_cons.mpr ⟨zq_RX5_71 X (zM_695 hw hm) (by decide) rfl rfl, (List.forall_mem_cons.mpr ⟨zq_RX5_83 X (zM_247 hw hm) (by decide) rfl rfl, (List.forall_mem_cons.mpr ⟨zq_RX5_87 X (zM_245 hw hm) (by decide) rfl rfl, (List.forall_mem_cons.mpr ⟨zq_RX5_186 X (zM_248 hw hm) (by decide) rfl rfl, (List.forall_mem_cons.mpr ⟨zq_RX5_299 X (zM_254 hw hm) (by decide) rfl rfl, nilz⟩)⟩)⟩)⟩)⟩)⟩)
set_option maxRecDepth 100000 in
theorem zk_735 : zmeth zKS zuq zNS zm_735 4000 = true := by decide +kernel
theorem zM_735 {l : Launch} {D : va_G} {cI cZ cB cJ cR : ClassId} {ks ad : List Nat} {Psi : va_W → Prop} (hw : zworld ks ad zuq zNS Psi) (hm : zMan l D cI cZ cB cJ cR ks ad Psi) : zMet l D cI cZ cB cJ cR zKS ks ad Psi yX5_safe (.code yX5_safe cX5_safe 3 (some .int)) 4 zc_735 :=
  zmet_of hw 4 (by decide) 4000 zk_735 (by decide) (by decide) (fun X => ⟨zg_RX5 X, zp_RX5 X, zl1_RX5 X, zl2_RX5 X, nilz, (List.forall_mem_cons.mpr ⟨zq_RX5_115 X (zM_231 hw hm) (by decide) rfl rfl, (List.forall_mem_cons.mpr ⟨zq_RX5_192 X (zM_257 hw hm) (by decide) rfl rfl, (List.forall_mem_cons.mpr ⟨zq_RX5_223 X (zM_241 hw hm) (by decide) rfl rfl, nilz⟩)⟩)⟩)⟩)
set_option maxRecDepth 100000 in
theorem zk_745 : zmeth zKS zuq zNS zm_745 4000 = true := by decide +kernel
theorem zM_745 {l : Launch} {D : va_G} {cI cZ cB cJ cR : ClassId} {ks ad : List Nat} {Psi : va_W → Prop} (hw : zworld ks ad zuq zNS Psi) (hm : zMan l D cI cZ cB cJ cR ks ad Psi) : zMet l D cI cZ cB cJ cR zKS ks ad Psi yX5_swear (.code yX5_swear cX5_swear 3 (some .int)) 4 zc_745 :=
  zmet_of hw 4 (by decide) 4000 zk_745 (by decide) (by decide) (fun X => ⟨zg_RX5 X, zp_RX5 X, zl1_RX5 X, zl2_RX5 X, nilz, (List.forall_mem_cons.mpr ⟨zq_RX5_83 X (zM_247 hw hm) (by decide) rfl rfl, (List.forall_mem_cons.mpr ⟨zq_RX5_179 X (zM_246 hw hm) (by decide) rfl rfl, (List.forall_mem_cons.mpr ⟨zq_RX5_296 X (zM_266 hw hm) (by decide) rfl rfl, nilz⟩)⟩)⟩)⟩)
set_option maxRecDepth 100000 in
theorem zk_752 : zmeth zKS zuq zNS zm_752 4000 = true := by decide +kernel
theorem zM_752 {l : Launch} {D : va_G} {cI cZ cB cJ cR : ClassId} {ks ad : List Nat} {Psi : va_W → Prop} (hw : zworld ks ad zuq zNS Psi) (hm : zMan l D cI cZ cB cJ cR ks ad Psi) : zMet l D cI cZ cB cJ cR zKS ks ad Psi yX5_undo (.code yX5_undo cX5_undo 1 (some .int)) 4 zc_752 :=
  zmet_of hw 4 (by decide) 4000 zk_752 (by decide) (by decide) (fun X => ⟨zg_RX5 X, zp_RX5 X, zl1_RX5 X, zl2_RX5 X, nilz, (List.forall_mem_cons.mpr ⟨zq_RX5_71 X (zM_695 hw hm) (by decide) rfl rfl, (List.forall_mem_cons.mpr ⟨zq_RX5_115 X (zM_231 hw hm) (by decide) rfl rfl, (List.forall_mem_cons.mpr ⟨zq_RX5_302 X (zman_268 hm) (by decide) rfl rfl, nilz⟩)⟩)⟩)⟩)
set_option maxRecDepth 100000 in
theorem zk_759 : zmeth zKS zuq zNS zm_759 4000 = true := by decide +kernel
theorem zM_759 {l : Launch} {D : va_G} {cI cZ cB cJ cR : ClassId} {ks ad : List Nat} {Psi : va_W → Prop} (hw : zworld ks ad zuq zNS Psi) (hm : zMan l D cI cZ cB cJ cR ks ad Psi) : zMet l D cI cZ cB cJ cR zKS ks ad Psi yX5_worst (.code yX5_worst cX5_worst 5 (some .int)) 4 zc_759 :=
  zmet_of hw 4 (by decide) 4000 zk_759 (by decide) (by decide) (fun X => ⟨zg_RX5 X, zp_RX5 X, zl1_RX5 X, zl2_RX5 X, nilz, (List.forall_mem_cons.mpr ⟨zq_RX5_115 X (zM_231 hw hm) (by decide) rfl rfl, (List.forall_mem_cons.mpr ⟨zq_RX5_137 X (zM_232 hw hm) (by decide) rfl rfl, nilz⟩)⟩)⟩)
set_option maxRecDepth 100000 in
theorem zk_771 : zmeth zKS zuq zNS zm_771 4000 = true := by decide +kernel
theorem zM_771 {l : Launch} {D : va_G} {cI cZ cB cJ cR : ClassId} {ks ad : List Nat} {Psi : va_W → Prop} (hw : zworld ks ad zuq zNS Psi) (hm : zMan l D cI cZ cB cJ cR ks ad Psi) : zMet l D cI cZ cB cJ cR zKS ks ad Psi yX6_back (.code yX6_back cX6_back 2 (some .int)) 4 zc_771 :=
  zmet_of hw 4 (by decide) 4000 zk_771 (by decide) (by decide) (fun X => ⟨zg_RX6 X, zp_RX6 X, zl1_RX6 X, zl2_RX6 X, nilz, (List.forall_mem_cons.mpr ⟨zq_RX6_76 X (zM_839 hw hm) (by decide) rfl, (List.forall_mem_cons.mpr ⟨zq_RX6_220 X (zM_787 hw hm) (by decide) rfl rfl, nilz⟩)⟩)⟩)
set_option maxRecDepth 100000 in
theorem zk_834 : zmeth zKS zuq zNS zm_834 4000 = true := by decide +kernel
theorem zM_834 {l : Launch} {D : va_G} {cI cZ cB cJ cR : ClassId} {ks ad : List Nat} {Psi : va_W → Prop} (hw : zworld ks ad zuq zNS Psi) (hm : zMan l D cI cZ cB cJ cR ks ad Psi) : zMet l D cI cZ cB cJ cR zKS ks ad Psi yX6_image (.code yX6_image cX6_image 2 (some .int)) 4 zc_834 :=
  zmet_of hw 4 (by decide) 4000 zk_834 (by decide) (by decide) (fun X => ⟨zg_RX6 X, zp_RX6 X, zl1_RX6 X, zl2_RX6 X, nilz, (List.forall_mem_cons.mpr ⟨zq_RX6_76 X (zM_839 hw hm) (by decide) rfl, (List.forall_mem_cons.mpr ⟨zq_RX6_220 X (zM_787 hw hm) (by decide) rfl rfl, nilz⟩)⟩)⟩)
set_option maxRecDepth 100000 in
theorem zk_985 : zmeth zKS zuq zNS zm_985 4000 = true := by decide +kernel
theorem zM_985 {l : Launch} {D : va_G} {cI cZ cB cJ cR : ClassId} {ks ad : List Nat} {Psi : va_W → Prop} (hw : zworld ks ad zuq zNS Psi) (hm : zMan l D cI cZ cB cJ cR ks ad Psi) : zMet l D cI cZ cB cJ cR zKS ks ad Psi yX6_number_ (.code yX6_number_ cX6_number_ 5 (some .int)) 4 zc_985 :=
  zmet_of hw 4 (by decide) 4000 zk_985 (by decide) (by decide) (fun X => ⟨zg_RX6 X, zp_RX6 X, zl1_RX6 X, zl2_RX6 X, nilz, (List.forall_mem_cons.mpr ⟨zq_RX6_142 X (zM_769 hw hm) (by decide) rfl rfl, (List.forall_mem_cons.mpr ⟨zq_RX6_146 X (zM_980 hw hm) (by decide) rfl rfl, nilz⟩)⟩)⟩)
set_option maxRecDepth 100000 in
theorem zk_986 : zmeth zKS zuq zNS zm_986 4000 = true := by decide +kernel
theorem zM_986 {l : Launch} {D : va_G} {cI cZ cB cJ cR : ClassId} {ks ad : List Nat} {Psi : va_W → Prop} (hw : zworld ks ad zuq zNS Psi) (hm : zMan l D cI cZ cB cJ cR ks ad Psi) : zMet l D cI cZ cB cJ cR zKS ks ad Psi yX6_number_ (.code yX6_number_ cX6_number_ 5 (some .int)) 4 zc_986 :=
  zmet_of hw 4 (by decide) 4000 zk_986 (by decide) (by decide) (fun X => ⟨zg_RX6 X, zp_RX6 X, zl1_RX6 X, zl2_RX6 X, nilz, (List.forall_mem_cons.mpr ⟨zq_RX6_142 X (zM_769 hw hm) (by decide) rfl rfl, (List.forall_mem_cons.mpr ⟨zq_RX6_146 X (zM_981 hw hm) (by decide) rfl rfl, nilz⟩)⟩)⟩)
set_option maxRecDepth 100000 in
theorem zk_987 : zmeth zKS zuq zNS zm_987 4000 = true := by decide +kernel
theorem zM_987 {l : Launch} {D : va_G} {cI cZ cB cJ cR : ClassId} {ks ad : List Nat} {Psi : va_W → Prop} (hw : zworld ks ad zuq zNS Psi) (hm : zMan l D cI cZ cB cJ cR ks ad Psi) : zMet l D cI cZ cB cJ cR zKS ks ad Psi yX6_number_ (.code yX6_number_ cX6_number_ 5 (some .int)) 4 zc_987 :=
  zmet_of hw 4 (by decide) 4000 zk_987 (by decide) (by decide) (fun X => ⟨zg_RX6 X, zp_RX6 X, zl1_RX6 X, zl2_RX6 X, nilz, (List.forall_mem_cons.mpr ⟨zq_RX6_142 X (zM_769 hw hm) (by decide) rfl rfl, (List.forall_mem_cons.mpr ⟨zq_RX6_146 X (zM_983 hw hm) (by decide) rfl rfl, nilz⟩)⟩)⟩)
set_option maxRecDepth 100000 in
theorem zk_988 : zmeth zKS zuq zNS zm_988 4000 = true := by decide +kernel
theorem zM_988 {l : Launch} {D : va_G} {cI cZ cB cJ cR : ClassId} {ks ad : List Nat} {Psi : va_W → Prop} (hw : zworld ks ad zuq zNS Psi) (hm : zMan l D cI cZ cB cJ cR ks ad Psi) : zMet l D cI cZ cB cJ cR zKS ks ad Psi yX6_number_ (.code yX6_number_ cX6_number_ 5 (some .int)) 4 zc_988 :=
  zmet_of hw 4 (by decide) 4000 zk_988 (by decide) (by decide) (fun X => ⟨zg_RX6 X, zp_RX6 X, zl1_RX6 X, zl2_RX6 X, nilz, (List.forall_mem_cons.mpr ⟨zq_RX6_142 X (zM_769 hw hm) (by decide) rfl rfl, (List.forall_mem_cons.mpr ⟨zq_RX6_146 X (zM_978 hw hm) (by decide) rfl rfl, nilz⟩)⟩)⟩)
set_option maxRecDepth 100000 in
theorem zk_989 : zmeth zKS zuq zNS zm_989 4000 = true := by decide +kernel
theorem zM_989 {l : Launch} {D : va_G} {cI cZ cB cJ cR : ClassId} {ks ad : List Nat} {Psi : va_W → Prop} (hw : zworld ks ad zuq zNS Psi) (hm : zMan l D cI cZ cB cJ cR ks ad Psi) : zMet l D cI cZ cB cJ cR zKS ks ad Psi yX6_number_ (.code yX6_number_ cX6_number_ 5 (some .int)) 4 zc_989 :=
  zmet_of hw 4 (by decide) 4000 zk_989 (by decide) (by decide) (fun X => ⟨zg_RX6 X, zp_RX6 X, zl1_RX6 X, zl2_RX6 X, nilz, (List.forall_mem_cons.mpr ⟨zq_RX6_142 X (zM_769 hw hm) (by decide) rfl rfl, (List.forall_mem_cons.mpr ⟨zq_RX6_146 X (zM_984 hw hm) (by decide) rfl rfl, nilz⟩)⟩)⟩)
set_option maxRecDepth 100000 in
theorem zk_990 : zmeth zKS zuq zNS zm_990 4000 = true := by decide +kernel
theorem zM_990 {l : Launch} {D : va_G} {cI cZ cB cJ cR : ClassId} {ks ad : List Nat} {Psi : va_W → Prop} (hw : zworld ks ad zuq zNS Psi) (hm : zMan l D cI cZ cB cJ cR ks ad Psi) : zMet l D cI cZ cB cJ cR zKS ks ad Psi yX6_number_ (.code yX6_number_ cX6_number_ 5 (some .int)) 4 zc_990 :=
  zmet_of hw 4 (by decide) 4000 zk_990 (by decide) (by decide) (fun X => ⟨zg_RX6 X, zp_RX6 X, zl1_RX6 X, zl2_RX6 X, nilz, (List.forall_mem_cons.mpr ⟨zq_RX6_142 X (zM_769 hw hm) (by decide) rfl rfl, (List.forall_mem_cons.mpr ⟨zq_RX6_146 X (zM_982 hw hm) (by decide) rfl rfl, nilz⟩)⟩)⟩)
set_option maxRecDepth 100000 in
theorem zk_991 : zmeth zKS zuq zNS zm_991 4000 = true := by decide +kernel
theorem zM_991 {l : Launch} {D : va_G} {cI cZ cB cJ cR : ClassId} {ks ad : List Nat} {Psi : va_W → Prop} (hw : zworld ks ad zuq zNS Psi) (hm : zMan l D cI cZ cB cJ cR ks ad Psi) : zMet l D cI cZ cB cJ cR zKS ks ad Psi yX6_number_ (.code yX6_number_ cX6_number_ 5 (some .int)) 4 zc_991 :=
  zmet_of hw 4 (by decide) 4000 zk_991 (by decide) (by decide) (fun X => ⟨zg_RX6 X, zp_RX6 X, zl1_RX6 X, zl2_RX6 X, nilz, (List.forall_mem_cons.mpr ⟨zq_RX6_142 X (zM_769 hw hm) (by decide) rfl rfl, (List.forall_mem_cons.mpr ⟨zq_RX6_146 X (zM_976 hw hm) (by decide) rfl rfl, nilz⟩)⟩)⟩)
set_option maxRecDepth 100000 in
theorem zk_992 : zmeth zKS zuq zNS zm_992 4000 = true := by decide +kernel
theorem zM_992 {l : Launch} {D : va_G} {cI cZ cB cJ cR : ClassId} {ks ad : List Nat} {Psi : va_W → Prop} (hw : zworld ks ad zuq zNS Psi) (hm : zMan l D cI cZ cB cJ cR ks ad Psi) : zMet l D cI cZ cB cJ cR zKS ks ad Psi yX6_number_ (.code yX6_number_ cX6_number_ 5 (some .int)) 4 zc_992 :=
  zmet_of hw 4 (by decide) 4000 zk_992 (by decide) (by decide) (fun X => ⟨zg_RX6 X, zp_RX6 X, zl1_RX6 X, zl2_RX6 X, nilz, (List.forall_mem_cons.mpr ⟨zq_RX6_142 X (zM_769 hw hm) (by decide) rfl rfl, (List.forall_mem_cons.mpr ⟨zq_RX6_146 X (zM_974 hw hm) (by decide) rfl rfl, nilz⟩)⟩)⟩)
set_option maxRecDepth 100000 in
theorem zk_740 : zmeth zKS zuq zNS zm_740 4000 = true := by decide +kernel
theorem zM_740 {l : Launch} {D : va_G} {cI cZ cB cJ cR : ClassId} {ks ad : List Nat} {Psi : va_W → Prop} (hw : zworld ks ad zuq zNS Psi) (hm : zMan l D cI cZ cB cJ cR ks ad Psi) : zMet l D cI cZ cB cJ cR zKS ks ad Psi yX5_surveyed (.code yX5_surveyed cX5_surveyed 1 (some (.object "AlibiRota$Rotas"))) 5 zc_740 :=
  zmet_of hw 5 (by decide) 4000 zk_740 (by decide) (by decide) (fun X => ⟨zg_RX5 X, zp_RX5 X, zl1_RX5 X, zl2_RX5 X, nilz, (List.forall_mem_cons.mpr ⟨zq_RX5_352 X (zM_292 hw hm) (by decide) rfl rfl, nilz⟩)⟩)
set_option maxRecDepth 100000 in
theorem zk_751 : zmeth zKS zuq zNS zm_751 4000 = true := by decide +kernel
theorem zM_751 {l : Launch} {D : va_G} {cI cZ cB cJ cR : ClassId} {ks ad : List Nat} {Psi : va_W → Prop} (hw : zworld ks ad zuq zNS Psi) (hm : zMan l D cI cZ cB cJ cR ks ad Psi) : zMet l D cI cZ cB cJ cR zKS ks ad Psi yX5_trade (.code yX5_trade cX5_trade 6 (some .int)) 5 zc_751 :=
  zmet_of hw 5 (by decide) 4000 zk_751 (by decide) (by decide) (fun X => ⟨zg_RX5 X, zp_RX5 X, zl1_RX5 X, zl2_RX5 X, nilz, (List.forall_mem_cons.mpr ⟨zq_RX5_115 X (zM_231 hw hm) (by decide) rfl rfl, (List.forall_mem_cons.mpr ⟨zq_RX5_118 X (zM_224 hw hm) (by decide) rfl rfl, (List.forall_mem_cons.mpr ⟨zq_RX5_122 X (zM_240 hw hm) (by decide) rfl rfl, (List.forall_mem_cons.mpr ⟨zq_RX5_173 X (zM_239 hw hm) (by decide) rfl rfl, nilz⟩)⟩)⟩)⟩)⟩)
set_option maxRecDepth 100000 in
theorem zk_782 : zmeth zKS zuq zNS zm_782 4000 = true := by decide +kernel
theorem zM_782 {l : Launch} {D : va_G} {cI cZ cB cJ cR : ClassId} {ks ad : List Nat} {Psi : va_W → Prop} (hw : zworld ks ad zuq zNS Psi) (hm : zMan l D cI cZ cB cJ cR ks ad Psi) : zMet l D cI cZ cB cJ cR zKS ks ad Psi yX6_cityLine (.code yX6_cityLine cX6_cityLine 1 none) 5 zc_782 :=
  zmet_of hw 5 (by decide) 4000 zk_782 (by decide) (by decide) (fun X => ⟨zg_RX6 X, zp_RX6 X, zl1_RX6 X, zl2_RX6 X, nilz, (List.forall_mem_cons.mpr ⟨zq_RX6_142 X (zM_769 hw hm) (by decide) rfl rfl, (List.forall_mem_cons.mpr ⟨zq_RX6_159 X (zM_986 hw hm) (by decide) rfl rfl, (List.forall_mem_cons.mpr ⟨zq_RX6_159 X (zM_987 hw hm) (by decide) rfl rfl, (List.forall_mem_cons.mpr ⟨zq_RX6_159 X (zM_988 hw hm) (by decide) rfl rfl, (List.forall_mem_cons.mpr ⟨zq_RX6_159 X (zM_989 hw hm) (by decide) rfl rfl, (List.forall_mem_cons.mpr ⟨zq_RX6_159 X (zM_990 hw hm) (by decide) rfl rfl, (List.forall_mem_cons.mpr ⟨zq_RX6_159 X (zM_985 hw hm) (by decide) rfl rfl, (List.forall_mem_cons.mpr ⟨zq_RX6_164 X (zM_1080 hw hm) (by decide) rfl rfl, (List.forall_mem_cons.mpr ⟨zq_RX6_164 X (zM_1064 hw hm) (by decide) rfl rfl, (List.forall_mem_cons.mpr ⟨zq_RX6_164 X (zM_1077 hw hm) (by decide) rfl rfl, (List.forall_mem_cons.mpr ⟨zq_RX6_164 X (zM_1078 hw hm) (by decide) rfl rfl, (List.forall_mem_cons.mpr ⟨zq_RX6_164 X (zM_1082 hw hm) (by decide) rfl rfl, (List.forall_mem_cons.mpr ⟨zq_RX6_164 X (zM_1076 hw hm) (by decide) rfl rfl, (List.forall_mem_cons.mpr ⟨zq_RX6_164 X (zM_1079 hw hm) (by decide) rfl rfl, nilz⟩)⟩)⟩)⟩)⟩)⟩)⟩)⟩)⟩)⟩)⟩)⟩)⟩)⟩)⟩)
set_option maxRecDepth 100000 in
theorem zk_809 : zmeth zKS zuq zNS zm_809 4000 = true := by decide +kernel
theorem zM_809 {l : Launch} {D : va_G} {cI cZ cB cJ cR : ClassId} {ks ad : List Nat} {Psi : va_W → Prop} (hw : zworld ks ad zuq zNS Psi) (hm : zMan l D cI cZ cB cJ cR ks ad Psi) : zMet l D cI cZ cB cJ cR zKS ks ad Psi yX6_errandLine (.code yX6_errandLine cX6_errandLine 4 none) 5 zc_809 :=
  zmet_of hw 5 (by decide) 4000 zk_809 (by decide) (by decide) (fun X => ⟨zg_RX6 X, zp_RX6 X, zl1_RX6 X, zl2_RX6 X, nilz, (List.forall_mem_cons.mpr ⟨zq_RX6_146 X (zM_975 hw hm) (by decide) rfl rfl, (List.forall_mem_cons.mpr ⟨zq_RX6_153 X (zM_828 hw hm) (by decide) rfl rfl, (List.forall_mem_cons.mpr ⟨zq_RX6_153 X (zM_829 hw hm) (by decide) rfl rfl, (List.forall_mem_cons.mpr ⟨zq_RX6_153 X (zM_830 hw hm) (by decide) rfl rfl, (List.forall_mem_cons.mpr ⟨zq_RX6_159 X (zM_992 hw hm) (by decide) rfl rfl, (List.forall_mem_cons.mpr ⟨zq_RX6_159 X (zM_991 hw hm) (by decide) rfl rfl, (List.forall_mem_cons.mpr ⟨zq_RX6_170 X (zM_861 hw hm) (by decide) rfl rfl, nilz⟩)⟩)⟩)⟩)⟩)⟩)⟩)⟩)
set_option maxRecDepth 100000 in
theorem zk_972 : zmeth zKS zuq zNS zm_972 4000 = true := by decide +kernel
theorem zM_972 {l : Launch} {D : va_G} {cI cZ cB cJ cR : ClassId} {ks ad : List Nat} {Psi : va_W → Prop} (hw : zworld ks ad zuq zNS Psi) (hm : zMan l D cI cZ cB cJ cR ks ad Psi) : zMet l D cI cZ cB cJ cR zKS ks ad Psi yX6_mutual (.code yX6_mutual cX6_mutual 3 (some .int)) 5 zc_972 :=
  zmet_of hw 5 (by decide) 4000 zk_972 (by decide) (by decide) (fun X => ⟨zg_RX6 X, zp_RX6 X, zl1_RX6 X, zl2_RX6 X, nilz, (List.forall_mem_cons.mpr ⟨zq_RX6_227 X (zM_996 hw hm) (by decide) rfl rfl, (List.forall_mem_cons.mpr ⟨zq_RX6_270 X (zman_952 hm) (by decide) rfl rfl, (List.forall_mem_cons.mpr ⟨zq_RX6_276 X (zM_858 hw hm) (by decide) rfl rfl, nilz⟩)⟩)⟩)⟩)
set_option maxRecDepth 100000 in
theorem zk_997 : zmeth zKS zuq zNS zm_997 4000 = true := by decide +kernel
theorem zM_997 {l : Launch} {D : va_G} {cI cZ cB cJ cR : ClassId} {ks ad : List Nat} {Psi : va_W → Prop} (hw : zworld ks ad zuq zNS Psi) (hm : zMan l D cI cZ cB cJ cR ks ad Psi) : zMet l D cI cZ cB cJ cR zKS ks ad Psi yX6_personLine (.code yX6_personLine cX6_personLine 4 none) 5 zc_997 :=
  zmet_of hw 5 (by decide) 4000 zk_997 (by decide) (by decide) (fun X => ⟨zg_RX6 X, zp_RX6 X, zl1_RX6 X, zl2_RX6 X, nilz, (List.forall_mem_cons.mpr ⟨zq_RX6_136 X (zM_1061 hw hm) (by decide) rfl rfl, (List.forall_mem_cons.mpr ⟨zq_RX6_139 X (zM_811 hw hm) (by decide) rfl rfl, (List.forall_mem_cons.mpr ⟨zq_RX6_146 X (zM_979 hw hm) (by decide) rfl rfl, (List.forall_mem_cons.mpr ⟨zq_RX6_153 X (zM_828 hw hm) (by decide) rfl rfl, (List.forall_mem_cons.mpr ⟨zq_RX6_153 X (zM_830 hw hm) (by decide) rfl rfl, (List.forall_mem_cons.mpr ⟨zq_RX6_159 X (zM_991 hw hm) (by decide) rfl rfl, (List.forall_mem_cons.mpr ⟨zq_RX6_164 X (zM_1083 hw hm) (by decide) rfl rfl, nilz⟩)⟩)⟩)⟩)⟩)⟩)⟩)⟩)
set_option maxRecDepth 100000 in
theorem zk_999 : zmeth zKS zuq zNS zm_999 4000 = true := by decide +kernel
theorem zM_999 {l : Launch} {D : va_G} {cI cZ cB cJ cR : ClassId} {ks ad : List Nat} {Psi : va_W → Prop} (hw : zworld ks ad zuq zNS Psi) (hm : zMan l D cI cZ cB cJ cR ks ad Psi) : zMet l D cI cZ cB cJ cR zKS ks ad Psi yX6_ring (.code yX6_ring cX6_ring 2 (some .int)) 5 zc_999 :=
  zmet_of hw 5 (by decide) 4000 zk_999 (by decide) (by decide) (fun X => ⟨zg_RX6 X, zp_RX6 X, zl1_RX6 X, zl2_RX6 X, nilz, (List.forall_mem_cons.mpr ⟨zq_RX6_234 X (zM_865 hw hm) (by decide) rfl rfl, (List.forall_mem_cons.mpr ⟨zq_RX6_270 X (zman_952 hm) (by decide) rfl rfl, (List.forall_mem_cons.mpr ⟨zq_RX6_285 X (zman_1000 hm) (by decide) rfl rfl, nilz⟩)⟩)⟩)⟩)
set_option maxRecDepth 100000 in
theorem zk_1001 : zmeth zKS zuq zNS zm_1001 4000 = true := by decide +kernel
theorem zM_1001 {l : Launch} {D : va_G} {cI cZ cB cJ cR : ClassId} {ks ad : List Nat} {Psi : va_W → Prop} (hw : zworld ks ad zuq zNS Psi) (hm : zMan l D cI cZ cB cJ cR ks ad Psi) : zMet l D cI cZ cB cJ cR zKS ks ad Psi yX6_rings (.code yX6_rings cX6_rings 3 (some .int)) 5 zc_1001 :=
  zmet_of hw 5 (by decide) 4000 zk_1001 (by decide) (by decide) (fun X => ⟨zg_RX6 X, zp_RX6 X, zl1_RX6 X, zl2_RX6 X, nilz, (List.forall_mem_cons.mpr ⟨zq_RX6_227 X (zM_996 hw hm) (by decide) rfl rfl, (List.forall_mem_cons.mpr ⟨zq_RX6_270 X (zman_952 hm) (by decide) rfl rfl, (List.forall_mem_cons.mpr ⟨zq_RX6_276 X (zM_858 hw hm) (by decide) rfl rfl, (List.forall_mem_cons.mpr ⟨zq_RX6_285 X (zman_1000 hm) (by decide) rfl rfl, nilz⟩)⟩)⟩)⟩)⟩)
set_option maxRecDepth 100000 in
theorem zk_1057 : zmeth zKS zuq zNS zm_1057 4000 = true := by decide +kernel
theorem zM_1057 {l : Launch} {D : va_G} {cI cZ cB cJ cR : ClassId} {ks ad : List Nat} {Psi : va_W → Prop} (hw : zworld ks ad zuq zNS Psi) (hm : zMan l D cI cZ cB cJ cR ks ad Psi) : zMet l D cI cZ cB cJ cR zKS ks ad Psi yX6_swear (.code yX6_swear cX6_swear 3 (some .int)) 5 zc_1057 :=
  zmet_of hw 5 (by decide) 4000 zk_1057 (by decide) (by decide) (fun X => ⟨zg_RX6 X, zp_RX6 X, zl1_RX6 X, zl2_RX6 X, nilz, (List.forall_mem_cons.mpr ⟨zq_RX6_234 X (zM_865 hw hm) (by decide) rfl rfl, (List.forall_mem_cons.mpr ⟨zq_RX6_270 X (zman_952 hm) (by decide) rfl rfl, (List.forall_mem_cons.mpr ⟨zq_RX6_414 X (zM_859 hw hm) (by decide) rfl rfl, (List.forall_mem_cons.mpr ⟨zq_RX6_417 X (zman_761 hm) (by decide) rfl rfl, nilz⟩)⟩)⟩)⟩)⟩)
