set_option maxRecDepth 100000 in
theorem zk_0 : zmeth zKS zuq zNS zm_0 4000 = true := by decide +kernel
theorem zM_0 {l : Launch} {D : va_G} {cI cZ cB cJ cR : ClassId} {ks ad : List Nat} {Psi : va_W → Prop} (hw : zworld ks ad zuq zNS Psi) (hm : zMan l D cI cZ cB cJ cR ks ad Psi) : zMet l D cI cZ cB cJ cR zKS ks ad Psi yJ6_bitCount_0f7a4 (.code yJ6_bitCount_0f7a4 cJ6_bitCount_0f7a4 1 (some .int)) 0 zc_0 :=
  zmet_of hw 0 (by decide) 4000 zk_0 (by decide) (by decide) (fun X => ⟨zg_RJ6 X, zp_RJ6 X, zl1_RJ6 X, zl2_RJ6 X, nilz, nilz⟩)
set_option maxRecDepth 100000 in
theorem zk_227 : zmeth zKS zuq zNS zm_227 4000 = true := by decide +kernel
theorem zM_227 {l : Launch} {D : va_G} {cI cZ cB cJ cR : ClassId} {ks ad : List Nat} {Psi : va_W → Prop} (hw : zworld ks ad zuq zNS Psi) (hm : zMan l D cI cZ cB cJ cR ks ad Psi) : zMet l D cI cZ cB cJ cR zKS ks ad Psi yX0_clear (.code yX0_clear cX0_clear 2 none) 0 zc_227 :=
  zmet_of hw 0 (by decide) 4000 zk_227 (by decide) (by decide) (fun X => ⟨zg_RX0 X, zp_RX0 X, zl1_RX0 X, zl2_RX0 X, nilz, nilz⟩)
set_option maxRecDepth 100000 in
theorem zk_231 : zmeth zKS zuq zNS zm_231 4000 = true := by decide +kernel
theorem zM_231 {l : Launch} {D : va_G} {cI cZ cB cJ cR : ClassId} {ks ad : List Nat} {Psi : va_W → Prop} (hw : zworld ks ad zuq zNS Psi) (hm : zMan l D cI cZ cB cJ cR ks ad Psi) : zMet l D cI cZ cB cJ cR zKS ks ad Psi yX0_exists (.code yX0_exists cX0_exists 1 (some .boolean)) 0 zc_231 :=
  zmet_of hw 0 (by decide) 4000 zk_231 (by decide) (by decide) (fun X => ⟨zg_RX0 X, zp_RX0 X, zl1_RX0 X, zl2_RX0 X, nilz, nilz⟩)
set_option maxRecDepth 100000 in
theorem zk_235 : zmeth zKS zuq zNS zm_235 4000 = true := by decide +kernel
theorem zM_235 {l : Launch} {D : va_G} {cI cZ cB cJ cR : ClassId} {ks ad : List Nat} {Psi : va_W → Prop} (hw : zworld ks ad zuq zNS Psi) (hm : zMan l D cI cZ cB cJ cR ks ad Psi) : zMet l D cI cZ cB cJ cR zKS ks ad Psi yX0_forgetStrangers (.code yX0_forgetStrangers cX0_forgetStrangers 2 none) 0 zc_235 :=
  zmet_of hw 0 (by decide) 4000 zk_235 (by decide) (by decide) (fun X => ⟨zg_RX0 X, zp_RX0 X, zl1_RX0 X, zl2_RX0 X, nilz, nilz⟩)
set_option maxRecDepth 100000 in
theorem zk_242 : zmeth zKS zuq zNS zm_242 4000 = true := by decide +kernel
theorem zM_242 {l : Launch} {D : va_G} {cI cZ cB cJ cR : ClassId} {ks ad : List Nat} {Psi : va_W → Prop} (hw : zworld ks ad zuq zNS Psi) (hm : zMan l D cI cZ cB cJ cR ks ad Psi) : zMet l D cI cZ cB cJ cR zKS ks ad Psi yX0_hours (.code yX0_hours cX0_hours 1 (some .int)) 0 zc_242 :=
  zmet_of hw 0 (by decide) 4000 zk_242 (by decide) (by decide) (fun X => ⟨zg_RX0 X, zp_RX0 X, zl1_RX0 X, zl2_RX0 X, nilz, nilz⟩)
set_option maxRecDepth 100000 in
theorem zk_247 : zmeth zKS zuq zNS zm_247 4000 = true := by decide +kernel
theorem zM_247 {l : Launch} {D : va_G} {cI cZ cB cJ cR : ClassId} {ks ad : List Nat} {Psi : va_W → Prop} (hw : zworld ks ad zuq zNS Psi) (hm : zMan l D cI cZ cB cJ cR ks ad Psi) : zMet l D cI cZ cB cJ cR zKS ks ad Psi yX0_isPerson (.code yX0_isPerson cX0_isPerson 3 (some .boolean)) 0 zc_247 :=
  zmet_of hw 0 (by decide) 4000 zk_247 (by decide) (by decide) (fun X => ⟨zg_RX0 X, zp_RX0 X, zl1_RX0 X, zl2_RX0 X, nilz, nilz⟩)
set_option maxRecDepth 100000 in
theorem zk_256 : zmeth zKS zuq zNS zm_256 4000 = true := by decide +kernel
theorem zM_256 {l : Launch} {D : va_G} {cI cZ cB cJ cR : ClassId} {ks ad : List Nat} {Psi : va_W → Prop} (hw : zworld ks ad zuq zNS Psi) (hm : zMan l D cI cZ cB cJ cR ks ad Psi) : zMet l D cI cZ cB cJ cR zKS ks ad Psi yX0_placeOf (.code yX0_placeOf cX0_placeOf 3 (some .int)) 0 zc_256 :=
  zmet_of hw 0 (by decide) 4000 zk_256 (by decide) (by decide) (fun X => ⟨zg_RX0 X, zp_RX0 X, zl1_RX0 X, zl2_RX0 X, nilz, nilz⟩)
set_option maxRecDepth 100000 in
theorem zk_257 : zmeth zKS zuq zNS zm_257 4000 = true := by decide +kernel
theorem zM_257 {l : Launch} {D : va_G} {cI cZ cB cJ cR : ClassId} {ks ad : List Nat} {Psi : va_W → Prop} (hw : zworld ks ad zuq zNS Psi) (hm : zMan l D cI cZ cB cJ cR ks ad Psi) : zMet l D cI cZ cB cJ cR zKS ks ad Psi yX0_places (.code yX0_places cX0_places 1 (some .int)) 0 zc_257 :=
  zmet_of hw 0 (by decide) 4000 zk_257 (by decide) (by decide) (fun X => ⟨zg_RX0 X, zp_RX0 X, zl1_RX0 X, zl2_RX0 X, nilz, nilz⟩)
set_option maxRecDepth 100000 in
theorem zk_260 : zmeth zKS zuq zNS zm_260 4000 = true := by decide +kernel
theorem zM_260 {l : Launch} {D : va_G} {cI cZ cB cJ cR : ClassId} {ks ad : List Nat} {Psi : va_W → Prop} (hw : zworld ks ad zuq zNS Psi) (hm : zMan l D cI cZ cB cJ cR ks ad Psi) : zMet l D cI cZ cB cJ cR zKS ks ad Psi yX0_seenBits (.code yX0_seenBits cX0_seenBits 3 (some .int)) 0 zc_260 :=
  zmet_of hw 0 (by decide) 4000 zk_260 (by decide) (by decide) (fun X => ⟨zg_RX0 X, zp_RX0 X, zl1_RX0 X, zl2_RX0 X, nilz, nilz⟩)
set_option maxRecDepth 100000 in
theorem zk_264 : zmeth zKS zuq zNS zm_264 4000 = true := by decide +kernel
theorem zM_264 {l : Launch} {D : va_G} {cI cZ cB cJ cR : ClassId} {ks ad : List Nat} {Psi : va_W → Prop} (hw : zworld ks ad zuq zNS Psi) (hm : zMan l D cI cZ cB cJ cR ks ad Psi) : zMet l D cI cZ cB cJ cR zKS ks ad Psi yX0_send (.code yX0_send cX0_send 4 none) 0 zc_264 :=
  zmet_of hw 0 (by decide) 4000 zk_264 (by decide) (by decide) (fun X => ⟨zg_RX0 X, zp_RX0 X, zl1_RX0 X, zl2_RX0 X, nilz, nilz⟩)
set_option maxRecDepth 100000 in
theorem zk_265 : zmeth zKS zuq zNS zm_265 4000 = true := by decide +kernel
theorem zM_265 {l : Launch} {D : va_G} {cI cZ cB cJ cR : ClassId} {ks ad : List Nat} {Psi : va_W → Prop} (hw : zworld ks ad zuq zNS Psi) (hm : zMan l D cI cZ cB cJ cR ks ad Psi) : zMet l D cI cZ cB cJ cR zKS ks ad Psi yX0_swapOaths (.code yX0_swapOaths cX0_swapOaths 4 none) 0 zc_265 :=
  zmet_of hw 0 (by decide) 4000 zk_265 (by decide) (by decide) (fun X => ⟨zg_RX0 X, zp_RX0 X, zl1_RX0 X, zl2_RX0 X, nilz, nilz⟩)
set_option maxRecDepth 100000 in
theorem zk_267 : zmeth zKS zuq zNS zm_267 4000 = true := by decide +kernel
theorem zM_267 {l : Launch} {D : va_G} {cI cZ cB cJ cR : ClassId} {ks ad : List Nat} {Psi : va_W → Prop} (hw : zworld ks ad zuq zNS Psi) (hm : zMan l D cI cZ cB cJ cR ks ad Psi) : zMet l D cI cZ cB cJ cR zKS ks ad Psi yX0_swearersOf (.code yX0_swearersOf cX0_swearersOf 4 (some .int)) 0 zc_267 :=
  zmet_of hw 0 (by decide) 4000 zk_267 (by decide) (by decide) (fun X => ⟨zg_RX0 X, zp_RX0 X, zl1_RX0 X, zl2_RX0 X, nilz, nilz⟩)
set_option maxRecDepth 100000 in
theorem zk_273 : zmeth zKS zuq zNS zm_273 4000 = true := by decide +kernel
theorem zM_273 {l : Launch} {D : va_G} {cI cZ cB cJ cR : ClassId} {ks ad : List Nat} {Psi : va_W → Prop} (hw : zworld ks ad zuq zNS Psi) (hm : zMan l D cI cZ cB cJ cR ks ad Psi) : zMet l D cI cZ cB cJ cR zKS ks ad Psi yX1_keepBetter (.code yX1_keepBetter cX1_keepBetter 4 none) 0 zc_273 :=
  zmet_of hw 0 (by decide) 4000 zk_273 (by decide) (by decide) (fun X => ⟨zg_RX1 X, zp_RX1 X, zl1_RX1 X, zl2_RX1 X, nilz, nilz⟩)
set_option maxRecDepth 100000 in
theorem zk_286 : zmeth zKS zuq zNS zm_286 4000 = true := by decide +kernel
theorem zM_286 {l : Launch} {D : va_G} {cI cZ cB cJ cR : ClassId} {ks ad : List Nat} {Psi : va_W → Prop} (hw : zworld ks ad zuq zNS Psi) (hm : zMan l D cI cZ cB cJ cR ks ad Psi) : zMet l D cI cZ cB cJ cR zKS ks ad Psi yX2_expect (.code yX2_expect cX2_expect 4 none) 0 zc_286 :=
  zmet_of hw 0 (by decide) 4000 zk_286 (by decide) (by decide) (fun X => ⟨zg_RX2 X, zp_RX2 X, zl1_RX2 X, zl2_RX2 X, nilz, nilz⟩)
set_option maxRecDepth 100000 in
theorem zk_287 : zmeth zKS zuq zNS zm_287 4000 = true := by decide +kernel
theorem zM_287 {l : Launch} {D : va_G} {cI cZ cB cJ cR : ClassId} {ks ad : List Nat} {Psi : va_W → Prop} (hw : zworld ks ad zuq zNS Psi) (hm : zMan l D cI cZ cB cJ cR ks ad Psi) : zMet l D cI cZ cB cJ cR zKS ks ad Psi yX2_expectNothing (.code yX2_expectNothing cX2_expectNothing 2 none) 0 zc_287 :=
  zmet_of hw 0 (by decide) 4000 zk_287 (by decide) (by decide) (fun X => ⟨zg_RX2 X, zp_RX2 X, zl1_RX2 X, zl2_RX2 X, nilz, nilz⟩)
set_option maxRecDepth 100000 in
theorem zk_291 : zmeth zKS zuq zNS zm_291 4000 = true := by decide +kernel
theorem zM_291 {l : Launch} {D : va_G} {cI cZ cB cJ cR : ClassId} {ks ad : List Nat} {Psi : va_W → Prop} (hw : zworld ks ad zuq zNS Psi) (hm : zMan l D cI cZ cB cJ cR ks ad Psi) : zMet l D cI cZ cB cJ cR zKS ks ad Psi yX2_isAsExpected (.code yX2_isAsExpected cX2_isAsExpected 3 (some .boolean)) 0 zc_291 :=
  zmet_of hw 0 (by decide) 4000 zk_291 (by decide) (by decide) (fun X => ⟨zg_RX2 X, zp_RX2 X, zl1_RX2 X, zl2_RX2 X, nilz, nilz⟩)
set_option maxRecDepth 100000 in
theorem zk_294 : zmeth zKS zuq zNS zm_294 4000 = true := by decide +kernel
theorem zM_294 {l : Launch} {D : va_G} {cI cZ cB cJ cR : ClassId} {ks ad : List Nat} {Psi : va_W → Prop} (hw : zworld ks ad zuq zNS Psi) (hm : zMan l D cI cZ cB cJ cR ks ad Psi) : zMet l D cI cZ cB cJ cR zKS ks ad Psi yX3_cut (.code yX3_cut cX3_cut 3 (some .long)) 0 zc_294 :=
  zmet_of hw 0 (by decide) 4000 zk_294 (by decide) (by decide) (fun X => ⟨zg_RX3 X, zp_RX3 X, zl1_RX3 X, zl2_RX3 X, nilz, nilz⟩)
set_option maxRecDepth 100000 in
theorem zk_295 : zmeth zKS zuq zNS zm_295 4000 = true := by decide +kernel
theorem zM_295 {l : Launch} {D : va_G} {cI cZ cB cJ cR : ClassId} {ks ad : List Nat} {Psi : va_W → Prop} (hw : zworld ks ad zuq zNS Psi) (hm : zMan l D cI cZ cB cJ cR ks ad Psi) : zMet l D cI cZ cB cJ cR zKS ks ad Psi yX3_hasRow (.code yX3_hasRow cX3_hasRow 2 (some .boolean)) 0 zc_295 :=
  zmet_of hw 0 (by decide) 4000 zk_295 (by decide) (by decide) (fun X => ⟨zg_RX3 X, zp_RX3 X, zl1_RX3 X, zl2_RX3 X, nilz, nilz⟩)
set_option maxRecDepth 100000 in
theorem zk_296 : zmeth zKS zuq zNS zm_296 4000 = true := by decide +kernel
theorem zM_296 {l : Launch} {D : va_G} {cI cZ cB cJ cR : ClassId} {ks ad : List Nat} {Psi : va_W → Prop} (hw : zworld ks ad zuq zNS Psi) (hm : zMan l D cI cZ cB cJ cR ks ad Psi) : zMet l D cI cZ cB cJ cR zKS ks ad Psi yX3_isSlot (.code yX3_isSlot cX3_isSlot 2 (some .boolean)) 0 zc_296 :=
  zmet_of hw 0 (by decide) 4000 zk_296 (by decide) (by decide) (fun X => ⟨zg_RX3 X, zp_RX3 X, zl1_RX3 X, zl2_RX3 X, nilz, nilz⟩)
set_option maxRecDepth 100000 in
theorem zk_298 : zmeth zKS zuq zNS zm_298 4000 = true := by decide +kernel
theorem zM_298 {l : Launch} {D : va_G} {cI cZ cB cJ cR : ClassId} {ks ad : List Nat} {Psi : va_W → Prop} (hw : zworld ks ad zuq zNS Psi) (hm : zMan l D cI cZ cB cJ cR ks ad Psi) : zMet l D cI cZ cB cJ cR zKS ks ad Psi yX3_manyRows (.code yX3_manyRows cX3_manyRows 3 (some .int)) 0 zc_298 :=
  zmet_of hw 0 (by decide) 4000 zk_298 (by decide) (by decide) (fun X => ⟨zg_RX3 X, zp_RX3 X, zl1_RX3 X, zl2_RX3 X, nilz, nilz⟩)
set_option maxRecDepth 100000 in
theorem zk_299 : zmeth zKS zuq zNS zm_299 4000 = true := by decide +kernel
theorem zM_299 {l : Launch} {D : va_G} {cI cZ cB cJ cR : ClassId} {ks ad : List Nat} {Psi : va_W → Prop} (hw : zworld ks ad zuq zNS Psi) (hm : zMan l D cI cZ cB cJ cR ks ad Psi) : zMet l D cI cZ cB cJ cR zKS ks ad Psi yX3_number (.code yX3_number cX3_number 3 (some .long)) 0 zc_299 :=
  zmet_of hw 0 (by decide) 4000 zk_299 (by decide) (by decide) (fun X => ⟨zg_RX3 X, zp_RX3 X, zl1_RX3 X, zl2_RX3 X, nilz, nilz⟩)
set_option maxRecDepth 100000 in
theorem zk_300 : zmeth zKS zuq zNS zm_300 4000 = true := by decide +kernel
theorem zM_300 {l : Launch} {D : va_G} {cI cZ cB cJ cR : ClassId} {ks ad : List Nat} {Psi : va_W → Prop} (hw : zworld ks ad zuq zNS Psi) (hm : zMan l D cI cZ cB cJ cR ks ad Psi) : zMet l D cI cZ cB cJ cR zKS ks ad Psi yX3_number (.code yX3_number cX3_number 3 (some .long)) 0 zc_300 :=
  zmet_of hw 0 (by decide) 4000 zk_300 (by decide) (by decide) (fun X => ⟨zg_RX3 X, zp_RX3 X, zl1_RX3 X, zl2_RX3 X, nilz, nilz⟩)
set_option maxRecDepth 100000 in
theorem zk_301 : zmeth zKS zuq zNS zm_301 4000 = true := by decide +kernel
theorem zM_301 {l : Launch} {D : va_G} {cI cZ cB cJ cR : ClassId} {ks ad : List Nat} {Psi : va_W → Prop} (hw : zworld ks ad zuq zNS Psi) (hm : zMan l D cI cZ cB cJ cR ks ad Psi) : zMet l D cI cZ cB cJ cR zKS ks ad Psi yX3_number (.code yX3_number cX3_number 3 (some .long)) 0 zc_301 :=
  zmet_of hw 0 (by decide) 4000 zk_301 (by decide) (by decide) (fun X => ⟨zg_RX3 X, zp_RX3 X, zl1_RX3 X, zl2_RX3 X, nilz, nilz⟩)
set_option maxRecDepth 100000 in
theorem zk_302 : zmeth zKS zuq zNS zm_302 4000 = true := by decide +kernel
theorem zM_302 {l : Launch} {D : va_G} {cI cZ cB cJ cR : ClassId} {ks ad : List Nat} {Psi : va_W → Prop} (hw : zworld ks ad zuq zNS Psi) (hm : zMan l D cI cZ cB cJ cR ks ad Psi) : zMet l D cI cZ cB cJ cR zKS ks ad Psi yX3_number (.code yX3_number cX3_number 3 (some .long)) 0 zc_302 :=
  zmet_of hw 0 (by decide) 4000 zk_302 (by decide) (by decide) (fun X => ⟨zg_RX3 X, zp_RX3 X, zl1_RX3 X, zl2_RX3 X, nilz, nilz⟩)
set_option maxRecDepth 100000 in
theorem zk_303 : zmeth zKS zuq zNS zm_303 4000 = true := by decide +kernel
theorem zM_303 {l : Launch} {D : va_G} {cI cZ cB cJ cR : ClassId} {ks ad : List Nat} {Psi : va_W → Prop} (hw : zworld ks ad zuq zNS Psi) (hm : zMan l D cI cZ cB cJ cR ks ad Psi) : zMet l D cI cZ cB cJ cR zKS ks ad Psi yX3_number (.code yX3_number cX3_number 3 (some .long)) 0 zc_303 :=
  zmet_of hw 0 (by decide) 4000 zk_303 (by decide) (by decide) (fun X => ⟨zg_RX3 X, zp_RX3 X, zl1_RX3 X, zl2_RX3 X, nilz, nilz⟩)
set_option maxRecDepth 100000 in
theorem zk_304 : zmeth zKS zuq zNS zm_304 4000 = true := by decide +kernel
theorem zM_304 {l : Launch} {D : va_G} {cI cZ cB cJ cR : ClassId} {ks ad : List Nat} {Psi : va_W → Prop} (hw : zworld ks ad zuq zNS Psi) (hm : zMan l D cI cZ cB cJ cR ks ad Psi) : zMet l D cI cZ cB cJ cR zKS ks ad Psi yX3_number (.code yX3_number cX3_number 3 (some .long)) 0 zc_304 :=
  zmet_of hw 0 (by decide) 4000 zk_304 (by decide) (by decide) (fun X => ⟨zg_RX3 X, zp_RX3 X, zl1_RX3 X, zl2_RX3 X, nilz, nilz⟩)
set_option maxRecDepth 100000 in
theorem zk_305 : zmeth zKS zuq zNS zm_305 4000 = true := by decide +kernel
theorem zM_305 {l : Launch} {D : va_G} {cI cZ cB cJ cR : ClassId} {ks ad : List Nat} {Psi : va_W → Prop} (hw : zworld ks ad zuq zNS Psi) (hm : zMan l D cI cZ cB cJ cR ks ad Psi) : zMet l D cI cZ cB cJ cR zKS ks ad Psi yX3_number (.code yX3_number cX3_number 3 (some .long)) 0 zc_305 :=
  zmet_of hw 0 (by decide) 4000 zk_305 (by decide) (by decide) (fun X => ⟨zg_RX3 X, zp_RX3 X, zl1_RX3 X, zl2_RX3 X, nilz, nilz⟩)
set_option maxRecDepth 100000 in
theorem zk_306 : zmeth zKS zuq zNS zm_306 4000 = true := by decide +kernel
theorem zM_306 {l : Launch} {D : va_G} {cI cZ cB cJ cR : ClassId} {ks ad : List Nat} {Psi : va_W → Prop} (hw : zworld ks ad zuq zNS Psi) (hm : zMan l D cI cZ cB cJ cR ks ad Psi) : zMet l D cI cZ cB cJ cR zKS ks ad Psi yX3_number (.code yX3_number cX3_number 3 (some .long)) 0 zc_306 :=
  zmet_of hw 0 (by decide) 4000 zk_306 (by decide) (by decide) (fun X => ⟨zg_RX3 X, zp_RX3 X, zl1_RX3 X, zl2_RX3 X, nilz, nilz⟩)
set_option maxRecDepth 100000 in
theorem zk_307 : zmeth zKS zuq zNS zm_307 4000 = true := by decide +kernel
theorem zM_307 {l : Launch} {D : va_G} {cI cZ cB cJ cR : ClassId} {ks ad : List Nat} {Psi : va_W → Prop} (hw : zworld ks ad zuq zNS Psi) (hm : zMan l D cI cZ cB cJ cR ks ad Psi) : zMet l D cI cZ cB cJ cR zKS ks ad Psi yX3_number (.code yX3_number cX3_number 3 (some .long)) 0 zc_307 :=
  zmet_of hw 0 (by decide) 4000 zk_307 (by decide) (by decide) (fun X => ⟨zg_RX3 X, zp_RX3 X, zl1_RX3 X, zl2_RX3 X, nilz, nilz⟩)
set_option maxRecDepth 100000 in
theorem zk_308 : zmeth zKS zuq zNS zm_308 4000 = true := by decide +kernel
theorem zM_308 {l : Launch} {D : va_G} {cI cZ cB cJ cR : ClassId} {ks ad : List Nat} {Psi : va_W → Prop} (hw : zworld ks ad zuq zNS Psi) (hm : zMan l D cI cZ cB cJ cR ks ad Psi) : zMet l D cI cZ cB cJ cR zKS ks ad Psi yX3_number (.code yX3_number cX3_number 3 (some .long)) 0 zc_308 :=
  zmet_of hw 0 (by decide) 4000 zk_308 (by decide) (by decide) (fun X => ⟨zg_RX3 X, zp_RX3 X, zl1_RX3 X, zl2_RX3 X, nilz, nilz⟩)
set_option maxRecDepth 100000 in
theorem zk_309 : zmeth zKS zuq zNS zm_309 4000 = true := by decide +kernel
theorem zM_309 {l : Launch} {D : va_G} {cI cZ cB cJ cR : ClassId} {ks ad : List Nat} {Psi : va_W → Prop} (hw : zworld ks ad zuq zNS Psi) (hm : zMan l D cI cZ cB cJ cR ks ad Psi) : zMet l D cI cZ cB cJ cR zKS ks ad Psi yX3_number (.code yX3_number cX3_number 3 (some .long)) 0 zc_309 :=
  zmet_of hw 0 (by decide) 4000 zk_309 (by decide) (by decide) (fun X => ⟨zg_RX3 X, zp_RX3 X, zl1_RX3 X, zl2_RX3 X, nilz, nilz⟩)
set_option maxRecDepth 100000 in
theorem zk_310 : zmeth zKS zuq zNS zm_310 4000 = true := by decide +kernel
theorem zM_310 {l : Launch} {D : va_G} {cI cZ cB cJ cR : ClassId} {ks ad : List Nat} {Psi : va_W → Prop} (hw : zworld ks ad zuq zNS Psi) (hm : zMan l D cI cZ cB cJ cR ks ad Psi) : zMet l D cI cZ cB cJ cR zKS ks ad Psi yX3_number (.code yX3_number cX3_number 3 (some .long)) 0 zc_310 :=
  zmet_of hw 0 (by decide) 4000 zk_310 (by decide) (by decide) (fun X => ⟨zg_RX3 X, zp_RX3 X, zl1_RX3 X, zl2_RX3 X, nilz, nilz⟩)
set_option maxRecDepth 100000 in
theorem zk_311 : zmeth zKS zuq zNS zm_311 4000 = true := by decide +kernel
theorem zM_311 {l : Launch} {D : va_G} {cI cZ cB cJ cR : ClassId} {ks ad : List Nat} {Psi : va_W → Prop} (hw : zworld ks ad zuq zNS Psi) (hm : zMan l D cI cZ cB cJ cR ks ad Psi) : zMet l D cI cZ cB cJ cR zKS ks ad Psi yX3_number (.code yX3_number cX3_number 3 (some .long)) 0 zc_311 :=
  zmet_of hw 0 (by decide) 4000 zk_311 (by decide) (by decide) (fun X => ⟨zg_RX3 X, zp_RX3 X, zl1_RX3 X, zl2_RX3 X, nilz, nilz⟩)
set_option maxRecDepth 100000 in
theorem zk_312 : zmeth zKS zuq zNS zm_312 4000 = true := by decide +kernel
theorem zM_312 {l : Launch} {D : va_G} {cI cZ cB cJ cR : ClassId} {ks ad : List Nat} {Psi : va_W → Prop} (hw : zworld ks ad zuq zNS Psi) (hm : zMan l D cI cZ cB cJ cR ks ad Psi) : zMet l D cI cZ cB cJ cR zKS ks ad Psi yX3_number (.code yX3_number cX3_number 3 (some .long)) 0 zc_312 :=
  zmet_of hw 0 (by decide) 4000 zk_312 (by decide) (by decide) (fun X => ⟨zg_RX3 X, zp_RX3 X, zl1_RX3 X, zl2_RX3 X, nilz, nilz⟩)
set_option maxRecDepth 100000 in
theorem zk_313 : zmeth zKS zuq zNS zm_313 4000 = true := by decide +kernel
theorem zM_313 {l : Launch} {D : va_G} {cI cZ cB cJ cR : ClassId} {ks ad : List Nat} {Psi : va_W → Prop} (hw : zworld ks ad zuq zNS Psi) (hm : zMan l D cI cZ cB cJ cR ks ad Psi) : zMet l D cI cZ cB cJ cR zKS ks ad Psi yX3_number (.code yX3_number cX3_number 3 (some .long)) 0 zc_313 :=
  zmet_of hw 0 (by decide) 4000 zk_313 (by decide) (by decide) (fun X => ⟨zg_RX3 X, zp_RX3 X, zl1_RX3 X, zl2_RX3 X, nilz, nilz⟩)
set_option maxRecDepth 100000 in
theorem zk_314 : zmeth zKS zuq zNS zm_314 4000 = true := by decide +kernel
theorem zM_314 {l : Launch} {D : va_G} {cI cZ cB cJ cR : ClassId} {ks ad : List Nat} {Psi : va_W → Prop} (hw : zworld ks ad zuq zNS Psi) (hm : zMan l D cI cZ cB cJ cR ks ad Psi) : zMet l D cI cZ cB cJ cR zKS ks ad Psi yX3_number (.code yX3_number cX3_number 3 (some .long)) 0 zc_314 :=
  zmet_of hw 0 (by decide) 4000 zk_314 (by decide) (by decide) (fun X => ⟨zg_RX3 X, zp_RX3 X, zl1_RX3 X, zl2_RX3 X, nilz, nilz⟩)
set_option maxRecDepth 100000 in
theorem zk_315 : zmeth zKS zuq zNS zm_315 4000 = true := by decide +kernel
theorem zM_315 {l : Launch} {D : va_G} {cI cZ cB cJ cR : ClassId} {ks ad : List Nat} {Psi : va_W → Prop} (hw : zworld ks ad zuq zNS Psi) (hm : zMan l D cI cZ cB cJ cR ks ad Psi) : zMet l D cI cZ cB cJ cR zKS ks ad Psi yX3_number (.code yX3_number cX3_number 3 (some .long)) 0 zc_315 :=
  zmet_of hw 0 (by decide) 4000 zk_315 (by decide) (by decide) (fun X => ⟨zg_RX3 X, zp_RX3 X, zl1_RX3 X, zl2_RX3 X, nilz, nilz⟩)
set_option maxRecDepth 100000 in
theorem zk_316 : zmeth zKS zuq zNS zm_316 4000 = true := by decide +kernel
theorem zM_316 {l : Launch} {D : va_G} {cI cZ cB cJ cR : ClassId} {ks ad : List Nat} {Psi : va_W → Prop} (hw : zworld ks ad zuq zNS Psi) (hm : zMan l D cI cZ cB cJ cR ks ad Psi) : zMet l D cI cZ cB cJ cR zKS ks ad Psi yX3_number (.code yX3_number cX3_number 3 (some .long)) 0 zc_316 :=
  zmet_of hw 0 (by decide) 4000 zk_316 (by decide) (by decide) (fun X => ⟨zg_RX3 X, zp_RX3 X, zl1_RX3 X, zl2_RX3 X, nilz, nilz⟩)
set_option maxRecDepth 100000 in
theorem zk_317 : zmeth zKS zuq zNS zm_317 4000 = true := by decide +kernel
theorem zM_317 {l : Launch} {D : va_G} {cI cZ cB cJ cR : ClassId} {ks ad : List Nat} {Psi : va_W → Prop} (hw : zworld ks ad zuq zNS Psi) (hm : zMan l D cI cZ cB cJ cR ks ad Psi) : zMet l D cI cZ cB cJ cR zKS ks ad Psi yX3_number (.code yX3_number cX3_number 3 (some .long)) 0 zc_317 :=
  zmet_of hw 0 (by decide) 4000 zk_317 (by decide) (by decide) (fun X => ⟨zg_RX3 X, zp_RX3 X, zl1_RX3 X, zl2_RX3 X, nilz, nilz⟩)
set_option maxRecDepth 100000 in
theorem zk_318 : zmeth zKS zuq zNS zm_318 4000 = true := by decide +kernel
theorem zM_318 {l : Launch} {D : va_G} {cI cZ cB cJ cR : ClassId} {ks ad : List Nat} {Psi : va_W → Prop} (hw : zworld ks ad zuq zNS Psi) (hm : zMan l D cI cZ cB cJ cR ks ad Psi) : zMet l D cI cZ cB cJ cR zKS ks ad Psi yX3_number (.code yX3_number cX3_number 3 (some .long)) 0 zc_318 :=
  zmet_of hw 0 (by decide) 4000 zk_318 (by decide) (by decide) (fun X => ⟨zg_RX3 X, zp_RX3 X, zl1_RX3 X, zl2_RX3 X, nilz, nilz⟩)
