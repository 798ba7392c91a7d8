/-- X5_back -/
def zc_1191 : zcon := ([(7, 0, 0), (0, (-2147483648), (-1))], some (0, (-2), (-2)), [], [], [], [], [])
/-- X5_back -/
def zc_1195 : zcon := ([(7, 0, 0), (0, 3, 2147483647)], some (0, (-2), (-2)), [], [], [], [], [])
/-- X5_image -/
def zc_1196 : zcon := ([(7, 0, 0), (0, (-2147483648), (-1))], some (0, (-2), (-2)), [], [], [], [], [])
/-- X5_image -/
def zc_1200 : zcon := ([(7, 0, 0), (0, 3, 2147483647)], some (0, (-2), (-2)), [], [], [], [], [])
/-- X6_in -/
def zc_1211 : zcon := ([(1, (-2147483648), (-1)), (1, 0, 0), (1, 2, 2)], some (0, 0, 0), [], [], [], [], [])
/-- X6_in -/
def zc_1212 : zcon := ([(1, 0, 0), (1, 0, 0), (1, 2, 2)], some (0, 1, 1), [], [], [], [], [])
/-- X6_in -/
def zc_1213 : zcon := ([(1, 1, 1), (1, 0, 0), (1, 2, 2)], some (0, 1, 1), [], [], [], [], [])
/-- X6_in -/
def zc_1214 : zcon := ([(1, 2, 2), (1, 0, 0), (1, 2, 2)], some (0, 1, 1), [], [], [], [], [])
/-- X6_in -/
def zc_1215 : zcon := ([(1, 3, 2147483647), (1, 0, 0), (1, 2, 2)], some (0, 0, 0), [], [], [], [], [])
/-- X6_back -/
def zc_1201 : zcon := ([(8, 0, 0), (0, (-2147483648), (-1))], some (0, (-2), (-2)), [], [], [], [(6, 0)], [])
/-- X6_back -/
def zc_1205 : zcon := ([(8, 0, 0), (0, 3, 2147483647)], some (0, (-2), (-2)), [], [], [], [(6, 0)], [])
/-- X6_image -/
def zc_1206 : zcon := ([(8, 0, 0), (0, (-2147483648), (-1))], some (0, (-2), (-2)), [], [], [], [(6, 0)], [])
/-- X6_image -/
def zc_1210 : zcon := ([(8, 0, 0), (0, 3, 2147483647)], some (0, (-2), (-2)), [], [], [], [(6, 0)], [])
/-- X5_image -/
def zc_1197 : zcon := ([(7, 0, 0), (0, 0, 0)], some (0, 0, 0), [], [(35, 1000, 1, 1)], [], [(0, 1), (0, 2), (0, 3), (0, 9), (35, 1000)], [])
/-- X5_image -/
def zc_1198 : zcon := ([(7, 0, 0), (0, 1, 1)], some (0, 0, 0), [], [(35, 1001, 1, 1)], [], [(0, 1), (0, 2), (0, 3), (0, 9), (35, 1001)], [])
/-- X5_image -/
def zc_1199 : zcon := ([(7, 0, 0), (0, 2, 2)], some (0, 0, 0), [], [(35, 1002, 1, 1)], [], [(0, 1), (0, 2), (0, 3), (0, 9), (35, 1002)], [])
/-- X5_back -/
def zc_1192 : zcon := ([(7, 0, 0), (0, 0, 0)], some (0, (-6), 0), [(35, 1000)], [], [([(4, 0)], 3, 0, 1), ([(4, 1)], 0, 3, 0), ([(3, 0)], 4, 0, (-6)), ([(3, 0)], 0, 4, 6), ([(3, 1)], 4, 0, 0), ([(3, 1)], 0, 4, 0)], [(0, 1), (0, 2), (0, 3), (0, 9), (2, 9)], [])
/-- X5_back -/
def zc_1193 : zcon := ([(7, 0, 0), (0, 1, 1)], some (0, (-6), 0), [(35, 1001)], [], [([(4, 0)], 3, 0, 1), ([(4, 1)], 0, 3, 0), ([(3, 0)], 4, 0, (-6)), ([(3, 0)], 0, 4, 6), ([(3, 1)], 4, 0, 0), ([(3, 1)], 0, 4, 0)], [(0, 1), (0, 2), (0, 3), (0, 9), (2, 9)], [])
/-- X5_back -/
def zc_1194 : zcon := ([(7, 0, 0), (0, 2, 2)], some (0, (-6), 0), [(35, 1002)], [], [([(4, 0)], 3, 0, 1), ([(4, 1)], 0, 3, 0), ([(3, 0)], 4, 0, (-6)), ([(3, 0)], 0, 4, 6), ([(3, 1)], 4, 0, 0), ([(3, 1)], 0, 4, 0)], [(0, 1), (0, 2), (0, 3), (0, 9), (2, 9)], [])
/-- X6_back -/
def zc_1202 : zcon := ([(8, 0, 0), (0, 0, 0)], some (0, (-6), 0), [(46, 1000)], [], [([(4, 0)], 3, 0, 1), ([(4, 1)], 0, 3, 0), ([(3, 0)], 4, 0, (-6)), ([(3, 0)], 0, 4, 6), ([(3, 1)], 4, 0, 0), ([(3, 1)], 0, 4, 0)], ([(6, 0)] ++ zrun 42 1000 1 40), [])
/-- X6_back -/
def zc_1203 : zcon := ([(8, 0, 0), (0, 1, 1)], some (0, (-6), 0), [(46, 1001)], [], [([(4, 0)], 3, 0, 1), ([(4, 1)], 0, 3, 0), ([(3, 0)], 4, 0, (-6)), ([(3, 0)], 0, 4, 6), ([(3, 1)], 4, 0, 0), ([(3, 1)], 0, 4, 0)], ([(6, 0)] ++ zrun 42 1000 1 40), [])
/-- X6_back -/
def zc_1204 : zcon := ([(8, 0, 0), (0, 2, 2)], some (0, (-6), 0), [(46, 1002)], [], [([(4, 0)], 3, 0, 1), ([(4, 1)], 0, 3, 0), ([(3, 0)], 4, 0, (-6)), ([(3, 0)], 0, 4, 6), ([(3, 1)], 4, 0, 0), ([(3, 1)], 0, 4, 0)], ([(6, 0)] ++ zrun 42 1000 1 40), [])
/-- X6_image -/
def zc_1207 : zcon := ([(8, 0, 0), (0, 0, 0)], some (0, 0, 0), [], [(46, 1000, 1, 1)], [], ([(6, 0)] ++ zrun 42 1000 1 40 ++ [(46, 1000)]), [])
/-- X6_image -/
def zc_1208 : zcon := ([(8, 0, 0), (0, 1, 1)], some (0, 0, 0), [], [(46, 1001, 1, 1)], [], ([(6, 0)] ++ zrun 42 1000 1 40 ++ [(46, 1001)]), [])
/-- X6_image -/
def zc_1209 : zcon := ([(8, 0, 0), (0, 2, 2)], some (0, 0, 0), [], [(46, 1002, 1, 1)], [], ([(6, 0)] ++ zrun 42 1000 1 40 ++ [(46, 1002)]), [])
def zm_1191 : zC := (cX5_back, 2, zc_1191, (zfl_RX5, zwl_RX5), (zk1_RX5, zk2_RX5, []), [], [], [])
def zm_1195 : zC := (cX5_back, 2, zc_1195, (zfl_RX5, zwl_RX5), (zk1_RX5, zk2_RX5, []), [], [], [])
def zm_1196 : zC := (cX5_image, 2, zc_1196, (zfl_RX5, zwl_RX5), (zk1_RX5, zk2_RX5, []), [], [], [])
def zm_1200 : zC := (cX5_image, 2, zc_1200, (zfl_RX5, zwl_RX5), (zk1_RX5, zk2_RX5, []), [], [], [])
def zm_1211 : zC := (cX6_in, 6, zc_1211, (zfl_RX6, zwl_RX6), (zk1_RX6, zk2_RX6, []), [], [], [])
def zm_1212 : zC := (cX6_in, 6, zc_1212, (zfl_RX6, zwl_RX6), (zk1_RX6, zk2_RX6, []), [], [], [])
def zm_1213 : zC := (cX6_in, 6, zc_1213, (zfl_RX6, zwl_RX6), (zk1_RX6, zk2_RX6, []), [], [], [])
def zm_1214 : zC := (cX6_in, 6, zc_1214, (zfl_RX6, zwl_RX6), (zk1_RX6, zk2_RX6, []), [], [], [])
def zm_1215 : zC := (cX6_in, 6, zc_1215, (zfl_RX6, zwl_RX6), (zk1_RX6, zk2_RX6, []), [], [], [])
def zm_1201 : zC := (cX6_back, 2, zc_1201, (zfl_RX6, zwl_RX6), (zk1_RX6, zk2_RX6, []), [(1, 76, zc_1211)], [], [])
def zm_1205 : zC := (cX6_back, 2, zc_1205, (zfl_RX6, zwl_RX6), (zk1_RX6, zk2_RX6, []), [(1, 76, zc_1215)], [], [])
def zm_1206 : zC := (cX6_image, 2, zc_1206, (zfl_RX6, zwl_RX6), (zk1_RX6, zk2_RX6, []), [(1, 76, zc_1211)], [], [])
def zm_1210 : zC := (cX6_image, 2, zc_1210, (zfl_RX6, zwl_RX6), (zk1_RX6, zk2_RX6, []), [(1, 76, zc_1215)], [], [])
def zm_1197 : zC := (cX5_image, 2, zc_1197, (zfl_RX5, zwl_RX5), (zk1_RX5, zk2_RX5, []), [(0, 317, zc_284)], [], [])
def zm_1198 : zC := (cX5_image, 2, zc_1198, (zfl_RX5, zwl_RX5), (zk1_RX5, zk2_RX5, []), [(0, 317, zc_284)], [], [])
def zm_1199 : zC := (cX5_image, 2, zc_1199, (zfl_RX5, zwl_RX5), (zk1_RX5, zk2_RX5, []), [(0, 317, zc_284)], [], [])
def zm_1192 : zC := (cX5_back, 2, zc_1192, (zfl_RX5, zwl_RX5), (zk1_RX5, zk2_RX5, []), [(0, 71, zc_760), (0, 317, zc_284)], [], [])
def zm_1193 : zC := (cX5_back, 2, zc_1193, (zfl_RX5, zwl_RX5), (zk1_RX5, zk2_RX5, []), [(0, 71, zc_760), (0, 317, zc_284)], [], [])
def zm_1194 : zC := (cX5_back, 2, zc_1194, (zfl_RX5, zwl_RX5), (zk1_RX5, zk2_RX5, []), [(0, 71, zc_760), (0, 317, zc_284)], [], [])
def zm_1202 : zC := (cX6_back, 2, zc_1202, (zfl_RX6, zwl_RX6), (zk1_RX6, zk2_RX6, []), [(1, 76, zc_1212), (0, 220, zc_852)], [], [])
def zm_1203 : zC := (cX6_back, 2, zc_1203, (zfl_RX6, zwl_RX6), (zk1_RX6, zk2_RX6, []), [(1, 76, zc_1213), (0, 220, zc_852)], [], [])
def zm_1204 : zC := (cX6_back, 2, zc_1204, (zfl_RX6, zwl_RX6), (zk1_RX6, zk2_RX6, []), [(1, 76, zc_1214), (0, 220, zc_852)], [], [])
def zm_1207 : zC := (cX6_image, 2, zc_1207, (zfl_RX6, zwl_RX6), (zk1_RX6, zk2_RX6, []), [(1, 76, zc_1212), (0, 220, zc_852)], [], [])
def zm_1208 : zC := (cX6_image, 2, zc_1208, (zfl_RX6, zwl_RX6), (zk1_RX6, zk2_RX6, []), [(1, 76, zc_1213), (0, 220, zc_852)], [], [])
def zm_1209 : zC := (cX6_image, 2, zc_1209, (zfl_RX6, zwl_RX6), (zk1_RX6, zk2_RX6, []), [(1, 76, zc_1214), (0, 220, zc_852)], [], [])
set_option maxRecDepth 100000 in
theorem zk_1191 : zmeth zKS zuq zNS zm_1191 4000 = true := zqF (zdt_X5_back) (by decide +kernel)
theorem zM_1191 {l : Launch} {D : va_G} {cI cZ cB cJ cR : ClassId} {ks ad : List Nat} {Psi : va_W → Prop} (hw : zworld ks ad zuq zNS Psi) (hm : zMan l D cI cZ cB cJ cR ks ad Psi) : zMet l D cI cZ cB cJ cR zKS ks ad Psi yX5_back (.code yX5_back cX5_back 2 (some .int)) 0 zc_1191 :=
  zmet_of hw 0 (by decide) 4000 zk_1191 (by decide) (by decide) (fun X => ⟨zg_RX5 X, zp_RX5 X, zl1_RX5 X, zl2_RX5 X, nilz, nilz⟩)
set_option maxRecDepth 100000 in
theorem zk_1195 : zmeth zKS zuq zNS zm_1195 4000 = true := zqF (zdt_X5_back) (by decide +kernel)
theorem zM_1195 {l : Launch} {D : va_G} {cI cZ cB cJ cR : ClassId} {ks ad : List Nat} {Psi : va_W → Prop} (hw : zworld ks ad zuq zNS Psi) (hm : zMan l D cI cZ cB cJ cR ks ad Psi) : zMet l D cI cZ cB cJ cR zKS ks ad Psi yX5_back (.code yX5_back cX5_back 2 (some .int)) 0 zc_1195 :=
  zmet_of hw 0 (by decide) 4000 zk_1195 (by decide) (by decide) (fun X => ⟨zg_RX5 X, zp_RX5 X, zl1_RX5 X, zl2_RX5 X, nilz, nilz⟩)
set_option maxRecDepth 100000 in
theorem zk_1196 : zmeth zKS zuq zNS zm_1196 4000 = true := zqF (zdt_X5_image) (by decide +kernel)
theorem zM_1196 {l : Launch} {D : va_G} {cI cZ cB cJ cR : ClassId} {ks ad : List Nat} {Psi : va_W → Prop} (hw : zworld ks ad zuq zNS Psi) (hm : zMan l D cI cZ cB cJ cR ks ad Psi) : zMet l D cI cZ cB cJ cR zKS ks ad Psi yX5_image (.code yX5_image cX5_image 2 (some .int)) 0 zc_1196 :=
  zmet_of hw 0 (by decide) 4000 zk_1196 (by decide) (by decide) (fun X => ⟨zg_RX5 X, zp_RX5 X, zl1_RX5 X, zl2_RX5 X, nilz, nilz⟩)
set_option maxRecDepth 100000 in
theorem zk_1200 : zmeth zKS zuq zNS zm_1200 4000 = true := zqF (zdt_X5_image) (by decide +kernel)
theorem zM_1200 {l : Launch} {D : va_G} {cI cZ cB cJ cR : ClassId} {ks ad : List Nat} {Psi : va_W → Prop} (hw : zworld ks ad zuq zNS Psi) (hm : zMan l D cI cZ cB cJ cR ks ad Psi) : zMet l D cI cZ cB cJ cR zKS ks ad Psi yX5_image (.code yX5_image cX5_image 2 (some .int)) 0 zc_1200 :=
  zmet_of hw 0 (by decide) 4000 zk_1200 (by decide) (by decide) (fun X => ⟨zg_RX5 X, zp_RX5 X, zl1_RX5 X, zl2_RX5 X, nilz, nilz⟩)
set_option maxRecDepth 100000 in
theorem zk_1211 : zmeth zKS zuq zNS zm_1211 4000 = true := zqF (zdt_X6_in) (by decide +kernel)
theorem zM_1211 {l : Launch} {D : va_G} {cI cZ cB cJ cR : ClassId} {ks ad : List Nat} {Psi : va_W → Prop} (hw : zworld ks ad zuq zNS Psi) (hm : zMan l D cI cZ cB cJ cR ks ad Psi) : zMet l D cI cZ cB cJ cR zKS ks ad Psi yX6_in (.code yX6_in cX6_in 6 (some .boolean)) 0 zc_1211 :=
  zmet_of hw 0 (by decide) 4000 zk_1211 (by decide) (by decide) (fun X => ⟨zg_RX6 X, zp_RX6 X, zl1_RX6 X, zl2_RX6 X, nilz, nilz⟩)
set_option maxRecDepth 100000 in
theorem zk_1212 : zmeth zKS zuq zNS zm_1212 4000 = true := zqF (zdt_X6_in) (by decide +kernel)
theorem zM_1212 {l : Launch} {D : va_G} {cI cZ cB cJ cR : ClassId} {ks ad : List Nat} {Psi : va_W → Prop} (hw : zworld ks ad zuq zNS Psi) (hm : zMan l D cI cZ cB cJ cR ks ad Psi) : zMet l D cI cZ cB cJ cR zKS ks ad Psi yX6_in (.code yX6_in cX6_in 6 (some .boolean)) 0 zc_1212 :=
  zmet_of hw 0 (by decide) 4000 zk_1212 (by decide) (by decide) (fun X => ⟨zg_RX6 X, zp_RX6 X, zl1_RX6 X, zl2_RX6 X, nilz, nilz⟩)
set_option maxRecDepth 100000 in
theorem zk_1213 : zmeth zKS zuq zNS zm_1213 4000 = true := zqF (zdt_X6_in) (by decide +kernel)
theorem zM_1213 {l : Launch} {D : va_G} {cI cZ cB cJ cR : ClassId} {ks ad : List Nat} {Psi : va_W → Prop} (hw : zworld ks ad zuq zNS Psi) (hm : zMan l D cI cZ cB cJ cR ks ad Psi) : zMet l D cI cZ cB cJ cR zKS ks ad Psi yX6_in (.code yX6_in cX6_in 6 (some .boolean)) 0 zc_1213 :=
  zmet_of hw 0 (by decide) 4000 zk_1213 (by decide) (by decide) (fun X => ⟨zg_RX6 X, zp_RX6 X, zl1_RX6 X, zl2_RX6 X, nilz, nilz⟩)
set_option maxRecDepth 100000 in
theorem zk_1214 : zmeth zKS zuq zNS zm_1214 4000 = true := zqF (zdt_X6_in) (by decide +kernel)
theorem zM_1214 {l : Launch} {D : va_G} {cI cZ cB cJ cR : ClassId} {ks ad : List Nat} {Psi : va_W → Prop} (hw : zworld ks ad zuq zNS Psi) (hm : zMan l D cI cZ cB cJ cR ks ad Psi) : zMet l D cI cZ cB cJ cR zKS ks ad Psi yX6_in (.code yX6_in cX6_in 6 (some .boolean)) 0 zc_1214 :=
  zmet_of hw 0 (by decide) 4000 zk_1214 (by decide) (by decide) (fun X => ⟨zg_RX6 X, zp_RX6 X, zl1_RX6 X, zl2_RX6 X, nilz, nilz⟩)
set_option maxRecDepth 100000 in
theorem zk_1215 : zmeth zKS zuq zNS zm_1215 4000 = true := zqF (zdt_X6_in) (by decide +kernel)
theorem zM_1215 {l : Launch} {D : va_G} {cI cZ cB cJ cR : ClassId} {ks ad : List Nat} {Psi : va_W → Prop} (hw : zworld ks ad zuq zNS Psi) (hm : zMan l D cI cZ cB cJ cR ks ad Psi) : zMet l D cI cZ cB cJ cR zKS ks ad Psi yX6_in (.code yX6_in cX6_in 6 (some .boolean)) 0 zc_1215 :=
  zmet_of hw 0 (by decide) 4000 zk_1215 (by decide) (by decide) (fun X => ⟨zg_RX6 X, zp_RX6 X, zl1_RX6 X, zl2_RX6 X, nilz, nilz⟩)
set_option maxRecDepth 100000 in
theorem zk_1201 : zmeth zKS zuq zNS zm_1201 4000 = true := zqF (zdt_X6_back) (by decide +kernel)
theorem zM_1201 {l : Launch} {D : va_G} {cI cZ cB cJ cR : ClassId} {ks ad : List Nat} {Psi : va_W → Prop} (hw : zworld ks ad zuq zNS Psi) (hm : zMan l D cI cZ cB cJ cR ks ad Psi) : zMet l D cI cZ cB cJ cR zKS ks ad Psi yX6_back (.code yX6_back cX6_back 2 (some .int)) 1 zc_1201 :=
  zmet_of hw 1 (by decide) 4000 zk_1201 (by decide) (by decide) (fun X => ⟨zg_RX6 X, zp_RX6 X, zl1_RX6 X, zl2_RX6 X, nilz, (List.forall_mem_cons.mpr ⟨zq_RX6_76 X (zM_1211 hw hm) (by decide) rfl, nilz⟩)⟩)
set_option maxRecDepth 100000 in
theorem zk_1205 : zmeth zKS zuq zNS zm_1205 4000 = true := zqF (zdt_X6_back) (by decide +kernel)
theorem zM_1205 {l : Launch} {D : va_G} {cI cZ cB cJ cR : ClassId} {ks ad : List Nat} {Psi : va_W → Prop} (hw : zworld ks ad zuq zNS Psi) (hm : zMan l D cI cZ cB cJ cR ks ad Psi) : zMet l D cI cZ cB cJ cR zKS ks ad Psi yX6_back (.code yX6_back cX6_back 2 (some .int)) 1 zc_1205 :=
  zmet_of hw 1 (by decide) 4000 zk_1205 (by decide) (by decide) (fun X => ⟨zg_RX6 X, zp_RX6 X, zl1_RX6 X, zl2_RX6 X, nilz, (List.forall_mem_cons.mpr ⟨zq_RX6_76 X (zM_1215 hw hm) (by decide) rfl, nilz⟩)⟩)
set_option maxRecDepth 100000 in
theorem zk_1206 : zmeth zKS zuq zNS zm_1206 4000 = true := zqF (zdt_X6_image) (by decide +kernel)
theorem zM_1206 {l : Launch} {D : va_G} {cI cZ cB cJ cR : ClassId} {ks ad : List Nat} {Psi : va_W → Prop} (hw : zworld ks ad zuq zNS Psi) (hm : zMan l D cI cZ cB cJ cR ks ad Psi) : zMet l D cI cZ cB cJ cR zKS ks ad Psi yX6_image (.code yX6_image cX6_image 2 (some .int)) 1 zc_1206 :=
  zmet_of hw 1 (by decide) 4000 zk_1206 (by decide) (by decide) (fun X => ⟨zg_RX6 X, zp_RX6 X, zl1_RX6 X, zl2_RX6 X, nilz, (List.forall_mem_cons.mpr ⟨zq_RX6_76 X (zM_1211 hw hm) (by decide) rfl, nilz⟩)⟩)
set_option maxRecDepth 100000 in
theorem zk_1210 : zmeth zKS zuq zNS zm_1210 4000 = true := zqF (zdt_X6_image) (by decide +kernel)
theorem zM_1210 {l : Launch} {D : va_G} {cI cZ cB cJ cR : ClassId} {ks ad : List Nat} {Psi : va_W → Prop} (hw : zworld ks ad zuq zNS Psi) (hm : zMan l D cI cZ cB cJ cR ks ad Psi) : zMet l D cI cZ cB cJ cR zKS ks ad Psi yX6_image (.code yX6_image cX6_image 2 (some .int)) 1 zc_1210 :=
  zmet_of hw 1 (by decide) 4000 zk_1210 (by decide) (by decide) (fun X => ⟨zg_RX6 X, zp_RX6 X, zl1_RX6 X, zl2_RX6 X, nilz, (List.forall_mem_cons.mpr ⟨zq_RX6_76 X (zM_1215 hw hm) (by decide) rfl, nilz⟩)⟩)
set_option maxRecDepth 100000 in
theorem zk_1197 : zmeth zKS zuq zNS zm_1197 4000 = true := zqF (zdt_X5_image) (by decide +kernel)
theorem zM_1197 {l : Launch} {D : va_G} {cI cZ cB cJ cR : ClassId} {ks ad : List Nat} {Psi : va_W → Prop} (hw : zworld ks ad zuq zNS Psi) (hm : zMan l D cI cZ cB cJ cR ks ad Psi) : zMet l D cI cZ cB cJ cR zKS ks ad Psi yX5_image (.code yX5_image cX5_image 2 (some .int)) 3 zc_1197 :=
  zmet_of hw 3 (by decide) 4000 zk_1197 (by decide) (by decide) (fun X => ⟨zg_RX5 X, zp_RX5 X, zl1_RX5 X, zl2_RX5 X, nilz, (List.forall_mem_cons.mpr ⟨zq_RX5_317 X (zman_284 hm) (by decide) rfl rfl, nilz⟩)⟩)
set_option maxRecDepth 100000 in
theorem zk_1198 : zmeth zKS zuq zNS zm_1198 4000 = true := zqF (zdt_X5_image) (by decide +kernel)
theorem zM_1198 {l : Launch} {D : va_G} {cI cZ cB cJ cR : ClassId} {ks ad : List Nat} {Psi : va_W → Prop} (hw : zworld ks ad zuq zNS Psi) (hm : zMan l D cI cZ cB cJ cR ks ad Psi) : zMet l D cI cZ cB cJ cR zKS ks ad Psi yX5_image (.code yX5_image cX5_image 2 (some .int)) 3 zc_1198 :=
  zmet_of hw 3 (by decide) 4000 zk_1198 (by decide) (by decide) (fun X => ⟨zg_RX5 X, zp_RX5 X, zl1_RX5 X, zl2_RX5 X, nilz, (List.forall_mem_cons.mpr ⟨zq_RX5_317 X (zman_284 hm) (by decide) rfl rfl, nilz⟩)⟩)
set_option maxRecDepth 100000 in
theorem zk_1199 : zmeth zKS zuq zNS zm_1199 4000 = true := zqF (zdt_X5_image) (by decide +kernel)
theorem zM_1199 {l : Launch} {D : va_G} {cI cZ cB cJ cR : ClassId} {ks ad : List Nat} {Psi : va_W → Prop} (hw : zworld ks ad zuq zNS Psi) (hm : zMan l D cI cZ cB cJ cR ks ad Psi) : zMet l D cI cZ cB cJ cR zKS ks ad Psi yX5_image (.code yX5_image cX5_image 2 (some .int)) 3 zc_1199 :=
  zmet_of hw 3 (by decide) 4000 zk_1199 (by decide) (by decide) (fun X => ⟨zg_RX5 X, zp_RX5 X, zl1_RX5 X, zl2_RX5 X, nilz, (List.forall_mem_cons.mpr ⟨zq_RX5_317 X (zman_284 hm) (by decide) rfl rfl, nilz⟩)⟩)
set_option maxRecDepth 100000 in
theorem zk_1192 : zmeth zKS zuq zNS zm_1192 4000 = true := zqF (zdt_X5_back) (by decide +kernel)
theorem zM_1192 {l : Launch} {D : va_G} {cI cZ cB cJ cR : ClassId} {ks ad : List Nat} {Psi : va_W → Prop} (hw : zworld ks ad zuq zNS Psi) (hm : zMan l D cI cZ cB cJ cR ks ad Psi) : zMet l D cI cZ cB cJ cR zKS ks ad Psi yX5_back (.code yX5_back cX5_back 2 (some .int)) 4 zc_1192 :=
  zmet_of hw 4 (by decide) 4000 zk_1192 (by decide) (by decide) (fun X => ⟨zg_RX5 X, zp_RX5 X, zl1_RX5 X, zl2_RX5 X, nilz, (List.forall_mem_cons.mpr ⟨zq_RX5_71 X (zM_760 hw hm) (by decide) rfl rfl, (List.forall_mem_cons.mpr ⟨zq_RX5_317 X (zman_284 hm) (by decide) rfl rfl, nilz⟩)⟩)⟩)
set_option maxRecDepth 100000 in
theorem zk_1193 : zmeth zKS zuq zNS zm_1193 4000 = true := zqF (zdt_X5_back) (by decide +kernel)
theorem zM_1193 {l : Launch} {D : va_G} {cI cZ cB cJ cR : ClassId} {ks ad : List Nat} {Psi : va_W → Prop} (hw : zworld ks ad zuq zNS Psi) (hm : zMan l D cI cZ cB cJ cR ks ad Psi) : zMet l D cI cZ cB cJ cR zKS ks ad Psi yX5_back (.code yX5_back cX5_back 2 (some .int)) 4 zc_1193 :=
  zmet_of hw 4 (by decide) 4000 zk_1193 (by decide) (by decide) (fun X => ⟨zg_RX5 X, zp_RX5 X, zl1_RX5 X, zl2_RX5 X, nilz, (List.forall_mem_cons.mpr ⟨zq_RX5_71 X (zM_760 hw hm) (by decide) rfl rfl, (List.forall_mem_cons.mpr ⟨zq_RX5_317 X (zman_284 hm) (by decide) rfl rfl, nilz⟩)⟩)⟩)
set_option maxRecDepth 100000 in
theorem zk_1194 : zmeth zKS zuq zNS zm_1194 4000 = true := zqF (zdt_X5_back) (by decide +kernel)
theorem zM_1194 {l : Launch} {D : va_G} {cI cZ cB cJ cR : ClassId} {ks ad : List Nat} {Psi : va_W → Prop} (hw : zworld ks ad zuq zNS Psi) (hm : zMan l D cI cZ cB cJ cR ks ad Psi) : zMet l D cI cZ cB cJ cR zKS ks ad Psi yX5_back (.code yX5_back cX5_back 2 (some .int)) 4 zc_1194 :=
  zmet_of hw 4 (by decide) 4000 zk_1194 (by decide) (by decide) (fun X => ⟨zg_RX5 X, zp_RX5 X, zl1_RX5 X, zl2_RX5 X, nilz, (List.forall_mem_cons.mpr ⟨zq_RX5_71 X (zM_760 hw hm) (by decide) rfl rfl, (List.forall_mem_cons.mpr ⟨zq_RX5_317 X (zman_284 hm) (by decide) rfl rfl, nilz⟩)⟩)⟩)
set_option maxRecDepth 100000 in
theorem zk_1202 : zmeth zKS zuq zNS zm_1202 4000 = true := zqF (zdt_X6_back) (by decide +kernel)
theorem zM_1202 {l : Launch} {D : va_G} {cI cZ cB cJ cR : ClassId} {ks ad : List Nat} {Psi : va_W → Prop} (hw : zworld ks ad zuq zNS Psi) (hm : zMan l D cI cZ cB cJ cR ks ad Psi) : zMet l D cI cZ cB cJ cR zKS ks ad Psi yX6_back (.code yX6_back cX6_back 2 (some .int)) 4 zc_1202 :=
  zmet_of hw 4 (by decide) 4000 zk_1202 (by decide) (by decide) (fun X => ⟨zg_RX6 X, zp_RX6 X, zl1_RX6 X, zl2_RX6 X, nilz, (List.forall_mem_cons.mpr ⟨zq_RX6_76 X (zM_1212 hw hm) (by decide) rfl, (List.forall_mem_cons.mpr ⟨zq_RX6_220 X (zM_852 hw hm) (by decide) rfl rfl, nilz⟩)⟩)⟩)
set_option maxRecDepth 100000 in
theorem zk_1203 : zmeth zKS zuq zNS zm_1203 4000 = true := zqF (zdt_X6_back) (by decide +kernel)
theorem zM_1203 {l : Launch} {D : va_G} {cI cZ cB cJ cR : ClassId} {ks ad : List Nat} {Psi : va_W → Prop} (hw : zworld ks ad zuq zNS Psi) (hm : zMan l D cI cZ cB cJ cR ks ad Psi) : zMet l D cI cZ cB cJ cR zKS ks ad Psi yX6_back (.code yX6_back cX6_back 2 (some .int)) 4 zc_1203 :=
  zmet_of hw 4 (by decide) 4000 zk_1203 (by decide) (by decide) (fun X => ⟨zg_RX6 X, zp_RX6 X, zl1_RX6 X, zl2_RX6 X, nilz, (List.forall_mem_cons.mpr ⟨zq_RX6_76 X (zM_1213 hw hm) (by decide) rfl, (List.forall_mem_cons.mpr ⟨zq_RX6_220 X (zM_852 hw hm) (by decide) rfl rfl, nilz⟩)⟩)⟩)
set_option maxRecDepth 100000 in
theorem zk_1204 : zmeth zKS zuq zNS zm_1204 4000 = true := zqF (zdt_X6_back) (by decide +kernel)
theorem zM_1204 {l : Launch} {D : va_G} {cI cZ cB cJ cR : ClassId} {ks ad : List Nat} {Psi : va_W → Prop} (hw : zworld ks ad zuq zNS Psi) (hm : zMan l D cI cZ cB cJ cR ks ad Psi) : zMet l D cI cZ cB cJ cR zKS ks ad Psi yX6_back (.code yX6_back cX6_back 2 (some .int)) 4 zc_1204 :=
  zmet_of hw 4 (by decide) 4000 zk_1204 (by decide) (by decide) (fun X => ⟨zg_RX6 X, zp_RX6 X, zl1_RX6 X, zl2_RX6 X, nilz, (List.forall_mem_cons.mpr ⟨zq_RX6_76 X (zM_1214 hw hm) (by decide) rfl, (List.forall_mem_cons.mpr ⟨zq_RX6_220 X (zM_852 hw hm) (by decide) rfl rfl, nilz⟩)⟩)⟩)
set_option maxRecDepth 100000 in
theorem zk_1207 : zmeth zKS zuq zNS zm_1207 4000 = true := zqF (zdt_X6_image) (by decide +kernel)
theorem zM_1207 {l : Launch} {D : va_G} {cI cZ cB cJ cR : ClassId} {ks ad : List Nat} {Psi : va_W → Prop} (hw : zworld ks ad zuq zNS Psi) (hm : zMan l D cI cZ cB cJ cR ks ad Psi) : zMet l D cI cZ cB cJ cR zKS ks ad Psi yX6_image (.code yX6_image cX6_image 2 (some .int)) 4 zc_1207 :=
  zmet_of hw 4 (by decide) 4000 zk_1207 (by decide) (by decide) (fun X => ⟨zg_RX6 X, zp_RX6 X, zl1_RX6 X, zl2_RX6 X, nilz, (List.forall_mem_cons.mpr ⟨zq_RX6_76 X (zM_1212 hw hm) (by decide) rfl, (List.forall_mem_cons.mpr ⟨zq_RX6_220 X (zM_852 hw hm) (by decide) rfl rfl, nilz⟩)⟩)⟩)
set_option maxRecDepth 100000 in
theorem zk_1208 : zmeth zKS zuq zNS zm_1208 4000 = true := zqF (zdt_X6_image) (by decide +kernel)
theorem zM_1208 {l : Launch} {D : va_G} {cI cZ cB cJ cR : ClassId} {ks ad : List Nat} {Psi : va_W → Prop} (hw : zworld ks ad zuq zNS Psi) (hm : zMan l D cI cZ cB cJ cR ks ad Psi) : zMet l D cI cZ cB cJ cR zKS ks ad Psi yX6_image (.code yX6_image cX6_image 2 (some .int)) 4 zc_1208 :=
  zmet_of hw 4 (by decide) 4000 zk_1208 (by decide) (by decide) (fun X => ⟨zg_RX6 X, zp_RX6 X, zl1_RX6 X, zl2_RX6 X, nilz, (List.forall_mem_cons.mpr ⟨zq_RX6_76 X (zM_1213 hw hm) (by decide) rfl, (List.forall_mem_cons.mpr ⟨zq_RX6_220 X (zM_852 hw hm) (by decide) rfl rfl, nilz⟩)⟩)⟩)
set_option maxRecDepth 100000 in
theorem zk_1209 : zmeth zKS zuq zNS zm_1209 4000 = true := zqF (zdt_X6_image) (by decide +kernel)
theorem zM_1209 {l : Launch} {D : va_G} {cI cZ cB cJ cR : ClassId} {ks ad : List Nat} {Psi : va_W → Prop} (hw : zworld ks ad zuq zNS Psi) (hm : zMan l D cI cZ cB cJ cR ks ad Psi) : zMet l D cI cZ cB cJ cR zKS ks ad Psi yX6_image (.code yX6_image cX6_image 2 (some .int)) 4 zc_1209 :=
  zmet_of hw 4 (by decide) 4000 zk_1209 (by decide) (by decide) (fun X => ⟨zg_RX6 X, zp_RX6 X, zl1_RX6 X, zl2_RX6 X, nilz, (List.forall_mem_cons.mpr ⟨zq_RX6_76 X (zM_1214 hw hm) (by decide) rfl, (List.forall_mem_cons.mpr ⟨zq_RX6_220 X (zM_852 hw hm) (by decide) rfl rfl, nilz⟩)⟩)⟩)
