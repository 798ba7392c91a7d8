set_option maxRecDepth 100000 in
theorem zk_1131 : zmeth zKS zuq zNS zm_1131 4000 = true := zqF (zdt_X6_tells) (by decide +kernel)
theorem zM_1131 {l : Launch} {D : va_G} {cI cZ cB cJ cR : ClassId} {ks ad : List Nat} {Psi : va_W → Prop} (hw : zworld ks ad zuq zNS Psi) (hm : zMan l D cI cZ cB cJ cR ks ad Psi) : zMet l D cI cZ cB cJ cR zKS ks ad Psi yX6_tells (.code yX6_tells cX6_tells 3 none) 0 zc_1131 :=
  zmet_of hw 0 (by decide) 4000 zk_1131 (by decide) (by decide) (fun X => ⟨zg_RX6 X, zp_RX6 X, zl1_RX6 X, zl2_RX6 X, nilz, nilz⟩)
set_option maxRecDepth 100000 in
theorem zk_1132 : zmeth zKS zuq zNS zm_1132 4000 = true := zqF (zdt_X6_tells) (by decide +kernel)
theorem zM_1132 {l : Launch} {D : va_G} {cI cZ cB cJ cR : ClassId} {ks ad : List Nat} {Psi : va_W → Prop} (hw : zworld ks ad zuq zNS Psi) (hm : zMan l D cI cZ cB cJ cR ks ad Psi) : zMet l D cI cZ cB cJ cR zKS ks ad Psi yX6_tells (.code yX6_tells cX6_tells 3 none) 0 zc_1132 :=
  zmet_of hw 0 (by decide) 4000 zk_1132 (by decide) (by decide) (fun X => ⟨zg_RX6 X, zp_RX6 X, zl1_RX6 X, zl2_RX6 X, nilz, nilz⟩)
set_option maxRecDepth 100000 in
theorem zk_1133 : zmeth zKS zuq zNS zm_1133 4000 = true := zqF (zdt_X6_tells) (by decide +kernel)
theorem zM_1133 {l : Launch} {D : va_G} {cI cZ cB cJ cR : ClassId} {ks ad : List Nat} {Psi : va_W → Prop} (hw : zworld ks ad zuq zNS Psi) (hm : zMan l D cI cZ cB cJ cR ks ad Psi) : zMet l D cI cZ cB cJ cR zKS ks ad Psi yX6_tells (.code yX6_tells cX6_tells 3 none) 0 zc_1133 :=
  zmet_of hw 0 (by decide) 4000 zk_1133 (by decide) (by decide) (fun X => ⟨zg_RX6 X, zp_RX6 X, zl1_RX6 X, zl2_RX6 X, nilz, nilz⟩)
set_option maxRecDepth 100000 in
theorem zk_1134 : zmeth zKS zuq zNS zm_1134 4000 = true := zqF (zdt_X6_tells) (by decide +kernel)
theorem zM_1134 {l : Launch} {D : va_G} {cI cZ cB cJ cR : ClassId} {ks ad : List Nat} {Psi : va_W → Prop} (hw : zworld ks ad zuq zNS Psi) (hm : zMan l D cI cZ cB cJ cR ks ad Psi) : zMet l D cI cZ cB cJ cR zKS ks ad Psi yX6_tells (.code yX6_tells cX6_tells 3 none) 0 zc_1134 :=
  zmet_of hw 0 (by decide) 4000 zk_1134 (by decide) (by decide) (fun X => ⟨zg_RX6 X, zp_RX6 X, zl1_RX6 X, zl2_RX6 X, nilz, nilz⟩)
set_option maxRecDepth 100000 in
theorem zk_1135 : zmeth zKS zuq zNS zm_1135 4000 = true := zqF (zdt_X6_tells) (by decide +kernel)
theorem zM_1135 {l : Launch} {D : va_G} {cI cZ cB cJ cR : ClassId} {ks ad : List Nat} {Psi : va_W → Prop} (hw : zworld ks ad zuq zNS Psi) (hm : zMan l D cI cZ cB cJ cR ks ad Psi) : zMet l D cI cZ cB cJ cR zKS ks ad Psi yX6_tells (.code yX6_tells cX6_tells 3 none) 0 zc_1135 :=
  zmet_of hw 0 (by decide) 4000 zk_1135 (by decide) (by decide) (fun X => ⟨zg_RX6 X, zp_RX6 X, zl1_RX6 X, zl2_RX6 X, nilz, nilz⟩)
set_option maxRecDepth 100000 in
theorem zk_1136 : zmeth zKS zuq zNS zm_1136 4000 = true := zqF (zdt_X6_tells) (by decide +kernel)
theorem zM_1136 {l : Launch} {D : va_G} {cI cZ cB cJ cR : ClassId} {ks ad : List Nat} {Psi : va_W → Prop} (hw : zworld ks ad zuq zNS Psi) (hm : zMan l D cI cZ cB cJ cR ks ad Psi) : zMet l D cI cZ cB cJ cR zKS ks ad Psi yX6_tells (.code yX6_tells cX6_tells 3 none) 0 zc_1136 :=
  zmet_of hw 0 (by decide) 4000 zk_1136 (by decide) (by decide) (fun X => ⟨zg_RX6 X, zp_RX6 X, zl1_RX6 X, zl2_RX6 X, nilz, nilz⟩)
set_option maxRecDepth 100000 in
theorem zk_1137 : zmeth zKS zuq zNS zm_1137 4000 = true := zqF (zdt_X6_tells) (by decide +kernel)
theorem zM_1137 {l : Launch} {D : va_G} {cI cZ cB cJ cR : ClassId} {ks ad : List Nat} {Psi : va_W → Prop} (hw : zworld ks ad zuq zNS Psi) (hm : zMan l D cI cZ cB cJ cR ks ad Psi) : zMet l D cI cZ cB cJ cR zKS ks ad Psi yX6_tells (.code yX6_tells cX6_tells 3 none) 0 zc_1137 :=
  zmet_of hw 0 (by decide) 4000 zk_1137 (by decide) (by decide) (fun X => ⟨zg_RX6 X, zp_RX6 X, zl1_RX6 X, zl2_RX6 X, nilz, nilz⟩)
set_option maxRecDepth 100000 in
theorem zk_1138 : zmeth zKS zuq zNS zm_1138 4000 = true := zqF (zdt_X6_tells) (by decide +kernel)
theorem zM_1138 {l : Launch} {D : va_G} {cI cZ cB cJ cR : ClassId} {ks ad : List Nat} {Psi : va_W → Prop} (hw : zworld ks ad zuq zNS Psi) (hm : zMan l D cI cZ cB cJ cR ks ad Psi) : zMet l D cI cZ cB cJ cR zKS ks ad Psi yX6_tells (.code yX6_tells cX6_tells 3 none) 0 zc_1138 :=
  zmet_of hw 0 (by decide) 4000 zk_1138 (by decide) (by decide) (fun X => ⟨zg_RX6 X, zp_RX6 X, zl1_RX6 X, zl2_RX6 X, nilz, nilz⟩)
set_option maxRecDepth 100000 in
theorem zk_1139 : zmeth zKS zuq zNS zm_1139 4000 = true := zqF (zdt_X6_tells) (by decide +kernel)
theorem zM_1139 {l : Launch} {D : va_G} {cI cZ cB cJ cR : ClassId} {ks ad : List Nat} {Psi : va_W → Prop} (hw : zworld ks ad zuq zNS Psi) (hm : zMan l D cI cZ cB cJ cR ks ad Psi) : zMet l D cI cZ cB cJ cR zKS ks ad Psi yX6_tells (.code yX6_tells cX6_tells 3 none) 0 zc_1139 :=
  zmet_of hw 0 (by decide) 4000 zk_1139 (by decide) (by decide) (fun X => ⟨zg_RX6 X, zp_RX6 X, zl1_RX6 X, zl2_RX6 X, nilz, nilz⟩)
set_option maxRecDepth 100000 in
theorem zk_1140 : zmeth zKS zuq zNS zm_1140 4000 = true := zqF (zdt_X6_tells) (by decide +kernel)
theorem zM_1140 {l : Launch} {D : va_G} {cI cZ cB cJ cR : ClassId} {ks ad : List Nat} {Psi : va_W → Prop} (hw : zworld ks ad zuq zNS Psi) (hm : zMan l D cI cZ cB cJ cR ks ad Psi) : zMet l D cI cZ cB cJ cR zKS ks ad Psi yX6_tells (.code yX6_tells cX6_tells 3 none) 0 zc_1140 :=
  zmet_of hw 0 (by decide) 4000 zk_1140 (by decide) (by decide) (fun X => ⟨zg_RX6 X, zp_RX6 X, zl1_RX6 X, zl2_RX6 X, nilz, nilz⟩)
set_option maxRecDepth 100000 in
theorem zk_1141 : zmeth zKS zuq zNS zm_1141 4000 = true := zqF (zdt_X6_tells) (by decide +kernel)
theorem zM_1141 {l : Launch} {D : va_G} {cI cZ cB cJ cR : ClassId} {ks ad : List Nat} {Psi : va_W → Prop} (hw : zworld ks ad zuq zNS Psi) (hm : zMan l D cI cZ cB cJ cR ks ad Psi) : zMet l D cI cZ cB cJ cR zKS ks ad Psi yX6_tells (.code yX6_tells cX6_tells 3 none) 0 zc_1141 :=
  zmet_of hw 0 (by decide) 4000 zk_1141 (by decide) (by decide) (fun X => ⟨zg_RX6 X, zp_RX6 X, zl1_RX6 X, zl2_RX6 X, nilz, nilz⟩)
set_option maxRecDepth 100000 in
theorem zk_1142 : zmeth zKS zuq zNS zm_1142 4000 = true := zqF (zdt_X6_tells) (by decide +kernel)
theorem zM_1142 {l : Launch} {D : va_G} {cI cZ cB cJ cR : ClassId} {ks ad : List Nat} {Psi : va_W → Prop} (hw : zworld ks ad zuq zNS Psi) (hm : zMan l D cI cZ cB cJ cR ks ad Psi) : zMet l D cI cZ cB cJ cR zKS ks ad Psi yX6_tells (.code yX6_tells cX6_tells 3 none) 0 zc_1142 :=
  zmet_of hw 0 (by decide) 4000 zk_1142 (by decide) (by decide) (fun X => ⟨zg_RX6 X, zp_RX6 X, zl1_RX6 X, zl2_RX6 X, nilz, nilz⟩)
set_option maxRecDepth 100000 in
theorem zk_1143 : zmeth zKS zuq zNS zm_1143 4000 = true := zqF (zdt_X6_tells) (by decide +kernel)
theorem zM_1143 {l : Launch} {D : va_G} {cI cZ cB cJ cR : ClassId} {ks ad : List Nat} {Psi : va_W → Prop} (hw : zworld ks ad zuq zNS Psi) (hm : zMan l D cI cZ cB cJ cR ks ad Psi) : zMet l D cI cZ cB cJ cR zKS ks ad Psi yX6_tells (.code yX6_tells cX6_tells 3 none) 0 zc_1143 :=
  zmet_of hw 0 (by decide) 4000 zk_1143 (by decide) (by decide) (fun X => ⟨zg_RX6 X, zp_RX6 X, zl1_RX6 X, zl2_RX6 X, nilz, nilz⟩)
set_option maxRecDepth 100000 in
theorem zk_1144 : zmeth zKS zuq zNS zm_1144 4000 = true := zqF (zdt_X6_tells) (by decide +kernel)
theorem zM_1144 {l : Launch} {D : va_G} {cI cZ cB cJ cR : ClassId} {ks ad : List Nat} {Psi : va_W → Prop} (hw : zworld ks ad zuq zNS Psi) (hm : zMan l D cI cZ cB cJ cR ks ad Psi) : zMet l D cI cZ cB cJ cR zKS ks ad Psi yX6_tells (.code yX6_tells cX6_tells 3 none) 0 zc_1144 :=
  zmet_of hw 0 (by decide) 4000 zk_1144 (by decide) (by decide) (fun X => ⟨zg_RX6 X, zp_RX6 X, zl1_RX6 X, zl2_RX6 X, nilz, nilz⟩)
set_option maxRecDepth 100000 in
theorem zk_1145 : zmeth zKS zuq zNS zm_1145 4000 = true := zqF (zdt_X6_tells) (by decide +kernel)
theorem zM_1145 {l : Launch} {D : va_G} {cI cZ cB cJ cR : ClassId} {ks ad : List Nat} {Psi : va_W → Prop} (hw : zworld ks ad zuq zNS Psi) (hm : zMan l D cI cZ cB cJ cR ks ad Psi) : zMet l D cI cZ cB cJ cR zKS ks ad Psi yX6_tells (.code yX6_tells cX6_tells 3 none) 0 zc_1145 :=
  zmet_of hw 0 (by decide) 4000 zk_1145 (by decide) (by decide) (fun X => ⟨zg_RX6 X, zp_RX6 X, zl1_RX6 X, zl2_RX6 X, nilz, nilz⟩)
set_option maxRecDepth 100000 in
theorem zk_1146 : zmeth zKS zuq zNS zm_1146 4000 = true := zqF (zdt_X6_tells) (by decide +kernel)
theorem zM_1146 {l : Launch} {D : va_G} {cI cZ cB cJ cR : ClassId} {ks ad : List Nat} {Psi : va_W → Prop} (hw : zworld ks ad zuq zNS Psi) (hm : zMan l D cI cZ cB cJ cR ks ad Psi) : zMet l D cI cZ cB cJ cR zKS ks ad Psi yX6_tells (.code yX6_tells cX6_tells 3 none) 0 zc_1146 :=
  zmet_of hw 0 (by decide) 4000 zk_1146 (by decide) (by decide) (fun X => ⟨zg_RX6 X, zp_RX6 X, zl1_RX6 X, zl2_RX6 X, nilz, nilz⟩)
set_option maxRecDepth 100000 in
theorem zk_1147 : zmeth zKS zuq zNS zm_1147 4000 = true := zqF (zdt_X6_tells) (by decide +kernel)
theorem zM_1147 {l : Launch} {D : va_G} {cI cZ cB cJ cR : ClassId} {ks ad : List Nat} {Psi : va_W → Prop} (hw : zworld ks ad zuq zNS Psi) (hm : zMan l D cI cZ cB cJ cR ks ad Psi) : zMet l D cI cZ cB cJ cR zKS ks ad Psi yX6_tells (.code yX6_tells cX6_tells 3 none) 0 zc_1147 :=
  zmet_of hw 0 (by decide) 4000 zk_1147 (by decide) (by decide) (fun X => ⟨zg_RX6 X, zp_RX6 X, zl1_RX6 X, zl2_RX6 X, nilz, nilz⟩)
set_option maxRecDepth 100000 in
theorem zk_1148 : zmeth zKS zuq zNS zm_1148 4000 = true := zqF (zdt_X6_tells) (by decide +kernel)
theorem zM_1148 {l : Launch} {D : va_G} {cI cZ cB cJ cR : ClassId} {ks ad : List Nat} {Psi : va_W → Prop} (hw : zworld ks ad zuq zNS Psi) (hm : zMan l D cI cZ cB cJ cR ks ad Psi) : zMet l D cI cZ cB cJ cR zKS ks ad Psi yX6_tells (.code yX6_tells cX6_tells 3 none) 0 zc_1148 :=
  zmet_of hw 0 (by decide) 4000 zk_1148 (by decide) (by decide) (fun X => ⟨zg_RX6 X, zp_RX6 X, zl1_RX6 X, zl2_RX6 X, nilz, nilz⟩)
set_option maxRecDepth 100000 in
theorem zk_1149 : zmeth zKS zuq zNS zm_1149 4000 = true := zqF (zdt_X6_tells) (by decide +kernel)
theorem zM_1149 {l : Launch} {D : va_G} {cI cZ cB cJ cR : ClassId} {ks ad : List Nat} {Psi : va_W → Prop} (hw : zworld ks ad zuq zNS Psi) (hm : zMan l D cI cZ cB cJ cR ks ad Psi) : zMet l D cI cZ cB cJ cR zKS ks ad Psi yX6_tells (.code yX6_tells cX6_tells 3 none) 0 zc_1149 :=
  zmet_of hw 0 (by decide) 4000 zk_1149 (by decide) (by decide) (fun X => ⟨zg_RX6 X, zp_RX6 X, zl1_RX6 X, zl2_RX6 X, nilz, nilz⟩)
set_option maxRecDepth 100000 in
theorem zk_1150 : zmeth zKS zuq zNS zm_1150 4000 = true := zqF (zdt_X6_tells) (by decide +kernel)
theorem zM_1150 {l : Launch} {D : va_G} {cI cZ cB cJ cR : ClassId} {ks ad : List Nat} {Psi : va_W → Prop} (hw : zworld ks ad zuq zNS Psi) (hm : zMan l D cI cZ cB cJ cR ks ad Psi) : zMet l D cI cZ cB cJ cR zKS ks ad Psi yX6_tells (.code yX6_tells cX6_tells 3 none) 0 zc_1150 :=
  zmet_of hw 0 (by decide) 4000 zk_1150 (by decide) (by decide) (fun X => ⟨zg_RX6 X, zp_RX6 X, zl1_RX6 X, zl2_RX6 X, nilz, nilz⟩)
set_option maxRecDepth 100000 in
theorem zk_1151 : zmeth zKS zuq zNS zm_1151 4000 = true := zqF (zdt_X6_tells) (by decide +kernel)
theorem zM_1151 {l : Launch} {D : va_G} {cI cZ cB cJ cR : ClassId} {ks ad : List Nat} {Psi : va_W → Prop} (hw : zworld ks ad zuq zNS Psi) (hm : zMan l D cI cZ cB cJ cR ks ad Psi) : zMet l D cI cZ cB cJ cR zKS ks ad Psi yX6_tells (.code yX6_tells cX6_tells 3 none) 0 zc_1151 :=
  zmet_of hw 0 (by decide) 4000 zk_1151 (by decide) (by decide) (fun X => ⟨zg_RX6 X, zp_RX6 X, zl1_RX6 X, zl2_RX6 X, nilz, nilz⟩)
set_option maxRecDepth 100000 in
theorem zk_1152 : zmeth zKS zuq zNS zm_1152 4000 = true := zqF (zdt_X6_tells) (by decide +kernel)
theorem zM_1152 {l : Launch} {D : va_G} {cI cZ cB cJ cR : ClassId} {ks ad : List Nat} {Psi : va_W → Prop} (hw : zworld ks ad zuq zNS Psi) (hm : zMan l D cI cZ cB cJ cR ks ad Psi) : zMet l D cI cZ cB cJ cR zKS ks ad Psi yX6_tells (.code yX6_tells cX6_tells 3 none) 0 zc_1152 :=
  zmet_of hw 0 (by decide) 4000 zk_1152 (by decide) (by decide) (fun X => ⟨zg_RX6 X, zp_RX6 X, zl1_RX6 X, zl2_RX6 X, nilz, nilz⟩)
set_option maxRecDepth 100000 in
theorem zk_1153 : zmeth zKS zuq zNS zm_1153 4000 = true := zqF (zdt_X6_tells) (by decide +kernel)
theorem zM_1153 {l : Launch} {D : va_G} {cI cZ cB cJ cR : ClassId} {ks ad : List Nat} {Psi : va_W → Prop} (hw : zworld ks ad zuq zNS Psi) (hm : zMan l D cI cZ cB cJ cR ks ad Psi) : zMet l D cI cZ cB cJ cR zKS ks ad Psi yX6_tells (.code yX6_tells cX6_tells 3 none) 0 zc_1153 :=
  zmet_of hw 0 (by decide) 4000 zk_1153 (by decide) (by decide) (fun X => ⟨zg_RX6 X, zp_RX6 X, zl1_RX6 X, zl2_RX6 X, nilz, nilz⟩)
set_option maxRecDepth 100000 in
theorem zk_1154 : zmeth zKS zuq zNS zm_1154 4000 = true := zqF (zdt_X6_tells) (by decide +kernel)
theorem zM_1154 {l : Launch} {D : va_G} {cI cZ cB cJ cR : ClassId} {ks ad : List Nat} {Psi : va_W → Prop} (hw : zworld ks ad zuq zNS Psi) (hm : zMan l D cI cZ cB cJ cR ks ad Psi) : zMet l D cI cZ cB cJ cR zKS ks ad Psi yX6_tells (.code yX6_tells cX6_tells 3 none) 0 zc_1154 :=
  zmet_of hw 0 (by decide) 4000 zk_1154 (by decide) (by decide) (fun X => ⟨zg_RX6 X, zp_RX6 X, zl1_RX6 X, zl2_RX6 X, nilz, nilz⟩)
set_option maxRecDepth 100000 in
theorem zk_1155 : zmeth zKS zuq zNS zm_1155 4000 = true := zqF (zdt_X6_tells) (by decide +kernel)
theorem zM_1155 {l : Launch} {D : va_G} {cI cZ cB cJ cR : ClassId} {ks ad : List Nat} {Psi : va_W → Prop} (hw : zworld ks ad zuq zNS Psi) (hm : zMan l D cI cZ cB cJ cR ks ad Psi) : zMet l D cI cZ cB cJ cR zKS ks ad Psi yX6_tells (.code yX6_tells cX6_tells 3 none) 0 zc_1155 :=
  zmet_of hw 0 (by decide) 4000 zk_1155 (by decide) (by decide) (fun X => ⟨zg_RX6 X, zp_RX6 X, zl1_RX6 X, zl2_RX6 X, nilz, nilz⟩)
set_option maxRecDepth 100000 in
theorem zk_280 : zmeth zKS zuq zNS zm_280 4000 = true := zqF (zdt0 _) (by decide +kernel)
theorem zM_280 {l : Launch} {D : va_G} {cI cZ cB cJ cR : ClassId} {ks ad : List Nat} {Psi : va_W → Prop} (hw : zworld ks ad zuq zNS Psi) (hm : zMan l D cI cZ cB cJ cR ks ad Psi) : zMet l D cI cZ cB cJ cR zKS ks ad Psi yX0_allHours (.code yX0_allHours cX0_allHours 1 (some .int)) 1 zc_280 :=
  zmet_of hw 1 (by decide) 4000 zk_280 (by decide) (by decide) (fun X => ⟨zg_RX0 X, zp_RX0 X, zl1_RX0 X, zl2_RX0 X, nilz, (List.forall_mem_cons.mpr ⟨zq_RX0_76 X (zM_298 hw hm) (by decide) rfl rfl, nilz⟩)⟩)
set_option maxRecDepth 100000 in
theorem zk_282 : zmeth zKS zuq zNS zm_282 4000 = true := zqF (zdt0 _) (by decide +kernel)
theorem zM_282 {l : Launch} {D : va_G} {cI cZ cB cJ cR : ClassId} {ks ad : List Nat} {Psi : va_W → Prop} (hw : zworld ks ad zuq zNS Psi) (hm : zMan l D cI cZ cB cJ cR ks ad Psi) : zMet l D cI cZ cB cJ cR zKS ks ad Psi yX0_chainFrom (.code yX0_chainFrom cX0_chainFrom 5 (some .int)) 1 zc_282 :=
  zmet_of hw 1 (by decide) 4000 zk_282 (by decide) (by decide) (fun X => ⟨zg_RX0 X, zp_RX0 X, zl1_RX0 X, zl2_RX0 X, nilz, (List.forall_mem_cons.mpr ⟨zq_RX0_72 X (zM_303 hw hm) (by decide) rfl rfl, (List.forall_mem_cons.mpr ⟨zq_RX0_98 X (zM_670 hw hm) (by decide) rfl, nilz⟩)⟩)⟩)
set_option maxRecDepth 100000 in
theorem zk_289 : zmeth zKS zuq zNS zm_289 4000 = true := zqF (zdt0 _) (by decide +kernel)
theorem zM_289 {l : Launch} {D : va_G} {cI cZ cB cJ cR : ClassId} {ks ad : List Nat} {Psi : va_W → Prop} (hw : zworld ks ad zuq zNS Psi) (hm : zMan l D cI cZ cB cJ cR ks ad Psi) : zMet l D cI cZ cB cJ cR zKS ks ad Psi yX0_fogFrom (.code yX0_fogFrom cX0_fogFrom 6 (some .int)) 1 zc_289 :=
  zmet_of hw 1 (by decide) 4000 zk_289 (by decide) (by decide) (fun X => ⟨zg_RX0 X, zp_RX0 X, zl1_RX0 X, zl2_RX0 X, nilz, (List.forall_mem_cons.mpr ⟨zq_RX0_76 X (zM_298 hw hm) (by decide) rfl rfl, nilz⟩)⟩)
set_option maxRecDepth 100000 in
theorem zk_299 : zmeth zKS zuq zNS zm_299 4000 = true := zqF (zdt0 _) (by decide +kernel)
theorem zM_299 {l : Launch} {D : va_G} {cI cZ cB cJ cR : ClassId} {ks ad : List Nat} {Psi : va_W → Prop} (hw : zworld ks ad zuq zNS Psi) (hm : zMan l D cI cZ cB cJ cR ks ad Psi) : zMet l D cI cZ cB cJ cR zKS ks ad Psi yX0_hoursSeen (.code yX0_hoursSeen cX0_hoursSeen 3 (some .int)) 1 zc_299 :=
  zmet_of hw 1 (by decide) 4000 zk_299 (by decide) (by decide) (fun X => ⟨zg_RX0 X, zp_RX0 X, zl1_RX0 X, zl2_RX0 X, nilz, (List.forall_mem_cons.mpr ⟨zq_RX0_95 X (zM_316 hw hm) (by decide) rfl rfl, (List.forall_mem_cons.mpr ⟨zq_RX0_101 X (zM_0 hw hm) (by decide) rfl, nilz⟩)⟩)⟩)
set_option maxRecDepth 100000 in
theorem zk_301 : zmeth zKS zuq zNS zm_301 4000 = true := zqF (zdt0 _) (by decide +kernel)
theorem zM_301 {l : Launch} {D : va_G} {cI cZ cB cJ cR : ClassId} {ks ad : List Nat} {Psi : va_W → Prop} (hw : zworld ks ad zuq zNS Psi) (hm : zMan l D cI cZ cB cJ cR ks ad Psi) : zMet l D cI cZ cB cJ cR zKS ks ad Psi yX0_isHour (.code yX0_isHour cX0_isHour 3 (some .boolean)) 1 zc_301 :=
  zmet_of hw 1 (by decide) 4000 zk_301 (by decide) (by decide) (fun X => ⟨zg_RX0 X, zp_RX0 X, zl1_RX0 X, zl2_RX0 X, nilz, (List.forall_mem_cons.mpr ⟨zq_RX0_76 X (zM_298 hw hm) (by decide) rfl rfl, nilz⟩)⟩)
set_option maxRecDepth 100000 in
theorem zk_302 : zmeth zKS zuq zNS zm_302 4000 = true := zqF (zdt0 _) (by decide +kernel)
theorem zM_302 {l : Launch} {D : va_G} {cI cZ cB cJ cR : ClassId} {ks ad : List Nat} {Psi : va_W → Prop} (hw : zworld ks ad zuq zNS Psi) (hm : zMan l D cI cZ cB cJ cR ks ad Psi) : zMet l D cI cZ cB cJ cR zKS ks ad Psi yX0_isPair (.code yX0_isPair cX0_isPair 5 (some .boolean)) 1 zc_302 :=
  zmet_of hw 1 (by decide) 4000 zk_302 (by decide) (by decide) (fun X => ⟨zg_RX0 X, zp_RX0 X, zl1_RX0 X, zl2_RX0 X, nilz, (List.forall_mem_cons.mpr ⟨zq_RX0_72 X (zM_303 hw hm) (by decide) rfl rfl, nilz⟩)⟩)
set_option maxRecDepth 100000 in
theorem zk_304 : zmeth zKS zuq zNS zm_304 4000 = true := zqF (zdt0 _) (by decide +kernel)
theorem zM_304 {l : Launch} {D : va_G} {cI cZ cB cJ cR : ClassId} {ks ad : List Nat} {Psi : va_W → Prop} (hw : zworld ks ad zuq zNS Psi) (hm : zMan l D cI cZ cB cJ cR ks ad Psi) : zMet l D cI cZ cB cJ cR zKS ks ad Psi yX0_isPlace (.code yX0_isPlace cX0_isPlace 3 (some .boolean)) 1 zc_304 :=
  zmet_of hw 1 (by decide) 4000 zk_304 (by decide) (by decide) (fun X => ⟨zg_RX0 X, zp_RX0 X, zl1_RX0 X, zl2_RX0 X, nilz, (List.forall_mem_cons.mpr ⟨zq_RX0_80 X (zM_313 hw hm) (by decide) rfl rfl, nilz⟩)⟩)
set_option maxRecDepth 100000 in
theorem zk_309 : zmeth zKS zuq zNS zm_309 4000 = true := zqF (zdt0 _) (by decide +kernel)
theorem zM_309 {l : Launch} {D : va_G} {cI cZ cB cJ cR : ClassId} {ks ad : List Nat} {Psi : va_W → Prop} (hw : zworld ks ad zuq zNS Psi) (hm : zMan l D cI cZ cB cJ cR ks ad Psi) : zMet l D cI cZ cB cJ cR zKS ks ad Psi yX0_manyIn (.code yX0_manyIn cX0_manyIn 5 (some .int)) 1 zc_309 :=
  zmet_of hw 1 (by decide) 4000 zk_309 (by decide) (by decide) (fun X => ⟨zg_RX0 X, zp_RX0 X, zl1_RX0 X, zl2_RX0 X, nilz, (List.forall_mem_cons.mpr ⟨zq_RX0_65 X (zM_312 hw hm) (by decide) rfl rfl, nilz⟩)⟩)
set_option maxRecDepth 100000 in
theorem zk_311 : zmeth zKS zuq zNS zm_311 4000 = true := zqF (zdt0 _) (by decide +kernel)
theorem zM_311 {l : Launch} {D : va_G} {cI cZ cB cJ cR : ClassId} {ks ad : List Nat} {Psi : va_W → Prop} (hw : zworld ks ad zuq zNS Psi) (hm : zMan l D cI cZ cB cJ cR ks ad Psi) : zMet l D cI cZ cB cJ cR zKS ks ad Psi yX0_nearBits (.code yX0_nearBits cX0_nearBits 5 (some .int)) 1 zc_311 :=
  zmet_of hw 1 (by decide) 4000 zk_311 (by decide) (by decide) (fun X => ⟨zg_RX0 X, zp_RX0 X, zl1_RX0 X, zl2_RX0 X, nilz, (List.forall_mem_cons.mpr ⟨zq_RX0_65 X (zM_312 hw hm) (by decide) rfl rfl, (List.forall_mem_cons.mpr ⟨zq_RX0_76 X (zM_298 hw hm) (by decide) rfl rfl, (List.forall_mem_cons.mpr ⟨zq_abs X (by decide) lm_43_0 lm_40_12 lm_11_7 lm_40_13 (by decide), nilz⟩)⟩)⟩)⟩)
set_option maxRecDepth 100000 in
theorem zk_314 : zmeth zKS zuq zNS zm_314 4000 = true := zqF (zdt0 _) (by decide +kernel)
theorem zM_314 {l : Launch} {D : va_G} {cI cZ cB cJ cR : ClassId} {ks ad : List Nat} {Psi : va_W → Prop} (hw : zworld ks ad zuq zNS Psi) (hm : zMan l D cI cZ cB cJ cR ks ad Psi) : zMet l D cI cZ cB cJ cR zKS ks ad Psi yX0_reaches (.code yX0_reaches cX0_reaches 6 (some .boolean)) 1 zc_314 :=
  zmet_of hw 1 (by decide) 4000 zk_314 (by decide) (by decide) (fun X => ⟨zg_RX0 X, zp_RX0 X, zl1_RX0 X, zl2_RX0 X, nilz, (List.forall_mem_cons.mpr ⟨zq_min X (by decide) lm_13_8 lm_11_6 lm_11_7 lm_11_8 (by decide) (by decide), (List.forall_mem_cons.mpr ⟨zq_max X (by decide) lm_13_9 lm_13_10 lm_11_7 lm_13_11 (by decide) (by decide), nilz⟩)⟩)⟩)
set_option maxRecDepth 100000 in
theorem zk_318 : zmeth zKS zuq zNS zm_318 4000 = true := zqF (zdt0 _) (by decide +kernel)
theorem zM_318 {l : Launch} {D : va_G} {cI cZ cB cJ cR : ClassId} {ks ad : List Nat} {Psi : va_W → Prop} (hw : zworld ks ad zuq zNS Psi) (hm : zMan l D cI cZ cB cJ cR ks ad Psi) : zMet l D cI cZ cB cJ cR zKS ks ad Psi yX0_seenByAny (.code yX0_seenByAny cX0_seenByAny 5 (some .int)) 1 zc_318 :=
  zmet_of hw 1 (by decide) 4000 zk_318 (by decide) (by decide) (fun X => ⟨zg_RX0 X, zp_RX0 X, zl1_RX0 X, zl2_RX0 X, nilz, (List.forall_mem_cons.mpr ⟨zq_RX0_95 X (zM_316 hw hm) (by decide) rfl rfl, (List.forall_mem_cons.mpr ⟨zq_RX0_98 X (zM_670 hw hm) (by decide) rfl, nilz⟩)⟩)⟩)
set_option maxRecDepth 100000 in
theorem zk_319 : zmeth zKS zuq zNS zm_319 4000 = true := zqF (zdt0 _) (by decide +kernel)
theorem zM_319 {l : Launch} {D : va_G} {cI cZ cB cJ cR : ClassId} {ks ad : List Nat} {Psi : va_W → Prop} (hw : zworld ks ad zuq zNS Psi) (hm : zMan l D cI cZ cB cJ cR ks ad Psi) : zMet l D cI cZ cB cJ cR zKS ks ad Psi yX0_seesIn (.code yX0_seesIn cX0_seesIn 4 (some .boolean)) 1 zc_319 :=
  zmet_of hw 1 (by decide) 4000 zk_319 (by decide) (by decide) (fun X => ⟨zg_RX0 X, zp_RX0 X, zl1_RX0 X, zl2_RX0 X, nilz, (List.forall_mem_cons.mpr ⟨zq_RX0_95 X (zM_316 hw hm) (by decide) rfl rfl, (List.forall_mem_cons.mpr ⟨zq_RX0_98 X (zM_670 hw hm) (by decide) rfl, nilz⟩)⟩)⟩)
set_option maxRecDepth 100000 in
theorem zk_329 : zmeth zKS zuq zNS zm_329 4000 = true := zqF (zdt0 _) (by decide +kernel)
theorem zM_329 {l : Launch} {D : va_G} {cI cZ cB cJ cR : ClassId} {ks ad : List Nat} {Psi : va_W → Prop} (hw : zworld ks ad zuq zNS Psi) (hm : zMan l D cI cZ cB cJ cR ks ad Psi) : zMet l D cI cZ cB cJ cR zKS ks ad Psi yX1_firstFrom (.code yX1_firstFrom cX1_firstFrom 6 (some .int)) 1 zc_329 :=
  zmet_of hw 1 (by decide) 4000 zk_329 (by decide) (by decide) (fun X => ⟨zg_RX1 X, zp_RX1 X, zl1_RX1 X, zl2_RX1 X, nilz, (List.forall_mem_cons.mpr ⟨zq_abs X (by decide) lm_40_11 lm_40_12 lm_11_7 lm_40_13 (by decide), nilz⟩)⟩)
set_option maxRecDepth 100000 in
theorem zk_331 : zmeth zKS zuq zNS zm_331 4000 = true := zqF (zdt0 _) (by decide +kernel)
theorem zM_331 {l : Launch} {D : va_G} {cI cZ cB cJ cR : ClassId} {ks ad : List Nat} {Psi : va_W → Prop} (hw : zworld ks ad zuq zNS Psi) (hm : zMan l D cI cZ cB cJ cR ks ad Psi) : zMet l D cI cZ cB cJ cR zKS ks ad Psi yX1_most (.code yX1_most cX1_most 3 (some .int)) 1 zc_331 :=
  zmet_of hw 1 (by decide) 4000 zk_331 (by decide) (by decide) (fun X => ⟨zg_RX1 X, zp_RX1 X, zl1_RX1 X, zl2_RX1 X, nilz, (List.forall_mem_cons.mpr ⟨zq_max X (by decide) lm_40_21 lm_13_10 lm_11_7 lm_13_11 (by decide) (by decide), nilz⟩)⟩)
set_option maxRecDepth 100000 in
theorem zk_333 : zmeth zKS zuq zNS zm_333 4000 = true := zqF (zdt0 _) (by decide +kernel)
theorem zM_333 {l : Launch} {D : va_G} {cI cZ cB cJ cR : ClassId} {ks ad : List Nat} {Psi : va_W → Prop} (hw : zworld ks ad zuq zNS Psi) (hm : zMan l D cI cZ cB cJ cR ks ad Psi) : zMet l D cI cZ cB cJ cR zKS ks ad Psi yX1_planFrom (.code yX1_planFrom cX1_planFrom 7 none) 1 zc_333 :=
  zmet_of hw 1 (by decide) 4000 zk_333 (by decide) (by decide) (fun X => ⟨zg_RX1 X, zp_RX1 X, zl1_RX1 X, zl2_RX1 X, nilz, (List.forall_mem_cons.mpr ⟨zq_abs X (by decide) lm_40_11 lm_40_12 lm_11_7 lm_40_13 (by decide), (List.forall_mem_cons.mpr ⟨zq_RX1_69 X (zM_330 hw hm) (by decide) rfl rfl, nilz⟩)⟩)⟩)
