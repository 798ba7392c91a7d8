set_option maxRecDepth 100000 in
theorem zk_1108 : zmeth zKS zuq zNS zm_1108 4000 = true := by decide +kernel
set_option maxRecDepth 100000 in
theorem zM_1108 {l : Launch} {D : va_G} {cI cZ cB cJ cR : ClassId} {ks ad : List Nat} {Psi : va_W → Prop} (hw : zworld ks ad zuq zNS Psi) (hm : zMan l D cI cZ cB cJ cR ks ad Psi) : zMet l D cI cZ cB cJ cR zKS ks ad Psi yX6_rotas (.code yX6_rotas cX6_rotas 5 none) 8 zc_1108 :=
  zmet_of hw 8 (by decide) 4000 zk_1108 (by decide) (by decide) (fun X => ⟨zg_RX6 X, zp_RX6 X, zl1_RX6 X, zl2_RX6 X, nilz, (List.forall_mem_cons.mpr ⟨zq_RX6_227 X (zM_1061 hw hm) (by decide) rfl rfl, (List.forall_mem_cons.mpr ⟨zq_RX6_303 X (zM_1068 hw hm) (by decide) rfl rfl, nilz⟩)⟩)⟩)
set_option maxRecDepth 100000 in
theorem zk_627 : zmeth zKS zuq zNS zm_627 4000 = true := by decide +kernel
set_option maxRecDepth 100000 in
theorem zM_627 {l : Launch} {D : va_G} {cI cZ cB cJ cR : ClassId} {ks ad : List Nat} {Psi : va_W → Prop} (hw : zworld ks ad zuq zNS Psi) (hm : zMan l D cI cZ cB cJ cR ks ad Psi) : zMet l D cI cZ cB cJ cR zKS ks ad Psi yX4_takeWord (.code yX4_takeWord cX4_takeWord 2 (some .boolean)) 9 zc_627 :=
  zmet_of hw 9 (by decide) 4000 zk_627 (by decide) (by decide) (fun X => ⟨zg_RX4 X, zp_RX4 X, zl1_RX4 X, zl2_RX4 X, nilz, (List.forall_mem_cons.mpr ⟨zq_RX4_33 X (zM_628 hw hm) (by decide) rfl rfl, (List.forall_mem_cons.mpr ⟨zq_RX4_58 X (zman_604 hm) (by decide) rfl rfl, (List.forall_mem_cons.mpr ⟨zq_RX4_109 X (zM_607 hw hm) (by decide) rfl rfl, nilz⟩)⟩)⟩)⟩)
set_option maxRecDepth 100000 in
theorem zk_1094 : zmeth zKS zuq zNS zm_1094 4000 = true := by decide +kernel
set_option maxRecDepth 100000 in
theorem zM_1094 {l : Launch} {D : va_G} {cI cZ cB cJ cR : ClassId} {ks ad : List Nat} {Psi : va_W → Prop} (hw : zworld ks ad zuq zNS Psi) (hm : zMan l D cI cZ cB cJ cR ks ad Psi) : zMet l D cI cZ cB cJ cR zKS ks ad Psi yX6_rotas (.code yX6_rotas cX6_rotas 5 none) 9 zc_1094 :=
  zmet_of hw 9 (by decide) 4000 zk_1094 (by decide) (by decide) (fun X => ⟨zg_RX6 X, zp_RX6 X, zl1_RX6 X, zl2_RX6 X, nilz, (List.forall_mem_cons.mpr ⟨zq_RX6_227 X (zM_1061 hw hm) (by decide) rfl rfl, (List.forall_mem_cons.mpr ⟨zq_RX6_240 X (zM_921 hw hm) (by decide) rfl, (List.forall_mem_cons.mpr ⟨zq_RX6_303 X (zM_1069 hw hm) (by decide) rfl rfl, (List.forall_mem_cons.mpr ⟨zq_RX6_306 X (zM_1099 hw hm) (by decide) rfl rfl, nilz⟩)⟩)⟩)⟩)⟩)
set_option maxRecDepth 100000 in
theorem zk_1095 : zmeth zKS zuq zNS zm_1095 4000 = true := by decide +kernel
set_option maxRecDepth 100000 in
theorem zM_1095 {l : Launch} {D : va_G} {cI cZ cB cJ cR : ClassId} {ks ad : List Nat} {Psi : va_W → Prop} (hw : zworld ks ad zuq zNS Psi) (hm : zMan l D cI cZ cB cJ cR ks ad Psi) : zMet l D cI cZ cB cJ cR zKS ks ad Psi yX6_rotas (.code yX6_rotas cX6_rotas 5 none) 9 zc_1095 :=
  zmet_of hw 9 (by decide) 4000 zk_1095 (by decide) (by decide) (fun X => ⟨zg_RX6 X, zp_RX6 X, zl1_RX6 X, zl2_RX6 X, nilz, (List.forall_mem_cons.mpr ⟨zq_RX6_227 X (zM_1061 hw hm) (by decide) rfl rfl, (List.forall_mem_cons.mpr ⟨zq_RX6_240 X (zM_921 hw hm) (by decide) rfl, (List.forall_mem_cons.mpr ⟨zq_RX6_303 X (zM_1070 hw hm) (by decide) rfl rfl, (List.forall_mem_cons.mpr ⟨zq_RX6_306 X (zM_1100 hw hm) (by decide) rfl rfl, nilz⟩)⟩)⟩)⟩)⟩)
set_option maxRecDepth 100000 in
theorem zk_1096 : zmeth zKS zuq zNS zm_1096 4000 = true := by decide +kernel
set_option maxRecDepth 100000 in
theorem zM_1096 {l : Launch} {D : va_G} {cI cZ cB cJ cR : ClassId} {ks ad : List Nat} {Psi : va_W → Prop} (hw : zworld ks ad zuq zNS Psi) (hm : zMan l D cI cZ cB cJ cR ks ad Psi) : zMet l D cI cZ cB cJ cR zKS ks ad Psi yX6_rotas (.code yX6_rotas cX6_rotas 5 none) 9 zc_1096 :=
  zmet_of hw 9 (by decide) 4000 zk_1096 (by decide) (by decide) (fun X => ⟨zg_RX6 X, zp_RX6 X, zl1_RX6 X, zl2_RX6 X, nilz, (List.forall_mem_cons.mpr ⟨zq_RX6_227 X (zM_1061 hw hm) (by decide) rfl rfl, (List.forall_mem_cons.mpr ⟨zq_RX6_240 X (zM_921 hw hm) (by decide) rfl, (List.forall_mem_cons.mpr ⟨zq_RX6_303 X (zM_1071 hw hm) (by decide) rfl rfl, (List.forall_mem_cons.mpr ⟨zq_RX6_306 X (zM_1101 hw hm) (by decide) rfl rfl, nilz⟩)⟩)⟩)⟩)⟩)
set_option maxRecDepth 100000 in
theorem zk_1097 : zmeth zKS zuq zNS zm_1097 4000 = true := by decide +kernel
set_option maxRecDepth 100000 in
theorem zM_1097 {l : Launch} {D : va_G} {cI cZ cB cJ cR : ClassId} {ks ad : List Nat} {Psi : va_W → Prop} (hw : zworld ks ad zuq zNS Psi) (hm : zMan l D cI cZ cB cJ cR ks ad Psi) : zMet l D cI cZ cB cJ cR zKS ks ad Psi yX6_rotas (.code yX6_rotas cX6_rotas 5 none) 9 zc_1097 :=
  zmet_of hw 9 (by decide) 4000 zk_1097 (by decide) (by decide) (fun X => ⟨zg_RX6 X, zp_RX6 X, zl1_RX6 X, zl2_RX6 X, nilz, (List.forall_mem_cons.mpr ⟨zq_RX6_227 X (zM_1061 hw hm) (by decide) rfl rfl, (List.forall_mem_cons.mpr ⟨zq_RX6_240 X (zM_921 hw hm) (by decide) rfl, (List.forall_mem_cons.mpr ⟨zq_RX6_303 X (zM_1072 hw hm) (by decide) rfl rfl, (List.forall_mem_cons.mpr ⟨zq_RX6_306 X (zM_1102 hw hm) (by decide) rfl rfl, nilz⟩)⟩)⟩)⟩)⟩)
set_option maxRecDepth 100000 in
theorem zk_1103 : zmeth zKS zuq zNS zm_1103 4000 = true := by decide +kernel
set_option maxRecDepth 100000 in
theorem zM_1103 {l : Launch} {D : va_G} {cI cZ cB cJ cR : ClassId} {ks ad : List Nat} {Psi : va_W → Prop} (hw : zworld ks ad zuq zNS Psi) (hm : zMan l D cI cZ cB cJ cR ks ad Psi) : zMet l D cI cZ cB cJ cR zKS ks ad Psi yX6_rotas (.code yX6_rotas cX6_rotas 5 none) 9 zc_1103 :=
  zmet_of hw 9 (by decide) 4000 zk_1103 (by decide) (by decide) (fun X => ⟨zg_RX6 X, zp_RX6 X, zl1_RX6 X, zl2_RX6 X, nilz, (List.forall_mem_cons.mpr ⟨zq_RX6_227 X (zM_1061 hw hm) (by decide) rfl rfl, (List.forall_mem_cons.mpr ⟨zq_RX6_240 X (zM_921 hw hm) (by decide) rfl, (List.forall_mem_cons.mpr ⟨zq_RX6_303 X (zM_1068 hw hm) (by decide) rfl rfl, (List.forall_mem_cons.mpr ⟨zq_RX6_306 X (zM_1108 hw hm) (by decide) rfl rfl, nilz⟩)⟩)⟩)⟩)⟩)
set_option maxRecDepth 100000 in
theorem zk_610 : zmeth zKS zuq zNS zm_610 4000 = true := by decide +kernel
set_option maxRecDepth 100000 in
theorem zM_610 {l : Launch} {D : va_G} {cI cZ cB cJ cR : ClassId} {ks ad : List Nat} {Psi : va_W → Prop} (hw : zworld ks ad zuq zNS Psi) (hm : zMan l D cI cZ cB cJ cR ks ad Psi) : zMet l D cI cZ cB cJ cR zKS ks ad Psi yX4_takeCityLine (.code yX4_takeCityLine cX4_takeCityLine 3 (some .boolean)) 10 zc_610 :=
  zmet_of hw 10 (by decide) 4000 zk_610 (by decide) (by decide) (fun X => ⟨zg_RX4 X, zp_RX4 X, zl1_RX4 X, zl2_RX4 X, (List.forall_mem_cons.mpr ⟨zs_ldc X rfl (List.mem_of_getElem? (i := 13) rfl), (List.forall_mem_cons.mpr ⟨zs_lowN X zw_RX4_82, (List.forall_mem_cons.mpr ⟨zs_highN X zw_RX4_86, nilz⟩)⟩)⟩), (List.forall_mem_cons.mpr ⟨zq_RX4_75 X (zM_627 hw hm) (by decide) rfl rfl, (List.forall_mem_cons.mpr ⟨zq_RX4_78 X (zM_606 hw hm) (by decide) rfl, (List.forall_mem_cons.mpr ⟨zq_RX4_89 X (zM_617 hw hm) (by decide) rfl rfl, (List.forall_mem_cons.mpr ⟨zq_RX4_89 X (zM_619 hw hm) (by decide) rfl rfl, (List.forall_mem_cons.mpr ⟨zq_RX4_89 X (zM_620 hw hm) (by decide) rfl rfl, (List.forall_mem_cons.mpr ⟨zq_RX4_89 X (zM_621 hw hm) (by decide) rfl rfl, (List.forall_mem_cons.mpr ⟨zq_RX4_89 X (zM_622 hw hm) (by decide) rfl rfl, (List.forall_mem_cons.mpr ⟨zq_RX4_89 X (zM_623 hw hm) (by decide) rfl rfl, nilz⟩)⟩)⟩)⟩)⟩)⟩)⟩)⟩)⟩)
set_option maxRecDepth 100000 in
theorem zk_611 : zmeth zKS zuq zNS zm_611 4000 = true := by decide +kernel
set_option maxRecDepth 100000 in
theorem zM_611 {l : Launch} {D : va_G} {cI cZ cB cJ cR : ClassId} {ks ad : List Nat} {Psi : va_W → Prop} (hw : zworld ks ad zuq zNS Psi) (hm : zMan l D cI cZ cB cJ cR ks ad Psi) : zMet l D cI cZ cB cJ cR zKS ks ad Psi yX4_takeErrandLine (.code yX4_takeErrandLine cX4_takeErrandLine 4 (some .boolean)) 10 zc_611 :=
  zmet_of hw 10 (by decide) 4000 zk_611 (by decide) (by decide) (fun X => ⟨zg_RX4 X, zp_RX4 X, zl1_RX4 X, zl2_RX4 X, (List.forall_mem_cons.mpr ⟨zs_ldc X rfl (List.mem_of_getElem? (i := 0) rfl), (List.forall_mem_cons.mpr ⟨zs_ldc X rfl (List.mem_of_getElem? (i := 2) rfl), (List.forall_mem_cons.mpr ⟨zs_ldc X rfl (List.mem_of_getElem? (i := 3) rfl), nilz⟩)⟩)⟩), (List.forall_mem_cons.mpr ⟨zq_RX4_75 X (zM_627 hw hm) (by decide) rfl rfl, (List.forall_mem_cons.mpr ⟨zq_RX4_89 X (zM_614 hw hm) (by decide) rfl rfl, (List.forall_mem_cons.mpr ⟨zq_RX4_89 X (zM_615 hw hm) (by decide) rfl rfl, (List.forall_mem_cons.mpr ⟨zq_RX4_89 X (zM_613 hw hm) (by decide) rfl rfl, (List.forall_mem_cons.mpr ⟨zq_RX4_99 X (zM_313 hw hm) (by decide) rfl rfl, (List.forall_mem_cons.mpr ⟨zq_RX4_125 X (zM_298 hw hm) (by decide) rfl rfl, (List.forall_mem_cons.mpr ⟨zq_RX4_128 X (zM_320 hw hm) (by decide) rfl rfl, nilz⟩)⟩)⟩)⟩)⟩)⟩)⟩)⟩)
set_option maxRecDepth 100000 in
theorem zk_624 : zmeth zKS zuq zNS zm_624 4000 = true := by decide +kernel
set_option maxRecDepth 100000 in
theorem zM_624 {l : Launch} {D : va_G} {cI cZ cB cJ cR : ClassId} {ks ad : List Nat} {Psi : va_W → Prop} (hw : zworld ks ad zuq zNS Psi) (hm : zMan l D cI cZ cB cJ cR ks ad Psi) : zMet l D cI cZ cB cJ cR zKS ks ad Psi yX4_takePersonLine (.code yX4_takePersonLine cX4_takePersonLine 4 (some .boolean)) 10 zc_624 :=
  zmet_of hw 10 (by decide) 4000 zk_624 (by decide) (by decide) (fun X => ⟨zg_RX4 X, zp_RX4 X, zl1_RX4 X, zl2_RX4 X, (List.forall_mem_cons.mpr ⟨zs_ldc X rfl (List.mem_of_getElem? (i := 12) rfl), (List.forall_mem_cons.mpr ⟨zs_ldc X rfl (List.mem_of_getElem? (i := 0) rfl), (List.forall_mem_cons.mpr ⟨zs_ldc X rfl (List.mem_of_getElem? (i := 1) rfl), nilz⟩)⟩)⟩), (List.forall_mem_cons.mpr ⟨zq_RX4_58 X (zman_604 hm) (by decide) rfl rfl, (List.forall_mem_cons.mpr ⟨zq_RX4_75 X (zM_627 hw hm) (by decide) rfl rfl, (List.forall_mem_cons.mpr ⟨zq_RX4_89 X (zM_618 hw hm) (by decide) rfl rfl, (List.forall_mem_cons.mpr ⟨zq_RX4_89 X (zM_615 hw hm) (by decide) rfl rfl, (List.forall_mem_cons.mpr ⟨zq_RX4_99 X (zM_313 hw hm) (by decide) rfl rfl, (List.forall_mem_cons.mpr ⟨zq_RX4_109 X (zM_607 hw hm) (by decide) rfl rfl, (List.forall_mem_cons.mpr ⟨zq_RX4_117 X (zman_321 hm) (by decide) rfl rfl, nilz⟩)⟩)⟩)⟩)⟩)⟩)⟩)⟩)
set_option maxRecDepth 100000 in
theorem zk_626 : zmeth zKS zuq zNS zm_626 4000 = true := by decide +kernel
set_option maxRecDepth 100000 in
theorem zM_626 {l : Launch} {D : va_G} {cI cZ cB cJ cR : ClassId} {ks ad : List Nat} {Psi : va_W → Prop} (hw : zworld ks ad zuq zNS Psi) (hm : zMan l D cI cZ cB cJ cR ks ad Psi) : zMet l D cI cZ cB cJ cR zKS ks ad Psi yX4_takeWallLine (.code yX4_takeWallLine cX4_takeWallLine 2 (some .boolean)) 10 zc_626 :=
  zmet_of hw 10 (by decide) 4000 zk_626 (by decide) (by decide) (fun X => ⟨zg_RX4 X, zp_RX4 X, zl1_RX4 X, zl2_RX4 X, (List.forall_mem_cons.mpr ⟨zs_ldc X rfl (List.mem_of_getElem? (i := 11) rfl), nilz⟩), (List.forall_mem_cons.mpr ⟨zq_RX4_75 X (zM_627 hw hm) (by decide) rfl rfl, (List.forall_mem_cons.mpr ⟨zq_RX4_89 X (zM_616 hw hm) (by decide) rfl rfl, (List.forall_mem_cons.mpr ⟨zq_RX4_99 X (zM_313 hw hm) (by decide) rfl rfl, nilz⟩)⟩)⟩)⟩)
set_option maxRecDepth 100000 in
theorem zk_1089 : zmeth zKS zuq zNS zm_1089 4000 = true := by decide +kernel
set_option maxRecDepth 100000 in
theorem zM_1089 {l : Launch} {D : va_G} {cI cZ cB cJ cR : ClassId} {ks ad : List Nat} {Psi : va_W → Prop} (hw : zworld ks ad zuq zNS Psi) (hm : zMan l D cI cZ cB cJ cR ks ad Psi) : zMet l D cI cZ cB cJ cR zKS ks ad Psi yX6_rotas (.code yX6_rotas cX6_rotas 5 none) 10 zc_1089 :=
  zmet_of hw 10 (by decide) 4000 zk_1089 (by decide) (by decide) (fun X => ⟨zg_RX6 X, zp_RX6 X, zl1_RX6 X, zl2_RX6 X, nilz, (List.forall_mem_cons.mpr ⟨zq_RX6_227 X (zM_1061 hw hm) (by decide) rfl rfl, (List.forall_mem_cons.mpr ⟨zq_RX6_240 X (zM_921 hw hm) (by decide) rfl, (List.forall_mem_cons.mpr ⟨zq_RX6_303 X (zM_1069 hw hm) (by decide) rfl rfl, (List.forall_mem_cons.mpr ⟨zq_RX6_306 X (zM_1094 hw hm) (by decide) rfl rfl, nilz⟩)⟩)⟩)⟩)⟩)
set_option maxRecDepth 100000 in
theorem zk_1090 : zmeth zKS zuq zNS zm_1090 4000 = true := by decide +kernel
set_option maxRecDepth 100000 in
theorem zM_1090 {l : Launch} {D : va_G} {cI cZ cB cJ cR : ClassId} {ks ad : List Nat} {Psi : va_W → Prop} (hw : zworld ks ad zuq zNS Psi) (hm : zMan l D cI cZ cB cJ cR ks ad Psi) : zMet l D cI cZ cB cJ cR zKS ks ad Psi yX6_rotas (.code yX6_rotas cX6_rotas 5 none) 10 zc_1090 :=
  zmet_of hw 10 (by decide) 4000 zk_1090 (by decide) (by decide) (fun X => ⟨zg_RX6 X, zp_RX6 X, zl1_RX6 X, zl2_RX6 X, nilz, (List.forall_mem_cons.mpr ⟨zq_RX6_227 X (zM_1061 hw hm) (by decide) rfl rfl, (List.forall_mem_cons.mpr ⟨zq_RX6_240 X (zM_921 hw hm) (by decide) rfl, (List.forall_mem_cons.mpr ⟨zq_RX6_303 X (zM_1070 hw hm) (by decide) rfl rfl, (List.forall_mem_cons.mpr ⟨zq_RX6_306 X (zM_1095 hw hm) (by decide) rfl rfl, nilz⟩)⟩)⟩)⟩)⟩)
set_option maxRecDepth 100000 in
theorem zk_1091 : zmeth zKS zuq zNS zm_1091 4000 = true := by decide +kernel
set_option maxRecDepth 100000 in
theorem zM_1091 {l : Launch} {D : va_G} {cI cZ cB cJ cR : ClassId} {ks ad : List Nat} {Psi : va_W → Prop} (hw : zworld ks ad zuq zNS Psi) (hm : zMan l D cI cZ cB cJ cR ks ad Psi) : zMet l D cI cZ cB cJ cR zKS ks ad Psi yX6_rotas (.code yX6_rotas cX6_rotas 5 none) 10 zc_1091 :=
  zmet_of hw 10 (by decide) 4000 zk_1091 (by decide) (by decide) (fun X => ⟨zg_RX6 X, zp_RX6 X, zl1_RX6 X, zl2_RX6 X, nilz, (List.forall_mem_cons.mpr ⟨zq_RX6_227 X (zM_1061 hw hm) (by decide) rfl rfl, (List.forall_mem_cons.mpr ⟨zq_RX6_240 X (zM_921 hw hm) (by decide) rfl, (List.forall_mem_cons.mpr ⟨zq_RX6_303 X (zM_1071 hw hm) (by decide) rfl rfl, (List.forall_mem_cons.mpr ⟨zq_RX6_306 X (zM_1096 hw hm) (by decide) rfl rfl, nilz⟩)⟩)⟩)⟩)⟩)
set_option maxRecDepth 100000 in
theorem zk_1092 : zmeth zKS zuq zNS zm_1092 4000 = true := by decide +kernel
set_option maxRecDepth 100000 in
theorem zM_1092 {l : Launch} {D : va_G} {cI cZ cB cJ cR : ClassId} {ks ad : List Nat} {Psi : va_W → Prop} (hw : zworld ks ad zuq zNS Psi) (hm : zMan l D cI cZ cB cJ cR ks ad Psi) : zMet l D cI cZ cB cJ cR zKS ks ad Psi yX6_rotas (.code yX6_rotas cX6_rotas 5 none) 10 zc_1092 :=
  zmet_of hw 10 (by decide) 4000 zk_1092 (by decide) (by decide) (fun X => ⟨zg_RX6 X, zp_RX6 X, zl1_RX6 X, zl2_RX6 X, nilz, (List.forall_mem_cons.mpr ⟨zq_RX6_227 X (zM_1061 hw hm) (by decide) rfl rfl, (List.forall_mem_cons.mpr ⟨zq_RX6_240 X (zM_921 hw hm) (by decide) rfl, (List.forall_mem_cons.mpr ⟨zq_RX6_303 X (zM_1072 hw hm) (by decide) rfl rfl, (List.forall_mem_cons.mpr ⟨zq_RX6_306 X (zM_1097 hw hm) (by decide) rfl rfl, nilz⟩)⟩)⟩)⟩)⟩)
set_option maxRecDepth 100000 in
theorem zk_1098 : zmeth zKS zuq zNS zm_1098 4000 = true := by decide +kernel
set_option maxRecDepth 100000 in
theorem zM_1098 {l : Launch} {D : va_G} {cI cZ cB cJ cR : ClassId} {ks ad : List Nat} {Psi : va_W → Prop} (hw : zworld ks ad zuq zNS Psi) (hm : zMan l D cI cZ cB cJ cR ks ad Psi) : zMet l D cI cZ cB cJ cR zKS ks ad Psi yX6_rotas (.code yX6_rotas cX6_rotas 5 none) 10 zc_1098 :=
  zmet_of hw 10 (by decide) 4000 zk_1098 (by decide) (by decide) (fun X => ⟨zg_RX6 X, zp_RX6 X, zl1_RX6 X, zl2_RX6 X, nilz, (List.forall_mem_cons.mpr ⟨zq_RX6_227 X (zM_1061 hw hm) (by decide) rfl rfl, (List.forall_mem_cons.mpr ⟨zq_RX6_240 X (zM_921 hw hm) (by decide) rfl, (List.forall_mem_cons.mpr ⟨zq_RX6_303 X (zM_1068 hw hm) (by decide) rfl rfl, (List.forall_mem_cons.mpr ⟨zq_RX6_306 X (zM_1103 hw hm) (by decide) rfl rfl, nilz⟩)⟩)⟩)⟩)⟩)
set_option maxRecDepth 100000 in
theorem zk_612 : zmeth zKS zuq zNS zm_612 4000 = true := by decide +kernel
set_option maxRecDepth 100000 in
theorem zM_612 {l : Launch} {D : va_G} {cI cZ cB cJ cR : ClassId} {ks ad : List Nat} {Psi : va_W → Prop} (hw : zworld ks ad zuq zNS Psi) (hm : zMan l D cI cZ cB cJ cR ks ad Psi) : zMet l D cI cZ cB cJ cR zKS ks ad Psi yX4_takeLine (.code yX4_takeLine cX4_takeLine 2 (some .boolean)) 11 zc_612 :=
  zmet_of hw 11 (by decide) 4000 zk_612 (by decide) (by decide) (fun X => ⟨zg_RX4 X, zp_RX4 X, zl1_RX4 X, zl2_RX4 X, (List.forall_mem_cons.mpr ⟨zs_ldc X rfl (List.mem_of_getElem? (i := 11) rfl), (List.forall_mem_cons.mpr ⟨zs_ldc X rfl (List.mem_of_getElem? (i := 12) rfl), nilz⟩)⟩), (List.forall_mem_cons.mpr ⟨zq_RX4_53 X (zM_610 hw hm) (by decide) rfl rfl, (List.forall_mem_cons.mpr ⟨zq_RX4_58 X (zman_604 hm) (by decide) rfl rfl, (List.forall_mem_cons.mpr ⟨zq_RX4_62 X (zM_626 hw hm) (by decide) rfl rfl, (List.forall_mem_cons.mpr ⟨zq_RX4_67 X (zM_624 hw hm) (by decide) rfl rfl, (List.forall_mem_cons.mpr ⟨zq_RX4_70 X (zM_611 hw hm) (by decide) rfl rfl, nilz⟩)⟩)⟩)⟩)⟩)⟩)
set_option maxRecDepth 100000 in
theorem zk_1084 : zmeth zKS zuq zNS zm_1084 4000 = true := by decide +kernel
set_option maxRecDepth 100000 in
theorem zM_1084 {l : Launch} {D : va_G} {cI cZ cB cJ cR : ClassId} {ks ad : List Nat} {Psi : va_W → Prop} (hw : zworld ks ad zuq zNS Psi) (hm : zMan l D cI cZ cB cJ cR ks ad Psi) : zMet l D cI cZ cB cJ cR zKS ks ad Psi yX6_rotas (.code yX6_rotas cX6_rotas 5 none) 11 zc_1084 :=
  zmet_of hw 11 (by decide) 4000 zk_1084 (by decide) (by decide) (fun X => ⟨zg_RX6 X, zp_RX6 X, zl1_RX6 X, zl2_RX6 X, nilz, (List.forall_mem_cons.mpr ⟨zq_RX6_227 X (zM_1061 hw hm) (by decide) rfl rfl, (List.forall_mem_cons.mpr ⟨zq_RX6_240 X (zM_921 hw hm) (by decide) rfl, (List.forall_mem_cons.mpr ⟨zq_RX6_303 X (zM_1069 hw hm) (by decide) rfl rfl, (List.forall_mem_cons.mpr ⟨zq_RX6_306 X (zM_1089 hw hm) (by decide) rfl rfl, nilz⟩)⟩)⟩)⟩)⟩)
set_option maxRecDepth 100000 in
theorem zk_1085 : zmeth zKS zuq zNS zm_1085 4000 = true := by decide +kernel
set_option maxRecDepth 100000 in
theorem zM_1085 {l : Launch} {D : va_G} {cI cZ cB cJ cR : ClassId} {ks ad : List Nat} {Psi : va_W → Prop} (hw : zworld ks ad zuq zNS Psi) (hm : zMan l D cI cZ cB cJ cR ks ad Psi) : zMet l D cI cZ cB cJ cR zKS ks ad Psi yX6_rotas (.code yX6_rotas cX6_rotas 5 none) 11 zc_1085 :=
  zmet_of hw 11 (by decide) 4000 zk_1085 (by decide) (by decide) (fun X => ⟨zg_RX6 X, zp_RX6 X, zl1_RX6 X, zl2_RX6 X, nilz, (List.forall_mem_cons.mpr ⟨zq_RX6_227 X (zM_1061 hw hm) (by decide) rfl rfl, (List.forall_mem_cons.mpr ⟨zq_RX6_240 X (zM_921 hw hm) (by decide) rfl, (List.forall_mem_cons.mpr ⟨zq_RX6_303 X (zM_1070 hw hm) (by decide) rfl rfl, (List.forall_mem_cons.mpr ⟨zq_RX6_306 X (zM_1090 hw hm) (by decide) rfl rfl, nilz⟩)⟩)⟩)⟩)⟩)
set_option maxRecDepth 100000 in
theorem zk_1086 : zmeth zKS zuq zNS zm_1086 4000 = true := by decide +kernel
set_option maxRecDepth 100000 in
theorem zM_1086 {l : Launch} {D : va_G} {cI cZ cB cJ cR : ClassId} {ks ad : List Nat} {Psi : va_W → Prop} (hw : zworld ks ad zuq zNS Psi) (hm : zMan l D cI cZ cB cJ cR ks ad Psi) : zMet l D cI cZ cB cJ cR zKS ks ad Psi yX6_rotas (.code yX6_rotas cX6_rotas 5 none) 11 zc_1086 :=
  zmet_of hw 11 (by decide) 4000 zk_1086 (by decide) (by decide) (fun X => ⟨zg_RX6 X, zp_RX6 X, zl1_RX6 X, zl2_RX6 X, nilz, (List.forall_mem_cons.mpr ⟨zq_RX6_227 X (zM_1061 hw hm) (by decide) rfl rfl, (List.forall_mem_cons.mpr ⟨zq_RX6_240 X (zM_921 hw hm) (by decide) rfl, (List.forall_mem_cons.mpr ⟨zq_RX6_303 X (zM_1071 hw hm) (by decide) rfl rfl, (List.forall_mem_cons.mpr ⟨zq_RX6_306 X (zM_1091 hw hm) (by decide) rfl rfl, nilz⟩)⟩)⟩)⟩)⟩)
set_option maxRecDepth 100000 in
theorem zk_1087 : zmeth zKS zuq zNS zm_1087 4000 = true := by decide +kernel
set_option maxRecDepth 100000 in
theorem zM_1087 {l : Launch} {D : va_G} {cI cZ cB cJ cR : ClassId} {ks ad : List Nat} {Psi : va_W → Prop} (hw : zworld ks ad zuq zNS Psi) (hm : zMan l D cI cZ cB cJ cR ks ad Psi) : zMet l D cI cZ cB cJ cR zKS ks ad Psi yX6_rotas (.code yX6_rotas cX6_rotas 5 none) 11 zc_1087 :=
  zmet_of hw 11 (by decide) 4000 zk_1087 (by decide) (by decide) (fun X => ⟨zg_RX6 X, zp_RX6 X, zl1_RX6 X, zl2_RX6 X, nilz, (List.forall_mem_cons.mpr ⟨zq_RX6_227 X (zM_1061 hw hm) (by decide) rfl rfl, (List.forall_mem_cons.mpr ⟨zq_RX6_240 X (zM_921 hw hm) (by decide) rfl, (List.forall_mem_cons.mpr ⟨zq_RX6_303 X (zM_1072 hw hm) (by decide) rfl rfl, (List.forall_mem_cons.mpr ⟨zq_RX6_306 X (zM_1092 hw hm) (by decide) rfl rfl, nilz⟩)⟩)⟩)⟩)⟩)
set_option maxRecDepth 100000 in
theorem zk_1093 : zmeth zKS zuq zNS zm_1093 4000 = true := by decide +kernel
set_option maxRecDepth 100000 in
theorem zM_1093 {l : Launch} {D : va_G} {cI cZ cB cJ cR : ClassId} {ks ad : List Nat} {Psi : va_W → Prop} (hw : zworld ks ad zuq zNS Psi) (hm : zMan l D cI cZ cB cJ cR ks ad Psi) : zMet l D cI cZ cB cJ cR zKS ks ad Psi yX6_rotas (.code yX6_rotas cX6_rotas 5 none) 11 zc_1093 :=
  zmet_of hw 11 (by decide) 4000 zk_1093 (by decide) (by decide) (fun X => ⟨zg_RX6 X, zp_RX6 X, zl1_RX6 X, zl2_RX6 X, nilz, (List.forall_mem_cons.mpr ⟨zq_RX6_227 X (zM_1061 hw hm) (by decide) rfl rfl, (List.forall_mem_cons.mpr ⟨zq_RX6_240 X (zM_921 hw hm) (by decide) rfl, (List.forall_mem_cons.mpr ⟨zq_RX6_303 X (zM_1068 hw hm) (by decide) rfl rfl, (List.forall_mem_cons.mpr ⟨zq_RX6_306 X (zM_1098 hw hm) (by decide) rfl rfl, nilz⟩)⟩)⟩)⟩)⟩)
set_option maxRecDepth 100000 in
theorem zk_609 : zmeth zKS zuq zNS zm_609 4000 = true := by decide +kernel
set_option maxRecDepth 100000 in
theorem zM_609 {l : Launch} {D : va_G} {cI cZ cB cJ cR : ClassId} {ks ad : List Nat} {Psi : va_W → Prop} (hw : zworld ks ad zuq zNS Psi) (hm : zMan l D cI cZ cB cJ cR ks ad Psi) : zMet l D cI cZ cB cJ cR zKS ks ad Psi yX4_readInto (.code yX4_readInto cX4_readInto 3 (some .boolean)) 12 zc_609 :=
  zmet_of hw 12 (by decide) 4000 zk_609 (by decide) (by decide) (fun X => ⟨zg_RX4 X, zp_RX4 X, zl1_RX4 X, zl2_RX4 X, nilz, (List.forall_mem_cons.mpr ⟨zq_RX4_22 X (zM_283 hw hm) (by decide) rfl rfl, (List.forall_mem_cons.mpr ⟨zq_RX4_33 X (zM_628 hw hm) (by decide) rfl rfl, (List.forall_mem_cons.mpr ⟨zq_RX4_39 X (zM_612 hw hm) (by decide) rfl rfl, (List.forall_mem_cons.mpr ⟨zq_RX4_43 X (zM_625 hw hm) (by decide) rfl rfl, (List.forall_mem_cons.mpr ⟨zq_RX4_50 X (zM_291 hw hm) (by decide) rfl rfl, nilz⟩)⟩)⟩)⟩)⟩)⟩)
set_option maxRecDepth 100000 in
theorem zk_1079 : zmeth zKS zuq zNS zm_1079 4000 = true := by decide +kernel
set_option maxRecDepth 100000 in
theorem zM_1079 {l : Launch} {D : va_G} {cI cZ cB cJ cR : ClassId} {ks ad : List Nat} {Psi : va_W → Prop} (hw : zworld ks ad zuq zNS Psi) (hm : zMan l D cI cZ cB cJ cR ks ad Psi) : zMet l D cI cZ cB cJ cR zKS ks ad Psi yX6_rotas (.code yX6_rotas cX6_rotas 5 none) 12 zc_1079 :=
  zmet_of hw 12 (by decide) 4000 zk_1079 (by decide) (by decide) (fun X => ⟨zg_RX6 X, zp_RX6 X, zl1_RX6 X, zl2_RX6 X, nilz, (List.forall_mem_cons.mpr ⟨zq_RX6_227 X (zM_1061 hw hm) (by decide) rfl rfl, (List.forall_mem_cons.mpr ⟨zq_RX6_240 X (zM_921 hw hm) (by decide) rfl, (List.forall_mem_cons.mpr ⟨zq_RX6_303 X (zM_1069 hw hm) (by decide) rfl rfl, (List.forall_mem_cons.mpr ⟨zq_RX6_306 X (zM_1084 hw hm) (by decide) rfl rfl, nilz⟩)⟩)⟩)⟩)⟩)
set_option maxRecDepth 100000 in
theorem zk_1080 : zmeth zKS zuq zNS zm_1080 4000 = true := by decide +kernel
set_option maxRecDepth 100000 in
theorem zM_1080 {l : Launch} {D : va_G} {cI cZ cB cJ cR : ClassId} {ks ad : List Nat} {Psi : va_W → Prop} (hw : zworld ks ad zuq zNS Psi) (hm : zMan l D cI cZ cB cJ cR ks ad Psi) : zMet l D cI cZ cB cJ cR zKS ks ad Psi yX6_rotas (.code yX6_rotas cX6_rotas 5 none) 12 zc_1080 :=
  zmet_of hw 12 (by decide) 4000 zk_1080 (by decide) (by decide) (fun X => ⟨zg_RX6 X, zp_RX6 X, zl1_RX6 X, zl2_RX6 X, nilz, (List.forall_mem_cons.mpr ⟨zq_RX6_227 X (zM_1061 hw hm) (by decide) rfl rfl, (List.forall_mem_cons.mpr ⟨zq_RX6_240 X (zM_921 hw hm) (by decide) rfl, (List.forall_mem_cons.mpr ⟨zq_RX6_303 X (zM_1070 hw hm) (by decide) rfl rfl, (List.forall_mem_cons.mpr ⟨zq_RX6_306 X (zM_1085 hw hm) (by decide) rfl rfl, nilz⟩)⟩)⟩)⟩)⟩)
set_option maxRecDepth 100000 in
theorem zk_1081 : zmeth zKS zuq zNS zm_1081 4000 = true := by decide +kernel
set_option maxRecDepth 100000 in
theorem zM_1081 {l : Launch} {D : va_G} {cI cZ cB cJ cR : ClassId} {ks ad : List Nat} {Psi : va_W → Prop} (hw : zworld ks ad zuq zNS Psi) (hm : zMan l D cI cZ cB cJ cR ks ad Psi) : zMet l D cI cZ cB cJ cR zKS ks ad Psi yX6_rotas (.code yX6_rotas cX6_rotas 5 none) 12 zc_1081 :=
  zmet_of hw 12 (by decide) 4000 zk_1081 (by decide) (by decide) (fun X => ⟨zg_RX6 X, zp_RX6 X, zl1_RX6 X, zl2_RX6 X, nilz, (List.forall_mem_cons.mpr ⟨zq_RX6_227 X (zM_1061 hw hm) (by decide) rfl rfl, (List.forall_mem_cons.mpr ⟨zq_RX6_240 X (zM_921 hw hm) (by decide) rfl, (List.forall_mem_cons.mpr ⟨zq_RX6_303 X (zM_1071 hw hm) (by decide) rfl rfl, (List.forall_mem_cons.mpr ⟨zq_RX6_306 X (zM_1086 hw hm) (by decide) rfl rfl, nilz⟩)⟩)⟩)⟩)⟩)
set_option maxRecDepth 100000 in
theorem zk_1082 : zmeth zKS zuq zNS zm_1082 4000 = true := by decide +kernel
set_option maxRecDepth 100000 in
theorem zM_1082 {l : Launch} {D : va_G} {cI cZ cB cJ cR : ClassId} {ks ad : List Nat} {Psi : va_W → Prop} (hw : zworld ks ad zuq zNS Psi) (hm : zMan l D cI cZ cB cJ cR ks ad Psi) : zMet l D cI cZ cB cJ cR zKS ks ad Psi yX6_rotas (.code yX6_rotas cX6_rotas 5 none) 12 zc_1082 :=
  zmet_of hw 12 (by decide) 4000 zk_1082 (by decide) (by decide) (fun X => ⟨zg_RX6 X, zp_RX6 X, zl1_RX6 X, zl2_RX6 X, nilz, (List.forall_mem_cons.mpr ⟨zq_RX6_227 X (zM_1061 hw hm) (by decide) rfl rfl, (List.forall_mem_cons.mpr ⟨zq_RX6_240 X (zM_921 hw hm) (by decide) rfl, (List.forall_mem_cons.mpr ⟨zq_RX6_303 X (zM_1072 hw hm) (by decide) rfl rfl, (List.forall_mem_cons.mpr ⟨zq_RX6_306 X (zM_1087 hw hm) (by decide) rfl rfl, nilz⟩)⟩)⟩)⟩)⟩)
set_option maxRecDepth 100000 in
theorem zk_1088 : zmeth zKS zuq zNS zm_1088 4000 = true := by decide +kernel
set_option maxRecDepth 100000 in
theorem zM_1088 {l : Launch} {D : va_G} {cI cZ cB cJ cR : ClassId} {ks ad : List Nat} {Psi : va_W → Prop} (hw : zworld ks ad zuq zNS Psi) (hm : zMan l D cI cZ cB cJ cR ks ad Psi) : zMet l D cI cZ cB cJ cR zKS ks ad Psi yX6_rotas (.code yX6_rotas cX6_rotas 5 none) 12 zc_1088 :=
  zmet_of hw 12 (by decide) 4000 zk_1088 (by decide) (by decide) (fun X => ⟨zg_RX6 X, zp_RX6 X, zl1_RX6 X, zl2_RX6 X, nilz, (List.forall_mem_cons.mpr ⟨zq_RX6_227 X (zM_1061 hw hm) (by decide) rfl rfl, (List.forall_mem_cons.mpr ⟨zq_RX6_240 X (zM_921 hw hm) (by decide) rfl, (List.forall_mem_cons.mpr ⟨zq_RX6_303 X (zM_1068 hw hm) (by decide) rfl rfl, (List.forall_mem_cons.mpr ⟨zq_RX6_306 X (zM_1093 hw hm) (by decide) rfl rfl, nilz⟩)⟩)⟩)⟩)⟩)
set_option maxRecDepth 100000 in
theorem zk_644 : zmeth zKS zuq zNS zm_644 4000 = true := by decide +kernel
set_option maxRecDepth 100000 in
theorem zM_644 {l : Launch} {D : va_G} {cI cZ cB cJ cR : ClassId} {ks ad : List Nat} {Psi : va_W → Prop} (hw : zworld ks ad zuq zNS Psi) (hm : zMan l D cI cZ cB cJ cR ks ad Psi) : zMet l D cI cZ cB cJ cR zKS ks ad Psi yX5_city (.code yX5_city cX5_city 2 (some .int)) 13 zc_644 :=
  zmet_of hw 13 (by decide) 4000 zk_644 (by decide) (by decide) (fun X => ⟨zg_RX5 X, zp_RX5 X, zl1_RX5 X, zl2_RX5 X, nilz, (List.forall_mem_cons.mpr ⟨zq_RX5_67 X (zM_609 hw hm) (by decide) rfl rfl, (List.forall_mem_cons.mpr ⟨zq_RX5_71 X (zM_760 hw hm) (by decide) rfl rfl, nilz⟩)⟩)⟩)
set_option maxRecDepth 100000 in
theorem zk_1074 : zmeth zKS zuq zNS zm_1074 4000 = true := by decide +kernel
set_option maxRecDepth 100000 in
theorem zM_1074 {l : Launch} {D : va_G} {cI cZ cB cJ cR : ClassId} {ks ad : List Nat} {Psi : va_W → Prop} (hw : zworld ks ad zuq zNS Psi) (hm : zMan l D cI cZ cB cJ cR ks ad Psi) : zMet l D cI cZ cB cJ cR zKS ks ad Psi yX6_rotas (.code yX6_rotas cX6_rotas 5 none) 13 zc_1074 :=
  zmet_of hw 13 (by decide) 4000 zk_1074 (by decide) (by decide) (fun X => ⟨zg_RX6 X, zp_RX6 X, zl1_RX6 X, zl2_RX6 X, nilz, (List.forall_mem_cons.mpr ⟨zq_RX6_227 X (zM_1061 hw hm) (by decide) rfl rfl, (List.forall_mem_cons.mpr ⟨zq_RX6_240 X (zM_921 hw hm) (by decide) rfl, (List.forall_mem_cons.mpr ⟨zq_RX6_306 X (zM_1079 hw hm) (by decide) rfl rfl, nilz⟩)⟩)⟩)⟩)
set_option maxRecDepth 100000 in
theorem zk_1075 : zmeth zKS zuq zNS zm_1075 4000 = true := by decide +kernel
set_option maxRecDepth 100000 in
theorem zM_1075 {l : Launch} {D : va_G} {cI cZ cB cJ cR : ClassId} {ks ad : List Nat} {Psi : va_W → Prop} (hw : zworld ks ad zuq zNS Psi) (hm : zMan l D cI cZ cB cJ cR ks ad Psi) : zMet l D cI cZ cB cJ cR zKS ks ad Psi yX6_rotas (.code yX6_rotas cX6_rotas 5 none) 13 zc_1075 :=
  zmet_of hw 13 (by decide) 4000 zk_1075 (by decide) (by decide) (fun X => ⟨zg_RX6 X, zp_RX6 X, zl1_RX6 X, zl2_RX6 X, nilz, (List.forall_mem_cons.mpr ⟨zq_RX6_227 X (zM_1061 hw hm) (by decide) rfl rfl, (List.forall_mem_cons.mpr ⟨zq_RX6_240 X (zM_921 hw hm) (by decide) rfl, (List.forall_mem_cons.mpr ⟨zq_RX6_306 X (zM_1080 hw hm) (by decide) rfl rfl, nilz⟩)⟩)⟩)⟩)
set_option maxRecDepth 100000 in
theorem zk_1076 : zmeth zKS zuq zNS zm_1076 4000 = true := by decide +kernel
set_option maxRecDepth 100000 in
theorem zM_1076 {l : Launch} {D : va_G} {cI cZ cB cJ cR : ClassId} {ks ad : List Nat} {Psi : va_W → Prop} (hw : zworld ks ad zuq zNS Psi) (hm : zMan l D cI cZ cB cJ cR ks ad Psi) : zMet l D cI cZ cB cJ cR zKS ks ad Psi yX6_rotas (.code yX6_rotas cX6_rotas 5 none) 13 zc_1076 :=
  zmet_of hw 13 (by decide) 4000 zk_1076 (by decide) (by decide) (fun X => ⟨zg_RX6 X, zp_RX6 X, zl1_RX6 X, zl2_RX6 X, nilz, (List.forall_mem_cons.mpr ⟨zq_RX6_227 X (zM_1061 hw hm) (by decide) rfl rfl, (List.forall_mem_cons.mpr ⟨zq_RX6_240 X (zM_921 hw hm) (by decide) rfl, (List.forall_mem_cons.mpr ⟨zq_RX6_306 X (zM_1081 hw hm) (by decide) rfl rfl, nilz⟩)⟩)⟩)⟩)
set_option maxRecDepth 100000 in
theorem zk_1077 : zmeth zKS zuq zNS zm_1077 4000 = true := by decide +kernel
set_option maxRecDepth 100000 in
theorem zM_1077 {l : Launch} {D : va_G} {cI cZ cB cJ cR : ClassId} {ks ad : List Nat} {Psi : va_W → Prop} (hw : zworld ks ad zuq zNS Psi) (hm : zMan l D cI cZ cB cJ cR ks ad Psi) : zMet l D cI cZ cB cJ cR zKS ks ad Psi yX6_rotas (.code yX6_rotas cX6_rotas 5 none) 13 zc_1077 :=
  zmet_of hw 13 (by decide) 4000 zk_1077 (by decide) (by decide) (fun X => ⟨zg_RX6 X, zp_RX6 X, zl1_RX6 X, zl2_RX6 X, nilz, (List.forall_mem_cons.mpr ⟨zq_RX6_227 X (zM_1061 hw hm) (by decide) rfl rfl, (List.forall_mem_cons.mpr ⟨zq_RX6_240 X (zM_921 hw hm) (by decide) rfl, (List.forall_mem_cons.mpr ⟨zq_RX6_306 X (zM_1082 hw hm) (by decide) rfl rfl, nilz⟩)⟩)⟩)⟩)
set_option maxRecDepth 100000 in
theorem zk_1083 : zmeth zKS zuq zNS zm_1083 4000 = true := by decide +kernel
set_option maxRecDepth 100000 in
theorem zM_1083 {l : Launch} {D : va_G} {cI cZ cB cJ cR : ClassId} {ks ad : List Nat} {Psi : va_W → Prop} (hw : zworld ks ad zuq zNS Psi) (hm : zMan l D cI cZ cB cJ cR ks ad Psi) : zMet l D cI cZ cB cJ cR zKS ks ad Psi yX6_rotas (.code yX6_rotas cX6_rotas 5 none) 13 zc_1083 :=
  zmet_of hw 13 (by decide) 4000 zk_1083 (by decide) (by decide) (fun X => ⟨zg_RX6 X, zp_RX6 X, zl1_RX6 X, zl2_RX6 X, nilz, (List.forall_mem_cons.mpr ⟨zq_RX6_227 X (zM_1061 hw hm) (by decide) rfl rfl, (List.forall_mem_cons.mpr ⟨zq_RX6_240 X (zM_921 hw hm) (by decide) rfl, (List.forall_mem_cons.mpr ⟨zq_RX6_303 X (zM_1068 hw hm) (by decide) rfl rfl, (List.forall_mem_cons.mpr ⟨zq_RX6_306 X (zM_1088 hw hm) (by decide) rfl rfl, nilz⟩)⟩)⟩)⟩)⟩)
set_option maxRecDepth 100000 in
theorem zk_1024 : zmeth zKS zuq zNS zm_1024 4000 = true := by decide +kernel
set_option maxRecDepth 100000 in
theorem zM_1024 {l : Launch} {D : va_G} {cI cZ cB cJ cR : ClassId} {ks ad : List Nat} {Psi : va_W → Prop} (hw : zworld ks ad zuq zNS Psi) (hm : zMan l D cI cZ cB cJ cR ks ad Psi) : zMet l D cI cZ cB cJ cR zKS ks ad Psi yX6_laysWorn (.code yX6_laysWorn cX6_laysWorn 3 none) 14 zc_1024 :=
  zmet_of hw 14 (by decide) 4000 zk_1024 (by decide) (by decide) (fun X => ⟨zg_RX6 X, zp_RX6 X, zl1_RX6 X, zl2_RX6 X, nilz, (List.forall_mem_cons.mpr ⟨zq_RX6_270 X (zman_1017 hm) (by decide) rfl rfl, (List.forall_mem_cons.mpr ⟨zq_RX6_306 X (zM_1074 hw hm) (by decide) rfl rfl, nilz⟩)⟩)⟩)
set_option maxRecDepth 100000 in
theorem zk_1025 : zmeth zKS zuq zNS zm_1025 4000 = true := by decide +kernel
set_option maxRecDepth 100000 in
theorem zM_1025 {l : Launch} {D : va_G} {cI cZ cB cJ cR : ClassId} {ks ad : List Nat} {Psi : va_W → Prop} (hw : zworld ks ad zuq zNS Psi) (hm : zMan l D cI cZ cB cJ cR ks ad Psi) : zMet l D cI cZ cB cJ cR zKS ks ad Psi yX6_laysWorn (.code yX6_laysWorn cX6_laysWorn 3 none) 14 zc_1025 :=
  zmet_of hw 14 (by decide) 4000 zk_1025 (by decide) (by decide) (fun X => ⟨zg_RX6 X, zp_RX6 X, zl1_RX6 X, zl2_RX6 X, nilz, (List.forall_mem_cons.mpr ⟨zq_RX6_270 X (zman_1017 hm) (by decide) rfl rfl, (List.forall_mem_cons.mpr ⟨zq_RX6_306 X (zM_1075 hw hm) (by decide) rfl rfl, nilz⟩)⟩)⟩)
set_option maxRecDepth 100000 in
theorem zk_1026 : zmeth zKS zuq zNS zm_1026 4000 = true := by decide +kernel
set_option maxRecDepth 100000 in
theorem zM_1026 {l : Launch} {D : va_G} {cI cZ cB cJ cR : ClassId} {ks ad : List Nat} {Psi : va_W → Prop} (hw : zworld ks ad zuq zNS Psi) (hm : zMan l D cI cZ cB cJ cR ks ad Psi) : zMet l D cI cZ cB cJ cR zKS ks ad Psi yX6_laysWorn (.code yX6_laysWorn cX6_laysWorn 3 none) 14 zc_1026 :=
  zmet_of hw 14 (by decide) 4000 zk_1026 (by decide) (by decide) (fun X => ⟨zg_RX6 X, zp_RX6 X, zl1_RX6 X, zl2_RX6 X, nilz, (List.forall_mem_cons.mpr ⟨zq_RX6_270 X (zman_1017 hm) (by decide) rfl rfl, (List.forall_mem_cons.mpr ⟨zq_RX6_306 X (zM_1076 hw hm) (by decide) rfl rfl, nilz⟩)⟩)⟩)
set_option maxRecDepth 100000 in
theorem zk_1027 : zmeth zKS zuq zNS zm_1027 4000 = true := by decide +kernel
set_option maxRecDepth 100000 in
theorem zM_1027 {l : Launch} {D : va_G} {cI cZ cB cJ cR : ClassId} {ks ad : List Nat} {Psi : va_W → Prop} (hw : zworld ks ad zuq zNS Psi) (hm : zMan l D cI cZ cB cJ cR ks ad Psi) : zMet l D cI cZ cB cJ cR zKS ks ad Psi yX6_laysWorn (.code yX6_laysWorn cX6_laysWorn 3 none) 14 zc_1027 :=
  zmet_of hw 14 (by decide) 4000 zk_1027 (by decide) (by decide) (fun X => ⟨zg_RX6 X, zp_RX6 X, zl1_RX6 X, zl2_RX6 X, nilz, (List.forall_mem_cons.mpr ⟨zq_RX6_270 X (zman_1017 hm) (by decide) rfl rfl, (List.forall_mem_cons.mpr ⟨zq_RX6_306 X (zM_1077 hw hm) (by decide) rfl rfl, nilz⟩)⟩)⟩)
set_option maxRecDepth 100000 in
theorem zk_1078 : zmeth zKS zuq zNS zm_1078 4000 = true := by decide +kernel
set_option maxRecDepth 100000 in
theorem zM_1078 {l : Launch} {D : va_G} {cI cZ cB cJ cR : ClassId} {ks ad : List Nat} {Psi : va_W → Prop} (hw : zworld ks ad zuq zNS Psi) (hm : zMan l D cI cZ cB cJ cR ks ad Psi) : zMet l D cI cZ cB cJ cR zKS ks ad Psi yX6_rotas (.code yX6_rotas cX6_rotas 5 none) 14 zc_1078 :=
  zmet_of hw 14 (by decide) 4000 zk_1078 (by decide) (by decide) (fun X => ⟨zg_RX6 X, zp_RX6 X, zl1_RX6 X, zl2_RX6 X, nilz, (List.forall_mem_cons.mpr ⟨zq_RX6_227 X (zM_1061 hw hm) (by decide) rfl rfl, (List.forall_mem_cons.mpr ⟨zq_RX6_240 X (zM_921 hw hm) (by decide) rfl, (List.forall_mem_cons.mpr ⟨zq_RX6_303 X (zM_1068 hw hm) (by decide) rfl rfl, (List.forall_mem_cons.mpr ⟨zq_RX6_306 X (zM_1083 hw hm) (by decide) rfl rfl, nilz⟩)⟩)⟩)⟩)⟩)
set_option maxRecDepth 100000 in
theorem zk_1073 : zmeth zKS zuq zNS zm_1073 4000 = true := by decide +kernel
set_option maxRecDepth 100000 in
theorem zM_1073 {l : Launch} {D : va_G} {cI cZ cB cJ cR : ClassId} {ks ad : List Nat} {Psi : va_W → Prop} (hw : zworld ks ad zuq zNS Psi) (hm : zMan l D cI cZ cB cJ cR ks ad Psi) : zMet l D cI cZ cB cJ cR zKS ks ad Psi yX6_rotas (.code yX6_rotas cX6_rotas 5 none) 15 zc_1073 :=
  zmet_of hw 15 (by decide) 4000 zk_1073 (by decide) (by decide) (fun X => ⟨zg_RX6 X, zp_RX6 X, zl1_RX6 X, zl2_RX6 X, nilz, (List.forall_mem_cons.mpr ⟨zq_RX6_227 X (zM_1061 hw hm) (by decide) rfl rfl, (List.forall_mem_cons.mpr ⟨zq_RX6_240 X (zM_921 hw hm) (by decide) rfl, (List.forall_mem_cons.mpr ⟨zq_RX6_306 X (zM_1078 hw hm) (by decide) rfl rfl, nilz⟩)⟩)⟩)⟩)
set_option maxRecDepth 100000 in
theorem zk_1121 : zmeth zKS zuq zNS zm_1121 4000 = true := by decide +kernel
set_option maxRecDepth 100000 in
theorem zM_1121 {l : Launch} {D : va_G} {cI cZ cB cJ cR : ClassId} {ks ad : List Nat} {Psi : va_W → Prop} (hw : zworld ks ad zuq zNS Psi) (hm : zMan l D cI cZ cB cJ cR ks ad Psi) : zMet l D cI cZ cB cJ cR zKS ks ad Psi yX6_surely (.code yX6_surely cX6_surely 5 (some .int)) 15 zc_1121 :=
  zmet_of hw 15 (by decide) 4000 zk_1121 (by decide) (by decide) (fun X => ⟨zg_RX6 X, zp_RX6 X, zl1_RX6 X, zl2_RX6 X, nilz, (List.forall_mem_cons.mpr ⟨zq_RX6_227 X (zM_1061 hw hm) (by decide) rfl rfl, (List.forall_mem_cons.mpr ⟨zq_RX6_234 X (zM_930 hw hm) (by decide) rfl rfl, (List.forall_mem_cons.mpr ⟨zq_RX6_370 X (zM_1180 hw hm) (by decide) rfl rfl, (List.forall_mem_cons.mpr ⟨zq_RX6_370 X (zM_1181 hw hm) (by decide) rfl rfl, (List.forall_mem_cons.mpr ⟨zq_RX6_370 X (zM_1182 hw hm) (by decide) rfl rfl, (List.forall_mem_cons.mpr ⟨zq_RX6_370 X (zM_1183 hw hm) (by decide) rfl rfl, (List.forall_mem_cons.mpr ⟨zq_RX6_370 X (zM_1184 hw hm) (by decide) rfl rfl, (List.forall_mem_cons.mpr ⟨zq_RX6_370 X (zM_1179 hw hm) (by decide) rfl rfl, (List.forall_mem_cons.mpr ⟨zq_RX6_373 X (zM_1024 hw hm) (by decide) rfl rfl, (List.forall_mem_cons.mpr ⟨zq_RX6_373 X (zM_1025 hw hm) (by decide) rfl rfl, (List.forall_mem_cons.mpr ⟨zq_RX6_373 X (zM_1026 hw hm) (by decide) rfl rfl, (List.forall_mem_cons.mpr ⟨zq_RX6_373 X (zM_1027 hw hm) (by decide) rfl rfl, nilz⟩)⟩)⟩)⟩)⟩)⟩)⟩)⟩)⟩)⟩)⟩)⟩)⟩)
set_option maxRecDepth 100000 in
theorem zk_1187 : zmeth zKS zuq zNS zm_1187 4000 = true := by decide +kernel
set_option maxRecDepth 100000 in
theorem zM_1187 {l : Launch} {D : va_G} {cI cZ cB cJ cR : ClassId} {ks ad : List Nat} {Psi : va_W → Prop} (hw : zworld ks ad zuq zNS Psi) (hm : zMan l D cI cZ cB cJ cR ks ad Psi) : zMet l D cI cZ cB cJ cR zKS ks ad Psi yX6_wore (.code yX6_wore cX6_wore 4 (some .int)) 15 zc_1187 :=
  zmet_of hw 15 (by decide) 4000 zk_1187 (by decide) (by decide) (fun X => ⟨zg_RX6 X, zp_RX6 X, zl1_RX6 X, zl2_RX6 X, nilz, (List.forall_mem_cons.mpr ⟨zq_RX6_234 X (zM_930 hw hm) (by decide) rfl rfl, (List.forall_mem_cons.mpr ⟨zq_RX6_370 X (zM_1180 hw hm) (by decide) rfl rfl, (List.forall_mem_cons.mpr ⟨zq_RX6_370 X (zM_1181 hw hm) (by decide) rfl rfl, (List.forall_mem_cons.mpr ⟨zq_RX6_370 X (zM_1182 hw hm) (by decide) rfl rfl, (List.forall_mem_cons.mpr ⟨zq_RX6_370 X (zM_1183 hw hm) (by decide) rfl rfl, (List.forall_mem_cons.mpr ⟨zq_RX6_370 X (zM_1184 hw hm) (by decide) rfl rfl, (List.forall_mem_cons.mpr ⟨zq_RX6_370 X (zM_1179 hw hm) (by decide) rfl rfl, (List.forall_mem_cons.mpr ⟨zq_RX6_373 X (zM_1024 hw hm) (by decide) rfl rfl, (List.forall_mem_cons.mpr ⟨zq_RX6_373 X (zM_1025 hw hm) (by decide) rfl rfl, (List.forall_mem_cons.mpr ⟨zq_RX6_373 X (zM_1026 hw hm) (by decide) rfl rfl, (List.forall_mem_cons.mpr ⟨zq_RX6_373 X (zM_1027 hw hm) (by decide) rfl rfl, nilz⟩)⟩)⟩)⟩)⟩)⟩)⟩)⟩)⟩)⟩)⟩)⟩)
set_option maxRecDepth 100000 in
theorem zk_1188 : zmeth zKS zuq zNS zm_1188 4000 = true := by decide +kernel
set_option maxRecDepth 100000 in
theorem zM_1188 {l : Launch} {D : va_G} {cI cZ cB cJ cR : ClassId} {ks ad : List Nat} {Psi : va_W → Prop} (hw : zworld ks ad zuq zNS Psi) (hm : zMan l D cI cZ cB cJ cR ks ad Psi) : zMet l D cI cZ cB cJ cR zKS ks ad Psi yX6_worn (.code yX6_worn cX6_worn 3 (some .int)) 15 zc_1188 :=
  zmet_of hw 15 (by decide) 4000 zk_1188 (by decide) (by decide) (fun X => ⟨zg_RX6 X, zp_RX6 X, zl1_RX6 X, zl2_RX6 X, nilz, (List.forall_mem_cons.mpr ⟨zq_RX6_370 X (zM_1180 hw hm) (by decide) rfl rfl, (List.forall_mem_cons.mpr ⟨zq_RX6_370 X (zM_1181 hw hm) (by decide) rfl rfl, (List.forall_mem_cons.mpr ⟨zq_RX6_370 X (zM_1182 hw hm) (by decide) rfl rfl, (List.forall_mem_cons.mpr ⟨zq_RX6_370 X (zM_1183 hw hm) (by decide) rfl rfl, (List.forall_mem_cons.mpr ⟨zq_RX6_370 X (zM_1184 hw hm) (by decide) rfl rfl, (List.forall_mem_cons.mpr ⟨zq_RX6_370 X (zM_1179 hw hm) (by decide) rfl rfl, (List.forall_mem_cons.mpr ⟨zq_RX6_373 X (zM_1024 hw hm) (by decide) rfl rfl, (List.forall_mem_cons.mpr ⟨zq_RX6_373 X (zM_1025 hw hm) (by decide) rfl rfl, (List.forall_mem_cons.mpr ⟨zq_RX6_373 X (zM_1026 hw hm) (by decide) rfl rfl, (List.forall_mem_cons.mpr ⟨zq_RX6_373 X (zM_1027 hw hm) (by decide) rfl rfl, nilz⟩)⟩)⟩)⟩)⟩)⟩)⟩)⟩)⟩)⟩)⟩)
set_option maxRecDepth 100000 in
theorem zk_1023 : zmeth zKS zuq zNS zm_1023 4000 = true := by decide +kernel
set_option maxRecDepth 100000 in
theorem zM_1023 {l : Launch} {D : va_G} {cI cZ cB cJ cR : ClassId} {ks ad : List Nat} {Psi : va_W → Prop} (hw : zworld ks ad zuq zNS Psi) (hm : zMan l D cI cZ cB cJ cR ks ad Psi) : zMet l D cI cZ cB cJ cR zKS ks ad Psi yX6_laysRotas (.code yX6_laysRotas cX6_laysRotas 1 none) 16 zc_1023 :=
  zmet_of hw 16 (by decide) 4000 zk_1023 (by decide) (by decide) (fun X => ⟨zg_RX6 X, zp_RX6 X, zl1_RX6 X, zl2_RX6 X, nilz, (List.forall_mem_cons.mpr ⟨zq_RX6_270 X (zman_1017 hm) (by decide) rfl rfl, (List.forall_mem_cons.mpr ⟨zq_RX6_306 X (zM_1073 hw hm) (by decide) rfl rfl, nilz⟩)⟩)⟩)
set_option maxRecDepth 100000 in
theorem zk_838 : zmeth zKS zuq zNS zm_838 4000 = true := by decide +kernel
set_option maxRecDepth 100000 in
theorem zM_838 {l : Launch} {D : va_G} {cI cZ cB cJ cR : ClassId} {ks ad : List Nat} {Psi : va_W → Prop} (hw : zworld ks ad zuq zNS Psi) (hm : zMan l D cI cZ cB cJ cR ks ad Psi) : zMet l D cI cZ cB cJ cR zKS ks ad Psi yX6_best (.code yX6_best cX6_best 1 (some .int)) 17 zc_838 :=
  zmet_of hw 17 (by decide) 4000 zk_838 (by decide) (by decide) (fun X => ⟨zg_RX6 X, zp_RX6 X, zl1_RX6 X, zl2_RX6 X, nilz, (List.forall_mem_cons.mpr ⟨zq_RX6_276 X (zM_923 hw hm) (by decide) rfl rfl, (List.forall_mem_cons.mpr ⟨zq_RX6_310 X (zM_1023 hw hm) (by decide) rfl rfl, nilz⟩)⟩)⟩)
set_option maxRecDepth 100000 in
theorem zk_848 : zmeth zKS zuq zNS zm_848 4000 = true := by decide +kernel
set_option maxRecDepth 100000 in
theorem zM_848 {l : Launch} {D : va_G} {cI cZ cB cJ cR : ClassId} {ks ad : List Nat} {Psi : va_W → Prop} (hw : zworld ks ad zuq zNS Psi) (hm : zMan l D cI cZ cB cJ cR ks ad Psi) : zMet l D cI cZ cB cJ cR zKS ks ad Psi yX6_clean (.code yX6_clean cX6_clean 1 (some .int)) 17 zc_848 :=
  zmet_of hw 17 (by decide) 4000 zk_848 (by decide) (by decide) (fun X => ⟨zg_RX6 X, zp_RX6 X, zl1_RX6 X, zl2_RX6 X, nilz, (List.forall_mem_cons.mpr ⟨zq_RX6_276 X (zM_923 hw hm) (by decide) rfl rfl, (List.forall_mem_cons.mpr ⟨zq_RX6_310 X (zM_1023 hw hm) (by decide) rfl rfl, nilz⟩)⟩)⟩)
set_option maxRecDepth 100000 in
theorem zk_877 : zmeth zKS zuq zNS zm_877 4000 = true := by decide +kernel
set_option maxRecDepth 100000 in
theorem zM_877 {l : Launch} {D : va_G} {cI cZ cB cJ cR : ClassId} {ks ad : List Nat} {Psi : va_W → Prop} (hw : zworld ks ad zuq zNS Psi) (hm : zMan l D cI cZ cB cJ cR ks ad Psi) : zMet l D cI cZ cB cJ cR zKS ks ad Psi yX6_fair (.code yX6_fair cX6_fair 1 (some .int)) 17 zc_877 :=
  zmet_of hw 17 (by decide) 4000 zk_877 (by decide) (by decide) (fun X => ⟨zg_RX6 X, zp_RX6 X, zl1_RX6 X, zl2_RX6 X, nilz, (List.forall_mem_cons.mpr ⟨zq_RX6_276 X (zM_923 hw hm) (by decide) rfl rfl, (List.forall_mem_cons.mpr ⟨zq_RX6_310 X (zM_1023 hw hm) (by decide) rfl rfl, nilz⟩)⟩)⟩)
set_option maxRecDepth 100000 in
theorem zk_1067 : zmeth zKS zuq zNS zm_1067 4000 = true := by decide +kernel
set_option maxRecDepth 100000 in
theorem zM_1067 {l : Launch} {D : va_G} {cI cZ cB cJ cR : ClassId} {ks ad : List Nat} {Psi : va_W → Prop} (hw : zworld ks ad zuq zNS Psi) (hm : zMan l D cI cZ cB cJ cR ks ad Psi) : zMet l D cI cZ cB cJ cR zKS ks ad Psi yX6_rota (.code yX6_rota cX6_rota 2 (some .int)) 17 zc_1067 :=
  zmet_of hw 17 (by decide) 4000 zk_1067 (by decide) (by decide) (fun X => ⟨zg_RX6 X, zp_RX6 X, zl1_RX6 X, zl2_RX6 X, nilz, (List.forall_mem_cons.mpr ⟨zq_RX6_234 X (zM_930 hw hm) (by decide) rfl rfl, (List.forall_mem_cons.mpr ⟨zq_RX6_310 X (zM_1023 hw hm) (by decide) rfl rfl, nilz⟩)⟩)⟩)
set_option maxRecDepth 100000 in
theorem zk_1161 : zmeth zKS zuq zNS zm_1161 4000 = true := by decide +kernel
set_option maxRecDepth 100000 in
theorem zM_1161 {l : Launch} {D : va_G} {cI cZ cB cJ cR : ClassId} {ks ad : List Nat} {Psi : va_W → Prop} (hw : zworld ks ad zuq zNS Psi) (hm : zMan l D cI cZ cB cJ cR ks ad Psi) : zMet l D cI cZ cB cJ cR zKS ks ad Psi yX6_ways (.code yX6_ways cX6_ways 1 (some .int)) 17 zc_1161 :=
  zmet_of hw 17 (by decide) 4000 zk_1161 (by decide) (by decide) (fun X => ⟨zg_RX6 X, zp_RX6 X, zl1_RX6 X, zl2_RX6 X, nilz, (List.forall_mem_cons.mpr ⟨zq_RX6_276 X (zM_923 hw hm) (by decide) rfl rfl, (List.forall_mem_cons.mpr ⟨zq_RX6_310 X (zM_1023 hw hm) (by decide) rfl rfl, nilz⟩)⟩)⟩)
set_option maxRecDepth 100000 in
theorem zk_844 : zmeth zKS zuq zNS zm_844 4000 = true := by decide +kernel
set_option maxRecDepth 100000 in
theorem zM_844 {l : Launch} {D : va_G} {cI cZ cB cJ cR : ClassId} {ks ad : List Nat} {Psi : va_W → Prop} (hw : zworld ks ad zuq zNS Psi) (hm : zMan l D cI cZ cB cJ cR ks ad Psi) : zMet l D cI cZ cB cJ cR zKS ks ad Psi yX6_chance (.code yX6_chance cX6_chance 8 (some .long)) 91 zc_844 :=
  zmet_of hw 91 (by decide) 4000 zk_844 (by decide) (by decide) (fun X => ⟨zg_RX6 X, zp_RX6 X, zl1_RX6 X, zl2_RX6 X, nilz, (List.forall_mem_cons.mpr ⟨zq_RX6_231 X (zM_898 hw hm) (by decide) rfl rfl, (List.forall_mem_cons.mpr ⟨zq_RX6_234 X (zM_930 hw hm) (by decide) rfl rfl, (List.forall_mem_cons.mpr ⟨zq_RX6_270 X (zman_1017 hm) (by decide) rfl rfl, (List.forall_mem_cons.mpr ⟨zq_RX6_376 X (zman_851 hm) (by decide) rfl, (List.forall_mem_cons.mpr ⟨zq_RX6_380 X (zM_927 hw hm) (by decide) rfl, (List.forall_mem_cons.mpr ⟨zq_RX6_385 X (zM_885 hw hm) (by decide) rfl rfl, nilz⟩)⟩)⟩)⟩)⟩)⟩)⟩)
