set_option maxRecDepth 100000 in
theorem zk_967 : zmeth zKS zuq zNS zm_967 4000 = true := zqF (zdt_X6_isTrue) (by decide +kernel)
theorem zM_967 {l : Launch} {D : va_G} {cI cZ cB cJ cR : ClassId} {ks ad : List Nat} {Psi : va_W → Prop} (hw : zworld ks ad zuq zNS Psi) (hm : zMan l D cI cZ cB cJ cR ks ad Psi) : zMet l D cI cZ cB cJ cR zKS ks ad Psi yX6_isTrue (.code yX6_isTrue cX6_isTrue 4 (some .boolean)) 3 zc_967 :=
  zmet_of hw 3 (by decide) 4000 zk_967 (by decide) (by decide) (fun X => ⟨zg_RX6 X, zp_RX6 X, zl1_RX6 X, zl2_RX6 X, nilz, (List.forall_mem_cons.mpr ⟨zq_RX6_250 X (zM_937 hw hm) (by decide) rfl rfl, nilz⟩)⟩)
set_option maxRecDepth 100000 in
theorem zk_968 : zmeth zKS zuq zNS zm_968 4000 = true := zqF (zdt_X6_isTrue) (by decide +kernel)
theorem zM_968 {l : Launch} {D : va_G} {cI cZ cB cJ cR : ClassId} {ks ad : List Nat} {Psi : va_W → Prop} (hw : zworld ks ad zuq zNS Psi) (hm : zMan l D cI cZ cB cJ cR ks ad Psi) : zMet l D cI cZ cB cJ cR zKS ks ad Psi yX6_isTrue (.code yX6_isTrue cX6_isTrue 4 (some .boolean)) 3 zc_968 :=
  zmet_of hw 3 (by decide) 4000 zk_968 (by decide) (by decide) (fun X => ⟨zg_RX6 X, zp_RX6 X, zl1_RX6 X, zl2_RX6 X, nilz, (List.forall_mem_cons.mpr ⟨zq_RX6_250 X (zM_937 hw hm) (by decide) rfl rfl, nilz⟩)⟩)
set_option maxRecDepth 100000 in
theorem zk_969 : zmeth zKS zuq zNS zm_969 4000 = true := zqF (zdt_X6_isTrue) (by decide +kernel)
theorem zM_969 {l : Launch} {D : va_G} {cI cZ cB cJ cR : ClassId} {ks ad : List Nat} {Psi : va_W → Prop} (hw : zworld ks ad zuq zNS Psi) (hm : zMan l D cI cZ cB cJ cR ks ad Psi) : zMet l D cI cZ cB cJ cR zKS ks ad Psi yX6_isTrue (.code yX6_isTrue cX6_isTrue 4 (some .boolean)) 3 zc_969 :=
  zmet_of hw 3 (by decide) 4000 zk_969 (by decide) (by decide) (fun X => ⟨zg_RX6 X, zp_RX6 X, zl1_RX6 X, zl2_RX6 X, nilz, (List.forall_mem_cons.mpr ⟨zq_RX6_250 X (zM_937 hw hm) (by decide) rfl rfl, nilz⟩)⟩)
set_option maxRecDepth 100000 in
theorem zk_970 : zmeth zKS zuq zNS zm_970 4000 = true := zqF (zdt_X6_isTrue) (by decide +kernel)
theorem zM_970 {l : Launch} {D : va_G} {cI cZ cB cJ cR : ClassId} {ks ad : List Nat} {Psi : va_W → Prop} (hw : zworld ks ad zuq zNS Psi) (hm : zMan l D cI cZ cB cJ cR ks ad Psi) : zMet l D cI cZ cB cJ cR zKS ks ad Psi yX6_isTrue (.code yX6_isTrue cX6_isTrue 4 (some .boolean)) 3 zc_970 :=
  zmet_of hw 3 (by decide) 4000 zk_970 (by decide) (by decide) (fun X => ⟨zg_RX6 X, zp_RX6 X, zl1_RX6 X, zl2_RX6 X, nilz, (List.forall_mem_cons.mpr ⟨zq_RX6_250 X (zM_937 hw hm) (by decide) rfl rfl, nilz⟩)⟩)
set_option maxRecDepth 100000 in
theorem zk_971 : zmeth zKS zuq zNS zm_971 4000 = true := zqF (zdt_X6_isTrue) (by decide +kernel)
theorem zM_971 {l : Launch} {D : va_G} {cI cZ cB cJ cR : ClassId} {ks ad : List Nat} {Psi : va_W → Prop} (hw : zworld ks ad zuq zNS Psi) (hm : zMan l D cI cZ cB cJ cR ks ad Psi) : zMet l D cI cZ cB cJ cR zKS ks ad Psi yX6_isTrue (.code yX6_isTrue cX6_isTrue 4 (some .boolean)) 3 zc_971 :=
  zmet_of hw 3 (by decide) 4000 zk_971 (by decide) (by decide) (fun X => ⟨zg_RX6 X, zp_RX6 X, zl1_RX6 X, zl2_RX6 X, nilz, (List.forall_mem_cons.mpr ⟨zq_RX6_250 X (zM_937 hw hm) (by decide) rfl rfl, nilz⟩)⟩)
set_option maxRecDepth 100000 in
theorem zk_972 : zmeth zKS zuq zNS zm_972 4000 = true := zqF (zdt_X6_isTrue) (by decide +kernel)
theorem zM_972 {l : Launch} {D : va_G} {cI cZ cB cJ cR : ClassId} {ks ad : List Nat} {Psi : va_W → Prop} (hw : zworld ks ad zuq zNS Psi) (hm : zMan l D cI cZ cB cJ cR ks ad Psi) : zMet l D cI cZ cB cJ cR zKS ks ad Psi yX6_isTrue (.code yX6_isTrue cX6_isTrue 4 (some .boolean)) 3 zc_972 :=
  zmet_of hw 3 (by decide) 4000 zk_972 (by decide) (by decide) (fun X => ⟨zg_RX6 X, zp_RX6 X, zl1_RX6 X, zl2_RX6 X, nilz, (List.forall_mem_cons.mpr ⟨zq_RX6_250 X (zM_937 hw hm) (by decide) rfl rfl, nilz⟩)⟩)
set_option maxRecDepth 100000 in
theorem zk_973 : zmeth zKS zuq zNS zm_973 4000 = true := zqF (zdt_X6_isTrue) (by decide +kernel)
theorem zM_973 {l : Launch} {D : va_G} {cI cZ cB cJ cR : ClassId} {ks ad : List Nat} {Psi : va_W → Prop} (hw : zworld ks ad zuq zNS Psi) (hm : zMan l D cI cZ cB cJ cR ks ad Psi) : zMet l D cI cZ cB cJ cR zKS ks ad Psi yX6_isTrue (.code yX6_isTrue cX6_isTrue 4 (some .boolean)) 3 zc_973 :=
  zmet_of hw 3 (by decide) 4000 zk_973 (by decide) (by decide) (fun X => ⟨zg_RX6 X, zp_RX6 X, zl1_RX6 X, zl2_RX6 X, nilz, (List.forall_mem_cons.mpr ⟨zq_RX6_250 X (zM_937 hw hm) (by decide) rfl rfl, nilz⟩)⟩)
set_option maxRecDepth 100000 in
theorem zk_974 : zmeth zKS zuq zNS zm_974 4000 = true := zqF (zdt_X6_isTrue) (by decide +kernel)
theorem zM_974 {l : Launch} {D : va_G} {cI cZ cB cJ cR : ClassId} {ks ad : List Nat} {Psi : va_W → Prop} (hw : zworld ks ad zuq zNS Psi) (hm : zMan l D cI cZ cB cJ cR ks ad Psi) : zMet l D cI cZ cB cJ cR zKS ks ad Psi yX6_isTrue (.code yX6_isTrue cX6_isTrue 4 (some .boolean)) 3 zc_974 :=
  zmet_of hw 3 (by decide) 4000 zk_974 (by decide) (by decide) (fun X => ⟨zg_RX6 X, zp_RX6 X, zl1_RX6 X, zl2_RX6 X, nilz, (List.forall_mem_cons.mpr ⟨zq_RX6_250 X (zM_937 hw hm) (by decide) rfl rfl, nilz⟩)⟩)
set_option maxRecDepth 100000 in
theorem zk_975 : zmeth zKS zuq zNS zm_975 4000 = true := zqF (zdt_X6_isTrue) (by decide +kernel)
theorem zM_975 {l : Launch} {D : va_G} {cI cZ cB cJ cR : ClassId} {ks ad : List Nat} {Psi : va_W → Prop} (hw : zworld ks ad zuq zNS Psi) (hm : zMan l D cI cZ cB cJ cR ks ad Psi) : zMet l D cI cZ cB cJ cR zKS ks ad Psi yX6_isTrue (.code yX6_isTrue cX6_isTrue 4 (some .boolean)) 3 zc_975 :=
  zmet_of hw 3 (by decide) 4000 zk_975 (by decide) (by decide) (fun X => ⟨zg_RX6 X, zp_RX6 X, zl1_RX6 X, zl2_RX6 X, nilz, (List.forall_mem_cons.mpr ⟨zq_RX6_250 X (zM_937 hw hm) (by decide) rfl rfl, nilz⟩)⟩)
set_option maxRecDepth 100000 in
theorem zk_976 : zmeth zKS zuq zNS zm_976 4000 = true := zqF (zdt_X6_isTrue) (by decide +kernel)
theorem zM_976 {l : Launch} {D : va_G} {cI cZ cB cJ cR : ClassId} {ks ad : List Nat} {Psi : va_W → Prop} (hw : zworld ks ad zuq zNS Psi) (hm : zMan l D cI cZ cB cJ cR ks ad Psi) : zMet l D cI cZ cB cJ cR zKS ks ad Psi yX6_isTrue (.code yX6_isTrue cX6_isTrue 4 (some .boolean)) 3 zc_976 :=
  zmet_of hw 3 (by decide) 4000 zk_976 (by decide) (by decide) (fun X => ⟨zg_RX6 X, zp_RX6 X, zl1_RX6 X, zl2_RX6 X, nilz, (List.forall_mem_cons.mpr ⟨zq_RX6_250 X (zM_937 hw hm) (by decide) rfl rfl, nilz⟩)⟩)
set_option maxRecDepth 100000 in
theorem zk_977 : zmeth zKS zuq zNS zm_977 4000 = true := zqF (zdt_X6_isTrue) (by decide +kernel)
theorem zM_977 {l : Launch} {D : va_G} {cI cZ cB cJ cR : ClassId} {ks ad : List Nat} {Psi : va_W → Prop} (hw : zworld ks ad zuq zNS Psi) (hm : zMan l D cI cZ cB cJ cR ks ad Psi) : zMet l D cI cZ cB cJ cR zKS ks ad Psi yX6_isTrue (.code yX6_isTrue cX6_isTrue 4 (some .boolean)) 3 zc_977 :=
  zmet_of hw 3 (by decide) 4000 zk_977 (by decide) (by decide) (fun X => ⟨zg_RX6 X, zp_RX6 X, zl1_RX6 X, zl2_RX6 X, nilz, (List.forall_mem_cons.mpr ⟨zq_RX6_250 X (zM_937 hw hm) (by decide) rfl rfl, nilz⟩)⟩)
set_option maxRecDepth 100000 in
theorem zk_978 : zmeth zKS zuq zNS zm_978 4000 = true := zqF (zdt_X6_isTrue) (by decide +kernel)
theorem zM_978 {l : Launch} {D : va_G} {cI cZ cB cJ cR : ClassId} {ks ad : List Nat} {Psi : va_W → Prop} (hw : zworld ks ad zuq zNS Psi) (hm : zMan l D cI cZ cB cJ cR ks ad Psi) : zMet l D cI cZ cB cJ cR zKS ks ad Psi yX6_isTrue (.code yX6_isTrue cX6_isTrue 4 (some .boolean)) 3 zc_978 :=
  zmet_of hw 3 (by decide) 4000 zk_978 (by decide) (by decide) (fun X => ⟨zg_RX6 X, zp_RX6 X, zl1_RX6 X, zl2_RX6 X, nilz, (List.forall_mem_cons.mpr ⟨zq_RX6_250 X (zM_937 hw hm) (by decide) rfl rfl, nilz⟩)⟩)
set_option maxRecDepth 100000 in
theorem zk_979 : zmeth zKS zuq zNS zm_979 4000 = true := zqF (zdt_X6_isTrue) (by decide +kernel)
theorem zM_979 {l : Launch} {D : va_G} {cI cZ cB cJ cR : ClassId} {ks ad : List Nat} {Psi : va_W → Prop} (hw : zworld ks ad zuq zNS Psi) (hm : zMan l D cI cZ cB cJ cR ks ad Psi) : zMet l D cI cZ cB cJ cR zKS ks ad Psi yX6_isTrue (.code yX6_isTrue cX6_isTrue 4 (some .boolean)) 3 zc_979 :=
  zmet_of hw 3 (by decide) 4000 zk_979 (by decide) (by decide) (fun X => ⟨zg_RX6 X, zp_RX6 X, zl1_RX6 X, zl2_RX6 X, nilz, (List.forall_mem_cons.mpr ⟨zq_RX6_250 X (zM_937 hw hm) (by decide) rfl rfl, nilz⟩)⟩)
set_option maxRecDepth 100000 in
theorem zk_980 : zmeth zKS zuq zNS zm_980 4000 = true := zqF (zdt_X6_isTrue) (by decide +kernel)
theorem zM_980 {l : Launch} {D : va_G} {cI cZ cB cJ cR : ClassId} {ks ad : List Nat} {Psi : va_W → Prop} (hw : zworld ks ad zuq zNS Psi) (hm : zMan l D cI cZ cB cJ cR ks ad Psi) : zMet l D cI cZ cB cJ cR zKS ks ad Psi yX6_isTrue (.code yX6_isTrue cX6_isTrue 4 (some .boolean)) 3 zc_980 :=
  zmet_of hw 3 (by decide) 4000 zk_980 (by decide) (by decide) (fun X => ⟨zg_RX6 X, zp_RX6 X, zl1_RX6 X, zl2_RX6 X, nilz, (List.forall_mem_cons.mpr ⟨zq_RX6_250 X (zM_937 hw hm) (by decide) rfl rfl, nilz⟩)⟩)
set_option maxRecDepth 100000 in
theorem zk_981 : zmeth zKS zuq zNS zm_981 4000 = true := zqF (zdt_X6_isTrue) (by decide +kernel)
theorem zM_981 {l : Launch} {D : va_G} {cI cZ cB cJ cR : ClassId} {ks ad : List Nat} {Psi : va_W → Prop} (hw : zworld ks ad zuq zNS Psi) (hm : zMan l D cI cZ cB cJ cR ks ad Psi) : zMet l D cI cZ cB cJ cR zKS ks ad Psi yX6_isTrue (.code yX6_isTrue cX6_isTrue 4 (some .boolean)) 3 zc_981 :=
  zmet_of hw 3 (by decide) 4000 zk_981 (by decide) (by decide) (fun X => ⟨zg_RX6 X, zp_RX6 X, zl1_RX6 X, zl2_RX6 X, nilz, (List.forall_mem_cons.mpr ⟨zq_RX6_250 X (zM_937 hw hm) (by decide) rfl rfl, nilz⟩)⟩)
set_option maxRecDepth 100000 in
theorem zk_982 : zmeth zKS zuq zNS zm_982 4000 = true := zqF (zdt_X6_isTrue) (by decide +kernel)
theorem zM_982 {l : Launch} {D : va_G} {cI cZ cB cJ cR : ClassId} {ks ad : List Nat} {Psi : va_W → Prop} (hw : zworld ks ad zuq zNS Psi) (hm : zMan l D cI cZ cB cJ cR ks ad Psi) : zMet l D cI cZ cB cJ cR zKS ks ad Psi yX6_isTrue (.code yX6_isTrue cX6_isTrue 4 (some .boolean)) 3 zc_982 :=
  zmet_of hw 3 (by decide) 4000 zk_982 (by decide) (by decide) (fun X => ⟨zg_RX6 X, zp_RX6 X, zl1_RX6 X, zl2_RX6 X, nilz, (List.forall_mem_cons.mpr ⟨zq_RX6_250 X (zM_937 hw hm) (by decide) rfl rfl, nilz⟩)⟩)
set_option maxRecDepth 100000 in
theorem zk_983 : zmeth zKS zuq zNS zm_983 4000 = true := zqF (zdt_X6_isTrue) (by decide +kernel)
theorem zM_983 {l : Launch} {D : va_G} {cI cZ cB cJ cR : ClassId} {ks ad : List Nat} {Psi : va_W → Prop} (hw : zworld ks ad zuq zNS Psi) (hm : zMan l D cI cZ cB cJ cR ks ad Psi) : zMet l D cI cZ cB cJ cR zKS ks ad Psi yX6_isTrue (.code yX6_isTrue cX6_isTrue 4 (some .boolean)) 3 zc_983 :=
  zmet_of hw 3 (by decide) 4000 zk_983 (by decide) (by decide) (fun X => ⟨zg_RX6 X, zp_RX6 X, zl1_RX6 X, zl2_RX6 X, nilz, (List.forall_mem_cons.mpr ⟨zq_RX6_250 X (zM_937 hw hm) (by decide) rfl rfl, nilz⟩)⟩)
set_option maxRecDepth 100000 in
theorem zk_984 : zmeth zKS zuq zNS zm_984 4000 = true := zqF (zdt_X6_isTrue) (by decide +kernel)
theorem zM_984 {l : Launch} {D : va_G} {cI cZ cB cJ cR : ClassId} {ks ad : List Nat} {Psi : va_W → Prop} (hw : zworld ks ad zuq zNS Psi) (hm : zMan l D cI cZ cB cJ cR ks ad Psi) : zMet l D cI cZ cB cJ cR zKS ks ad Psi yX6_isTrue (.code yX6_isTrue cX6_isTrue 4 (some .boolean)) 3 zc_984 :=
  zmet_of hw 3 (by decide) 4000 zk_984 (by decide) (by decide) (fun X => ⟨zg_RX6 X, zp_RX6 X, zl1_RX6 X, zl2_RX6 X, nilz, (List.forall_mem_cons.mpr ⟨zq_RX6_250 X (zM_937 hw hm) (by decide) rfl rfl, nilz⟩)⟩)
set_option maxRecDepth 100000 in
theorem zk_985 : zmeth zKS zuq zNS zm_985 4000 = true := zqF (zdt_X6_isTrue) (by decide +kernel)
theorem zM_985 {l : Launch} {D : va_G} {cI cZ cB cJ cR : ClassId} {ks ad : List Nat} {Psi : va_W → Prop} (hw : zworld ks ad zuq zNS Psi) (hm : zMan l D cI cZ cB cJ cR ks ad Psi) : zMet l D cI cZ cB cJ cR zKS ks ad Psi yX6_isTrue (.code yX6_isTrue cX6_isTrue 4 (some .boolean)) 3 zc_985 :=
  zmet_of hw 3 (by decide) 4000 zk_985 (by decide) (by decide) (fun X => ⟨zg_RX6 X, zp_RX6 X, zl1_RX6 X, zl2_RX6 X, nilz, (List.forall_mem_cons.mpr ⟨zq_RX6_250 X (zM_937 hw hm) (by decide) rfl rfl, nilz⟩)⟩)
set_option maxRecDepth 100000 in
theorem zk_986 : zmeth zKS zuq zNS zm_986 4000 = true := zqF (zdt_X6_isTrue) (by decide +kernel)
theorem zM_986 {l : Launch} {D : va_G} {cI cZ cB cJ cR : ClassId} {ks ad : List Nat} {Psi : va_W → Prop} (hw : zworld ks ad zuq zNS Psi) (hm : zMan l D cI cZ cB cJ cR ks ad Psi) : zMet l D cI cZ cB cJ cR zKS ks ad Psi yX6_isTrue (.code yX6_isTrue cX6_isTrue 4 (some .boolean)) 3 zc_986 :=
  zmet_of hw 3 (by decide) 4000 zk_986 (by decide) (by decide) (fun X => ⟨zg_RX6 X, zp_RX6 X, zl1_RX6 X, zl2_RX6 X, nilz, (List.forall_mem_cons.mpr ⟨zq_RX6_250 X (zM_937 hw hm) (by decide) rfl rfl, nilz⟩)⟩)
set_option maxRecDepth 100000 in
theorem zk_987 : zmeth zKS zuq zNS zm_987 4000 = true := zqF (zdt_X6_isTrue) (by decide +kernel)
theorem zM_987 {l : Launch} {D : va_G} {cI cZ cB cJ cR : ClassId} {ks ad : List Nat} {Psi : va_W → Prop} (hw : zworld ks ad zuq zNS Psi) (hm : zMan l D cI cZ cB cJ cR ks ad Psi) : zMet l D cI cZ cB cJ cR zKS ks ad Psi yX6_isTrue (.code yX6_isTrue cX6_isTrue 4 (some .boolean)) 3 zc_987 :=
  zmet_of hw 3 (by decide) 4000 zk_987 (by decide) (by decide) (fun X => ⟨zg_RX6 X, zp_RX6 X, zl1_RX6 X, zl2_RX6 X, nilz, (List.forall_mem_cons.mpr ⟨zq_RX6_250 X (zM_937 hw hm) (by decide) rfl rfl, nilz⟩)⟩)
set_option maxRecDepth 100000 in
theorem zk_988 : zmeth zKS zuq zNS zm_988 4000 = true := zqF (zdt_X6_isTrue) (by decide +kernel)
theorem zM_988 {l : Launch} {D : va_G} {cI cZ cB cJ cR : ClassId} {ks ad : List Nat} {Psi : va_W → Prop} (hw : zworld ks ad zuq zNS Psi) (hm : zMan l D cI cZ cB cJ cR ks ad Psi) : zMet l D cI cZ cB cJ cR zKS ks ad Psi yX6_isTrue (.code yX6_isTrue cX6_isTrue 4 (some .boolean)) 3 zc_988 :=
  zmet_of hw 3 (by decide) 4000 zk_988 (by decide) (by decide) (fun X => ⟨zg_RX6 X, zp_RX6 X, zl1_RX6 X, zl2_RX6 X, nilz, (List.forall_mem_cons.mpr ⟨zq_RX6_250 X (zM_937 hw hm) (by decide) rfl rfl, nilz⟩)⟩)
set_option maxRecDepth 100000 in
theorem zk_989 : zmeth zKS zuq zNS zm_989 4000 = true := zqF (zdt_X6_isTrue) (by decide +kernel)
theorem zM_989 {l : Launch} {D : va_G} {cI cZ cB cJ cR : ClassId} {ks ad : List Nat} {Psi : va_W → Prop} (hw : zworld ks ad zuq zNS Psi) (hm : zMan l D cI cZ cB cJ cR ks ad Psi) : zMet l D cI cZ cB cJ cR zKS ks ad Psi yX6_isTrue (.code yX6_isTrue cX6_isTrue 4 (some .boolean)) 3 zc_989 :=
  zmet_of hw 3 (by decide) 4000 zk_989 (by decide) (by decide) (fun X => ⟨zg_RX6 X, zp_RX6 X, zl1_RX6 X, zl2_RX6 X, nilz, (List.forall_mem_cons.mpr ⟨zq_RX6_250 X (zM_937 hw hm) (by decide) rfl rfl, nilz⟩)⟩)
set_option maxRecDepth 100000 in
theorem zk_990 : zmeth zKS zuq zNS zm_990 4000 = true := zqF (zdt_X6_isTrue) (by decide +kernel)
theorem zM_990 {l : Launch} {D : va_G} {cI cZ cB cJ cR : ClassId} {ks ad : List Nat} {Psi : va_W → Prop} (hw : zworld ks ad zuq zNS Psi) (hm : zMan l D cI cZ cB cJ cR ks ad Psi) : zMet l D cI cZ cB cJ cR zKS ks ad Psi yX6_isTrue (.code yX6_isTrue cX6_isTrue 4 (some .boolean)) 3 zc_990 :=
  zmet_of hw 3 (by decide) 4000 zk_990 (by decide) (by decide) (fun X => ⟨zg_RX6 X, zp_RX6 X, zl1_RX6 X, zl2_RX6 X, nilz, (List.forall_mem_cons.mpr ⟨zq_RX6_250 X (zM_937 hw hm) (by decide) rfl rfl, nilz⟩)⟩)
set_option maxRecDepth 100000 in
theorem zk_991 : zmeth zKS zuq zNS zm_991 4000 = true := zqF (zdt_X6_isTrue) (by decide +kernel)
theorem zM_991 {l : Launch} {D : va_G} {cI cZ cB cJ cR : ClassId} {ks ad : List Nat} {Psi : va_W → Prop} (hw : zworld ks ad zuq zNS Psi) (hm : zMan l D cI cZ cB cJ cR ks ad Psi) : zMet l D cI cZ cB cJ cR zKS ks ad Psi yX6_isTrue (.code yX6_isTrue cX6_isTrue 4 (some .boolean)) 3 zc_991 :=
  zmet_of hw 3 (by decide) 4000 zk_991 (by decide) (by decide) (fun X => ⟨zg_RX6 X, zp_RX6 X, zl1_RX6 X, zl2_RX6 X, nilz, (List.forall_mem_cons.mpr ⟨zq_RX6_250 X (zM_937 hw hm) (by decide) rfl rfl, nilz⟩)⟩)
set_option maxRecDepth 100000 in
theorem zk_992 : zmeth zKS zuq zNS zm_992 4000 = true := zqF (zdt_X6_isTrue) (by decide +kernel)
theorem zM_992 {l : Launch} {D : va_G} {cI cZ cB cJ cR : ClassId} {ks ad : List Nat} {Psi : va_W → Prop} (hw : zworld ks ad zuq zNS Psi) (hm : zMan l D cI cZ cB cJ cR ks ad Psi) : zMet l D cI cZ cB cJ cR zKS ks ad Psi yX6_isTrue (.code yX6_isTrue cX6_isTrue 4 (some .boolean)) 3 zc_992 :=
  zmet_of hw 3 (by decide) 4000 zk_992 (by decide) (by decide) (fun X => ⟨zg_RX6 X, zp_RX6 X, zl1_RX6 X, zl2_RX6 X, nilz, (List.forall_mem_cons.mpr ⟨zq_RX6_250 X (zM_937 hw hm) (by decide) rfl rfl, nilz⟩)⟩)
set_option maxRecDepth 100000 in
theorem zk_993 : zmeth zKS zuq zNS zm_993 4000 = true := zqF (zdt_X6_isTrue) (by decide +kernel)
theorem zM_993 {l : Launch} {D : va_G} {cI cZ cB cJ cR : ClassId} {ks ad : List Nat} {Psi : va_W → Prop} (hw : zworld ks ad zuq zNS Psi) (hm : zMan l D cI cZ cB cJ cR ks ad Psi) : zMet l D cI cZ cB cJ cR zKS ks ad Psi yX6_isTrue (.code yX6_isTrue cX6_isTrue 4 (some .boolean)) 3 zc_993 :=
  zmet_of hw 3 (by decide) 4000 zk_993 (by decide) (by decide) (fun X => ⟨zg_RX6 X, zp_RX6 X, zl1_RX6 X, zl2_RX6 X, nilz, (List.forall_mem_cons.mpr ⟨zq_RX6_250 X (zM_937 hw hm) (by decide) rfl rfl, nilz⟩)⟩)
set_option maxRecDepth 100000 in
theorem zk_994 : zmeth zKS zuq zNS zm_994 4000 = true := zqF (zdt_X6_isTrue) (by decide +kernel)
theorem zM_994 {l : Launch} {D : va_G} {cI cZ cB cJ cR : ClassId} {ks ad : List Nat} {Psi : va_W → Prop} (hw : zworld ks ad zuq zNS Psi) (hm : zMan l D cI cZ cB cJ cR ks ad Psi) : zMet l D cI cZ cB cJ cR zKS ks ad Psi yX6_isTrue (.code yX6_isTrue cX6_isTrue 4 (some .boolean)) 3 zc_994 :=
  zmet_of hw 3 (by decide) 4000 zk_994 (by decide) (by decide) (fun X => ⟨zg_RX6 X, zp_RX6 X, zl1_RX6 X, zl2_RX6 X, nilz, (List.forall_mem_cons.mpr ⟨zq_RX6_250 X (zM_937 hw hm) (by decide) rfl rfl, nilz⟩)⟩)
set_option maxRecDepth 100000 in
theorem zk_995 : zmeth zKS zuq zNS zm_995 4000 = true := zqF (zdt_X6_isTrue) (by decide +kernel)
theorem zM_995 {l : Launch} {D : va_G} {cI cZ cB cJ cR : ClassId} {ks ad : List Nat} {Psi : va_W → Prop} (hw : zworld ks ad zuq zNS Psi) (hm : zMan l D cI cZ cB cJ cR ks ad Psi) : zMet l D cI cZ cB cJ cR zKS ks ad Psi yX6_isTrue (.code yX6_isTrue cX6_isTrue 4 (some .boolean)) 3 zc_995 :=
  zmet_of hw 3 (by decide) 4000 zk_995 (by decide) (by decide) (fun X => ⟨zg_RX6 X, zp_RX6 X, zl1_RX6 X, zl2_RX6 X, nilz, (List.forall_mem_cons.mpr ⟨zq_RX6_250 X (zM_937 hw hm) (by decide) rfl rfl, nilz⟩)⟩)
set_option maxRecDepth 100000 in
theorem zk_996 : zmeth zKS zuq zNS zm_996 4000 = true := zqF (zdt_X6_isTrue) (by decide +kernel)
theorem zM_996 {l : Launch} {D : va_G} {cI cZ cB cJ cR : ClassId} {ks ad : List Nat} {Psi : va_W → Prop} (hw : zworld ks ad zuq zNS Psi) (hm : zMan l D cI cZ cB cJ cR ks ad Psi) : zMet l D cI cZ cB cJ cR zKS ks ad Psi yX6_isTrue (.code yX6_isTrue cX6_isTrue 4 (some .boolean)) 3 zc_996 :=
  zmet_of hw 3 (by decide) 4000 zk_996 (by decide) (by decide) (fun X => ⟨zg_RX6 X, zp_RX6 X, zl1_RX6 X, zl2_RX6 X, nilz, (List.forall_mem_cons.mpr ⟨zq_RX6_250 X (zM_937 hw hm) (by decide) rfl rfl, nilz⟩)⟩)
set_option maxRecDepth 100000 in
theorem zk_997 : zmeth zKS zuq zNS zm_997 4000 = true := zqF (zdt_X6_isTrue) (by decide +kernel)
theorem zM_997 {l : Launch} {D : va_G} {cI cZ cB cJ cR : ClassId} {ks ad : List Nat} {Psi : va_W → Prop} (hw : zworld ks ad zuq zNS Psi) (hm : zMan l D cI cZ cB cJ cR ks ad Psi) : zMet l D cI cZ cB cJ cR zKS ks ad Psi yX6_isTrue (.code yX6_isTrue cX6_isTrue 4 (some .boolean)) 3 zc_997 :=
  zmet_of hw 3 (by decide) 4000 zk_997 (by decide) (by decide) (fun X => ⟨zg_RX6 X, zp_RX6 X, zl1_RX6 X, zl2_RX6 X, nilz, (List.forall_mem_cons.mpr ⟨zq_RX6_250 X (zM_937 hw hm) (by decide) rfl rfl, nilz⟩)⟩)
set_option maxRecDepth 100000 in
theorem zk_998 : zmeth zKS zuq zNS zm_998 4000 = true := zqF (zdt_X6_isTrue) (by decide +kernel)
theorem zM_998 {l : Launch} {D : va_G} {cI cZ cB cJ cR : ClassId} {ks ad : List Nat} {Psi : va_W → Prop} (hw : zworld ks ad zuq zNS Psi) (hm : zMan l D cI cZ cB cJ cR ks ad Psi) : zMet l D cI cZ cB cJ cR zKS ks ad Psi yX6_isTrue (.code yX6_isTrue cX6_isTrue 4 (some .boolean)) 3 zc_998 :=
  zmet_of hw 3 (by decide) 4000 zk_998 (by decide) (by decide) (fun X => ⟨zg_RX6 X, zp_RX6 X, zl1_RX6 X, zl2_RX6 X, nilz, (List.forall_mem_cons.mpr ⟨zq_RX6_250 X (zM_937 hw hm) (by decide) rfl rfl, nilz⟩)⟩)
set_option maxRecDepth 100000 in
theorem zk_999 : zmeth zKS zuq zNS zm_999 4000 = true := zqF (zdt_X6_isTrue) (by decide +kernel)
theorem zM_999 {l : Launch} {D : va_G} {cI cZ cB cJ cR : ClassId} {ks ad : List Nat} {Psi : va_W → Prop} (hw : zworld ks ad zuq zNS Psi) (hm : zMan l D cI cZ cB cJ cR ks ad Psi) : zMet l D cI cZ cB cJ cR zKS ks ad Psi yX6_isTrue (.code yX6_isTrue cX6_isTrue 4 (some .boolean)) 3 zc_999 :=
  zmet_of hw 3 (by decide) 4000 zk_999 (by decide) (by decide) (fun X => ⟨zg_RX6 X, zp_RX6 X, zl1_RX6 X, zl2_RX6 X, nilz, (List.forall_mem_cons.mpr ⟨zq_RX6_250 X (zM_937 hw hm) (by decide) rfl rfl, nilz⟩)⟩)
set_option maxRecDepth 100000 in
theorem zk_1000 : zmeth zKS zuq zNS zm_1000 4000 = true := zqF (zdt_X6_isTrue) (by decide +kernel)
theorem zM_1000 {l : Launch} {D : va_G} {cI cZ cB cJ cR : ClassId} {ks ad : List Nat} {Psi : va_W → Prop} (hw : zworld ks ad zuq zNS Psi) (hm : zMan l D cI cZ cB cJ cR ks ad Psi) : zMet l D cI cZ cB cJ cR zKS ks ad Psi yX6_isTrue (.code yX6_isTrue cX6_isTrue 4 (some .boolean)) 3 zc_1000 :=
  zmet_of hw 3 (by decide) 4000 zk_1000 (by decide) (by decide) (fun X => ⟨zg_RX6 X, zp_RX6 X, zl1_RX6 X, zl2_RX6 X, nilz, (List.forall_mem_cons.mpr ⟨zq_RX6_250 X (zM_937 hw hm) (by decide) rfl rfl, nilz⟩)⟩)
set_option maxRecDepth 100000 in
theorem zk_1001 : zmeth zKS zuq zNS zm_1001 4000 = true := zqF (zdt_X6_isTrue) (by decide +kernel)
theorem zM_1001 {l : Launch} {D : va_G} {cI cZ cB cJ cR : ClassId} {ks ad : List Nat} {Psi : va_W → Prop} (hw : zworld ks ad zuq zNS Psi) (hm : zMan l D cI cZ cB cJ cR ks ad Psi) : zMet l D cI cZ cB cJ cR zKS ks ad Psi yX6_isTrue (.code yX6_isTrue cX6_isTrue 4 (some .boolean)) 3 zc_1001 :=
  zmet_of hw 3 (by decide) 4000 zk_1001 (by decide) (by decide) (fun X => ⟨zg_RX6 X, zp_RX6 X, zl1_RX6 X, zl2_RX6 X, nilz, (List.forall_mem_cons.mpr ⟨zq_RX6_250 X (zM_937 hw hm) (by decide) rfl rfl, nilz⟩)⟩)
set_option maxRecDepth 100000 in
theorem zk_1002 : zmeth zKS zuq zNS zm_1002 4000 = true := zqF (zdt_X6_isTrue) (by decide +kernel)
theorem zM_1002 {l : Launch} {D : va_G} {cI cZ cB cJ cR : ClassId} {ks ad : List Nat} {Psi : va_W → Prop} (hw : zworld ks ad zuq zNS Psi) (hm : zMan l D cI cZ cB cJ cR ks ad Psi) : zMet l D cI cZ cB cJ cR zKS ks ad Psi yX6_isTrue (.code yX6_isTrue cX6_isTrue 4 (some .boolean)) 3 zc_1002 :=
  zmet_of hw 3 (by decide) 4000 zk_1002 (by decide) (by decide) (fun X => ⟨zg_RX6 X, zp_RX6 X, zl1_RX6 X, zl2_RX6 X, nilz, (List.forall_mem_cons.mpr ⟨zq_RX6_250 X (zM_937 hw hm) (by decide) rfl rfl, nilz⟩)⟩)
set_option maxRecDepth 100000 in
theorem zk_1003 : zmeth zKS zuq zNS zm_1003 4000 = true := zqF (zdt_X6_isTrue) (by decide +kernel)
theorem zM_1003 {l : Launch} {D : va_G} {cI cZ cB cJ cR : ClassId} {ks ad : List Nat} {Psi : va_W → Prop} (hw : zworld ks ad zuq zNS Psi) (hm : zMan l D cI cZ cB cJ cR ks ad Psi) : zMet l D cI cZ cB cJ cR zKS ks ad Psi yX6_isTrue (.code yX6_isTrue cX6_isTrue 4 (some .boolean)) 3 zc_1003 :=
  zmet_of hw 3 (by decide) 4000 zk_1003 (by decide) (by decide) (fun X => ⟨zg_RX6 X, zp_RX6 X, zl1_RX6 X, zl2_RX6 X, nilz, (List.forall_mem_cons.mpr ⟨zq_RX6_250 X (zM_937 hw hm) (by decide) rfl rfl, nilz⟩)⟩)
set_option maxRecDepth 100000 in
theorem zk_1004 : zmeth zKS zuq zNS zm_1004 4000 = true := zqF (zdt_X6_isTrue) (by decide +kernel)
theorem zM_1004 {l : Launch} {D : va_G} {cI cZ cB cJ cR : ClassId} {ks ad : List Nat} {Psi : va_W → Prop} (hw : zworld ks ad zuq zNS Psi) (hm : zMan l D cI cZ cB cJ cR ks ad Psi) : zMet l D cI cZ cB cJ cR zKS ks ad Psi yX6_isTrue (.code yX6_isTrue cX6_isTrue 4 (some .boolean)) 3 zc_1004 :=
  zmet_of hw 3 (by decide) 4000 zk_1004 (by decide) (by decide) (fun X => ⟨zg_RX6 X, zp_RX6 X, zl1_RX6 X, zl2_RX6 X, nilz, (List.forall_mem_cons.mpr ⟨zq_RX6_250 X (zM_937 hw hm) (by decide) rfl rfl, nilz⟩)⟩)
set_option maxRecDepth 100000 in
theorem zk_1005 : zmeth zKS zuq zNS zm_1005 4000 = true := zqF (zdt_X6_isTrue) (by decide +kernel)
theorem zM_1005 {l : Launch} {D : va_G} {cI cZ cB cJ cR : ClassId} {ks ad : List Nat} {Psi : va_W → Prop} (hw : zworld ks ad zuq zNS Psi) (hm : zMan l D cI cZ cB cJ cR ks ad Psi) : zMet l D cI cZ cB cJ cR zKS ks ad Psi yX6_isTrue (.code yX6_isTrue cX6_isTrue 4 (some .boolean)) 3 zc_1005 :=
  zmet_of hw 3 (by decide) 4000 zk_1005 (by decide) (by decide) (fun X => ⟨zg_RX6 X, zp_RX6 X, zl1_RX6 X, zl2_RX6 X, nilz, (List.forall_mem_cons.mpr ⟨zq_RX6_250 X (zM_937 hw hm) (by decide) rfl rfl, nilz⟩)⟩)
set_option maxRecDepth 100000 in
theorem zk_1006 : zmeth zKS zuq zNS zm_1006 4000 = true := zqF (zdt_X6_isTrue) (by decide +kernel)
theorem zM_1006 {l : Launch} {D : va_G} {cI cZ cB cJ cR : ClassId} {ks ad : List Nat} {Psi : va_W → Prop} (hw : zworld ks ad zuq zNS Psi) (hm : zMan l D cI cZ cB cJ cR ks ad Psi) : zMet l D cI cZ cB cJ cR zKS ks ad Psi yX6_isTrue (.code yX6_isTrue cX6_isTrue 4 (some .boolean)) 3 zc_1006 :=
  zmet_of hw 3 (by decide) 4000 zk_1006 (by decide) (by decide) (fun X => ⟨zg_RX6 X, zp_RX6 X, zl1_RX6 X, zl2_RX6 X, nilz, (List.forall_mem_cons.mpr ⟨zq_RX6_250 X (zM_937 hw hm) (by decide) rfl rfl, nilz⟩)⟩)
