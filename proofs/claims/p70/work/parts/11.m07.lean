set_option maxRecDepth 100000 in
theorem zk_849 : zmeth zKS zuq zNS zm_849 4000 = true := zqF (zdt0 _) (by decide +kernel)
theorem zM_849 {l : Launch} {D : va_G} {cI cZ cB cJ cR : ClassId} {ks ad : List Nat} {Psi : va_W → Prop} (hw : zworld ks ad zuq zNS Psi) (hm : zMan l D cI cZ cB cJ cR ks ad Psi) : zMet l D cI cZ cB cJ cR zKS ks ad Psi yX6_changes (.code yX6_changes cX6_changes 4 none) 0 zc_849 :=
  zmet_of hw 0 (by decide) 4000 zk_849 (by decide) (by decide) (fun X => ⟨zg_RX6 X, zp_RX6 X, zl1_RX6 X, zl2_RX6 X, nilz, nilz⟩)
set_option maxRecDepth 100000 in
theorem zk_869 : zmeth zKS zuq zNS zm_869 4000 = true := zqF (zdt0 _) (by decide +kernel)
theorem zM_869 {l : Launch} {D : va_G} {cI cZ cB cJ cR : ClassId} {ks ad : List Nat} {Psi : va_W → Prop} (hw : zworld ks ad zuq zNS Psi) (hm : zMan l D cI cZ cB cJ cR ks ad Psi) : zMet l D cI cZ cB cJ cR zKS ks ad Psi yX6_cut (.code yX6_cut cX6_cut 3 (some .long)) 0 zc_869 :=
  zmet_of hw 0 (by decide) 4000 zk_869 (by decide) (by decide) (fun X => ⟨zg_RX6 X, zp_RX6 X, zl1_RX6 X, zl2_RX6 X, nilz, nilz⟩)
set_option maxRecDepth 100000 in
theorem zk_880 : zmeth zKS zuq zNS zm_880 4000 = true := zqF (zdt0 _) (by decide +kernel)
theorem zM_880 {l : Launch} {D : va_G} {cI cZ cB cJ cR : ClassId} {ks ad : List Nat} {Psi : va_W → Prop} (hw : zworld ks ad zuq zNS Psi) (hm : zMan l D cI cZ cB cJ cR ks ad Psi) : zMet l D cI cZ cB cJ cR zKS ks ad Psi yX6_fails (.code yX6_fails cX6_fails 2 none) 0 zc_880 :=
  zmet_of hw 0 (by decide) 4000 zk_880 (by decide) (by decide) (fun X => ⟨zg_RX6 X, zp_RX6 X, zl1_RX6 X, zl2_RX6 X, nilz, nilz⟩)
set_option maxRecDepth 100000 in
theorem zk_882 : zmeth zKS zuq zNS zm_882 4000 = true := zqF (zdt0 _) (by decide +kernel)
theorem zM_882 {l : Launch} {D : va_G} {cI cZ cB cJ cR : ClassId} {ks ad : List Nat} {Psi : va_W → Prop} (hw : zworld ks ad zuq zNS Psi) (hm : zMan l D cI cZ cB cJ cR ks ad Psi) : zMet l D cI cZ cB cJ cR zKS ks ad Psi yX6_far (.code yX6_far cX6_far 2 (some .int)) 0 zc_882 :=
  zmet_of hw 0 (by decide) 4000 zk_882 (by decide) (by decide) (fun X => ⟨zg_RX6 X, zp_RX6 X, zl1_RX6 X, zl2_RX6 X, nilz, nilz⟩)
set_option maxRecDepth 100000 in
theorem zk_883 : zmeth zKS zuq zNS zm_883 4000 = true := zqF (zdt0 _) (by decide +kernel)
theorem zM_883 {l : Launch} {D : va_G} {cI cZ cB cJ cR : ClassId} {ks ad : List Nat} {Psi : va_W → Prop} (hw : zworld ks ad zuq zNS Psi) (hm : zMan l D cI cZ cB cJ cR ks ad Psi) : zMet l D cI cZ cB cJ cR zKS ks ad Psi yX6_fault (.code yX6_fault cX6_fault 2 (some .int)) 0 zc_883 :=
  zmet_of hw 0 (by decide) 4000 zk_883 (by decide) (by decide) (fun X => ⟨zg_RX6 X, zp_RX6 X, zl1_RX6 X, zl2_RX6 X, nilz, nilz⟩)
set_option maxRecDepth 100000 in
theorem zk_887 : zmeth zKS zuq zNS zm_887 4000 = true := zqF (zdt0 _) (by decide +kernel)
theorem zM_887 {l : Launch} {D : va_G} {cI cZ cB cJ cR : ClassId} {ks ad : List Nat} {Psi : va_W → Prop} (hw : zworld ks ad zuq zNS Psi) (hm : zMan l D cI cZ cB cJ cR ks ad Psi) : zMet l D cI cZ cB cJ cR zKS ks ad Psi yX6_four (.code yX6_four cX6_four 3 none) 0 zc_887 :=
  zmet_of hw 0 (by decide) 4000 zk_887 (by decide) (by decide) (fun X => ⟨zg_RX6 X, zp_RX6 X, zl1_RX6 X, zl2_RX6 X, nilz, nilz⟩)
set_option maxRecDepth 100000 in
theorem zk_897 : zmeth zKS zuq zNS zm_897 4000 = true := zqF (zdt0 _) (by decide +kernel)
theorem zM_897 {l : Launch} {D : va_G} {cI cZ cB cJ cR : ClassId} {ks ad : List Nat} {Psi : va_W → Prop} (hw : zworld ks ad zuq zNS Psi) (hm : zMan l D cI cZ cB cJ cR ks ad Psi) : zMet l D cI cZ cB cJ cR zKS ks ad Psi yX6_hasRead (.code yX6_hasRead cX6_hasRead 2 (some .int)) 0 zc_897 :=
  zmet_of hw 0 (by decide) 4000 zk_897 (by decide) (by decide) (fun X => ⟨zg_RX6 X, zp_RX6 X, zl1_RX6 X, zl2_RX6 X, nilz, nilz⟩)
set_option maxRecDepth 100000 in
theorem zk_898 : zmeth zKS zuq zNS zm_898 4000 = true := zqF (zdt0 _) (by decide +kernel)
theorem zM_898 {l : Launch} {D : va_G} {cI cZ cB cJ cR : ClassId} {ks ad : List Nat} {Psi : va_W → Prop} (hw : zworld ks ad zuq zNS Psi) (hm : zMan l D cI cZ cB cJ cR ks ad Psi) : zMet l D cI cZ cB cJ cR zKS ks ad Psi yX6_hasRead (.code yX6_hasRead cX6_hasRead 2 (some .int)) 0 zc_898 :=
  zmet_of hw 0 (by decide) 4000 zk_898 (by decide) (by decide) (fun X => ⟨zg_RX6 X, zp_RX6 X, zl1_RX6 X, zl2_RX6 X, nilz, nilz⟩)
set_option maxRecDepth 100000 in
theorem zk_899 : zmeth zKS zuq zNS zm_899 4000 = true := zqF (zdt0 _) (by decide +kernel)
theorem zM_899 {l : Launch} {D : va_G} {cI cZ cB cJ cR : ClassId} {ks ad : List Nat} {Psi : va_W → Prop} (hw : zworld ks ad zuq zNS Psi) (hm : zMan l D cI cZ cB cJ cR ks ad Psi) : zMet l D cI cZ cB cJ cR zKS ks ad Psi yX6_hasRead (.code yX6_hasRead cX6_hasRead 2 (some .int)) 0 zc_899 :=
  zmet_of hw 0 (by decide) 4000 zk_899 (by decide) (by decide) (fun X => ⟨zg_RX6 X, zp_RX6 X, zl1_RX6 X, zl2_RX6 X, nilz, nilz⟩)
set_option maxRecDepth 100000 in
theorem zk_900 : zmeth zKS zuq zNS zm_900 4000 = true := zqF (zdt0 _) (by decide +kernel)
theorem zM_900 {l : Launch} {D : va_G} {cI cZ cB cJ cR : ClassId} {ks ad : List Nat} {Psi : va_W → Prop} (hw : zworld ks ad zuq zNS Psi) (hm : zMan l D cI cZ cB cJ cR ks ad Psi) : zMet l D cI cZ cB cJ cR zKS ks ad Psi yX6_hasRead (.code yX6_hasRead cX6_hasRead 2 (some .int)) 0 zc_900 :=
  zmet_of hw 0 (by decide) 4000 zk_900 (by decide) (by decide) (fun X => ⟨zg_RX6 X, zp_RX6 X, zl1_RX6 X, zl2_RX6 X, nilz, nilz⟩)
set_option maxRecDepth 100000 in
theorem zk_902 : zmeth zKS zuq zNS zm_902 4000 = true := zqF (zdt0 _) (by decide +kernel)
theorem zM_902 {l : Launch} {D : va_G} {cI cZ cB cJ cR : ClassId} {ks ad : List Nat} {Psi : va_W → Prop} (hw : zworld ks ad zuq zNS Psi) (hm : zMan l D cI cZ cB cJ cR ks ad Psi) : zMet l D cI cZ cB cJ cR zKS ks ad Psi yX6_hours (.code yX6_hours cX6_hours 1 (some .int)) 0 zc_902 :=
  zmet_of hw 0 (by decide) 4000 zk_902 (by decide) (by decide) (fun X => ⟨zg_RX6 X, zp_RX6 X, zl1_RX6 X, zl2_RX6 X, nilz, nilz⟩)
set_option maxRecDepth 100000 in
theorem zk_904 : zmeth zKS zuq zNS zm_904 4000 = true := zqF (zdt_X6_in) (by decide +kernel)
theorem zM_904 {l : Launch} {D : va_G} {cI cZ cB cJ cR : ClassId} {ks ad : List Nat} {Psi : va_W → Prop} (hw : zworld ks ad zuq zNS Psi) (hm : zMan l D cI cZ cB cJ cR ks ad Psi) : zMet l D cI cZ cB cJ cR zKS ks ad Psi yX6_in (.code yX6_in cX6_in 6 (some .boolean)) 0 zc_904 :=
  zmet_of hw 0 (by decide) 4000 zk_904 (by decide) (by decide) (fun X => ⟨zg_RX6 X, zp_RX6 X, zl1_RX6 X, zl2_RX6 X, nilz, nilz⟩)
set_option maxRecDepth 100000 in
theorem zk_905 : zmeth zKS zuq zNS zm_905 4000 = true := zqF (zdt_X6_in) (by decide +kernel)
theorem zM_905 {l : Launch} {D : va_G} {cI cZ cB cJ cR : ClassId} {ks ad : List Nat} {Psi : va_W → Prop} (hw : zworld ks ad zuq zNS Psi) (hm : zMan l D cI cZ cB cJ cR ks ad Psi) : zMet l D cI cZ cB cJ cR zKS ks ad Psi yX6_in (.code yX6_in cX6_in 6 (some .boolean)) 0 zc_905 :=
  zmet_of hw 0 (by decide) 4000 zk_905 (by decide) (by decide) (fun X => ⟨zg_RX6 X, zp_RX6 X, zl1_RX6 X, zl2_RX6 X, nilz, nilz⟩)
set_option maxRecDepth 100000 in
theorem zk_906 : zmeth zKS zuq zNS zm_906 4000 = true := zqF (zdt_X6_in) (by decide +kernel)
theorem zM_906 {l : Launch} {D : va_G} {cI cZ cB cJ cR : ClassId} {ks ad : List Nat} {Psi : va_W → Prop} (hw : zworld ks ad zuq zNS Psi) (hm : zMan l D cI cZ cB cJ cR ks ad Psi) : zMet l D cI cZ cB cJ cR zKS ks ad Psi yX6_in (.code yX6_in cX6_in 6 (some .boolean)) 0 zc_906 :=
  zmet_of hw 0 (by decide) 4000 zk_906 (by decide) (by decide) (fun X => ⟨zg_RX6 X, zp_RX6 X, zl1_RX6 X, zl2_RX6 X, nilz, nilz⟩)
set_option maxRecDepth 100000 in
theorem zk_907 : zmeth zKS zuq zNS zm_907 4000 = true := zqF (zdt_X6_in) (by decide +kernel)
theorem zM_907 {l : Launch} {D : va_G} {cI cZ cB cJ cR : ClassId} {ks ad : List Nat} {Psi : va_W → Prop} (hw : zworld ks ad zuq zNS Psi) (hm : zMan l D cI cZ cB cJ cR ks ad Psi) : zMet l D cI cZ cB cJ cR zKS ks ad Psi yX6_in (.code yX6_in cX6_in 6 (some .boolean)) 0 zc_907 :=
  zmet_of hw 0 (by decide) 4000 zk_907 (by decide) (by decide) (fun X => ⟨zg_RX6 X, zp_RX6 X, zl1_RX6 X, zl2_RX6 X, nilz, nilz⟩)
set_option maxRecDepth 100000 in
theorem zk_908 : zmeth zKS zuq zNS zm_908 4000 = true := zqF (zdt_X6_in) (by decide +kernel)
theorem zM_908 {l : Launch} {D : va_G} {cI cZ cB cJ cR : ClassId} {ks ad : List Nat} {Psi : va_W → Prop} (hw : zworld ks ad zuq zNS Psi) (hm : zMan l D cI cZ cB cJ cR ks ad Psi) : zMet l D cI cZ cB cJ cR zKS ks ad Psi yX6_in (.code yX6_in cX6_in 6 (some .boolean)) 0 zc_908 :=
  zmet_of hw 0 (by decide) 4000 zk_908 (by decide) (by decide) (fun X => ⟨zg_RX6 X, zp_RX6 X, zl1_RX6 X, zl2_RX6 X, nilz, nilz⟩)
set_option maxRecDepth 100000 in
theorem zk_909 : zmeth zKS zuq zNS zm_909 4000 = true := zqF (zdt_X6_in) (by decide +kernel)
theorem zM_909 {l : Launch} {D : va_G} {cI cZ cB cJ cR : ClassId} {ks ad : List Nat} {Psi : va_W → Prop} (hw : zworld ks ad zuq zNS Psi) (hm : zMan l D cI cZ cB cJ cR ks ad Psi) : zMet l D cI cZ cB cJ cR zKS ks ad Psi yX6_in (.code yX6_in cX6_in 6 (some .boolean)) 0 zc_909 :=
  zmet_of hw 0 (by decide) 4000 zk_909 (by decide) (by decide) (fun X => ⟨zg_RX6 X, zp_RX6 X, zl1_RX6 X, zl2_RX6 X, nilz, nilz⟩)
set_option maxRecDepth 100000 in
theorem zk_910 : zmeth zKS zuq zNS zm_910 4000 = true := zqF (zdt_X6_in) (by decide +kernel)
theorem zM_910 {l : Launch} {D : va_G} {cI cZ cB cJ cR : ClassId} {ks ad : List Nat} {Psi : va_W → Prop} (hw : zworld ks ad zuq zNS Psi) (hm : zMan l D cI cZ cB cJ cR ks ad Psi) : zMet l D cI cZ cB cJ cR zKS ks ad Psi yX6_in (.code yX6_in cX6_in 6 (some .boolean)) 0 zc_910 :=
  zmet_of hw 0 (by decide) 4000 zk_910 (by decide) (by decide) (fun X => ⟨zg_RX6 X, zp_RX6 X, zl1_RX6 X, zl2_RX6 X, nilz, nilz⟩)
set_option maxRecDepth 100000 in
theorem zk_911 : zmeth zKS zuq zNS zm_911 4000 = true := zqF (zdt_X6_in) (by decide +kernel)
theorem zM_911 {l : Launch} {D : va_G} {cI cZ cB cJ cR : ClassId} {ks ad : List Nat} {Psi : va_W → Prop} (hw : zworld ks ad zuq zNS Psi) (hm : zMan l D cI cZ cB cJ cR ks ad Psi) : zMet l D cI cZ cB cJ cR zKS ks ad Psi yX6_in (.code yX6_in cX6_in 6 (some .boolean)) 0 zc_911 :=
  zmet_of hw 0 (by decide) 4000 zk_911 (by decide) (by decide) (fun X => ⟨zg_RX6 X, zp_RX6 X, zl1_RX6 X, zl2_RX6 X, nilz, nilz⟩)
set_option maxRecDepth 100000 in
theorem zk_912 : zmeth zKS zuq zNS zm_912 4000 = true := zqF (zdt_X6_in) (by decide +kernel)
theorem zM_912 {l : Launch} {D : va_G} {cI cZ cB cJ cR : ClassId} {ks ad : List Nat} {Psi : va_W → Prop} (hw : zworld ks ad zuq zNS Psi) (hm : zMan l D cI cZ cB cJ cR ks ad Psi) : zMet l D cI cZ cB cJ cR zKS ks ad Psi yX6_in (.code yX6_in cX6_in 6 (some .boolean)) 0 zc_912 :=
  zmet_of hw 0 (by decide) 4000 zk_912 (by decide) (by decide) (fun X => ⟨zg_RX6 X, zp_RX6 X, zl1_RX6 X, zl2_RX6 X, nilz, nilz⟩)
set_option maxRecDepth 100000 in
theorem zk_913 : zmeth zKS zuq zNS zm_913 4000 = true := zqF (zdt_X6_in) (by decide +kernel)
theorem zM_913 {l : Launch} {D : va_G} {cI cZ cB cJ cR : ClassId} {ks ad : List Nat} {Psi : va_W → Prop} (hw : zworld ks ad zuq zNS Psi) (hm : zMan l D cI cZ cB cJ cR ks ad Psi) : zMet l D cI cZ cB cJ cR zKS ks ad Psi yX6_in (.code yX6_in cX6_in 6 (some .boolean)) 0 zc_913 :=
  zmet_of hw 0 (by decide) 4000 zk_913 (by decide) (by decide) (fun X => ⟨zg_RX6 X, zp_RX6 X, zl1_RX6 X, zl2_RX6 X, nilz, nilz⟩)
set_option maxRecDepth 100000 in
theorem zk_914 : zmeth zKS zuq zNS zm_914 4000 = true := zqF (zdt_X6_in) (by decide +kernel)
theorem zM_914 {l : Launch} {D : va_G} {cI cZ cB cJ cR : ClassId} {ks ad : List Nat} {Psi : va_W → Prop} (hw : zworld ks ad zuq zNS Psi) (hm : zMan l D cI cZ cB cJ cR ks ad Psi) : zMet l D cI cZ cB cJ cR zKS ks ad Psi yX6_in (.code yX6_in cX6_in 6 (some .boolean)) 0 zc_914 :=
  zmet_of hw 0 (by decide) 4000 zk_914 (by decide) (by decide) (fun X => ⟨zg_RX6 X, zp_RX6 X, zl1_RX6 X, zl2_RX6 X, nilz, nilz⟩)
set_option maxRecDepth 100000 in
theorem zk_915 : zmeth zKS zuq zNS zm_915 4000 = true := zqF (zdt_X6_in) (by decide +kernel)
theorem zM_915 {l : Launch} {D : va_G} {cI cZ cB cJ cR : ClassId} {ks ad : List Nat} {Psi : va_W → Prop} (hw : zworld ks ad zuq zNS Psi) (hm : zMan l D cI cZ cB cJ cR ks ad Psi) : zMet l D cI cZ cB cJ cR zKS ks ad Psi yX6_in (.code yX6_in cX6_in 6 (some .boolean)) 0 zc_915 :=
  zmet_of hw 0 (by decide) 4000 zk_915 (by decide) (by decide) (fun X => ⟨zg_RX6 X, zp_RX6 X, zl1_RX6 X, zl2_RX6 X, nilz, nilz⟩)
set_option maxRecDepth 100000 in
theorem zk_916 : zmeth zKS zuq zNS zm_916 4000 = true := zqF (zdt_X6_in) (by decide +kernel)
theorem zM_916 {l : Launch} {D : va_G} {cI cZ cB cJ cR : ClassId} {ks ad : List Nat} {Psi : va_W → Prop} (hw : zworld ks ad zuq zNS Psi) (hm : zMan l D cI cZ cB cJ cR ks ad Psi) : zMet l D cI cZ cB cJ cR zKS ks ad Psi yX6_in (.code yX6_in cX6_in 6 (some .boolean)) 0 zc_916 :=
  zmet_of hw 0 (by decide) 4000 zk_916 (by decide) (by decide) (fun X => ⟨zg_RX6 X, zp_RX6 X, zl1_RX6 X, zl2_RX6 X, nilz, nilz⟩)
set_option maxRecDepth 100000 in
theorem zk_917 : zmeth zKS zuq zNS zm_917 4000 = true := zqF (zdt_X6_in) (by decide +kernel)
theorem zM_917 {l : Launch} {D : va_G} {cI cZ cB cJ cR : ClassId} {ks ad : List Nat} {Psi : va_W → Prop} (hw : zworld ks ad zuq zNS Psi) (hm : zMan l D cI cZ cB cJ cR ks ad Psi) : zMet l D cI cZ cB cJ cR zKS ks ad Psi yX6_in (.code yX6_in cX6_in 6 (some .boolean)) 0 zc_917 :=
  zmet_of hw 0 (by decide) 4000 zk_917 (by decide) (by decide) (fun X => ⟨zg_RX6 X, zp_RX6 X, zl1_RX6 X, zl2_RX6 X, nilz, nilz⟩)
set_option maxRecDepth 100000 in
theorem zk_918 : zmeth zKS zuq zNS zm_918 4000 = true := zqF (zdt_X6_in) (by decide +kernel)
theorem zM_918 {l : Launch} {D : va_G} {cI cZ cB cJ cR : ClassId} {ks ad : List Nat} {Psi : va_W → Prop} (hw : zworld ks ad zuq zNS Psi) (hm : zMan l D cI cZ cB cJ cR ks ad Psi) : zMet l D cI cZ cB cJ cR zKS ks ad Psi yX6_in (.code yX6_in cX6_in 6 (some .boolean)) 0 zc_918 :=
  zmet_of hw 0 (by decide) 4000 zk_918 (by decide) (by decide) (fun X => ⟨zg_RX6 X, zp_RX6 X, zl1_RX6 X, zl2_RX6 X, nilz, nilz⟩)
set_option maxRecDepth 100000 in
theorem zk_919 : zmeth zKS zuq zNS zm_919 4000 = true := zqF (zdt_X6_in) (by decide +kernel)
theorem zM_919 {l : Launch} {D : va_G} {cI cZ cB cJ cR : ClassId} {ks ad : List Nat} {Psi : va_W → Prop} (hw : zworld ks ad zuq zNS Psi) (hm : zMan l D cI cZ cB cJ cR ks ad Psi) : zMet l D cI cZ cB cJ cR zKS ks ad Psi yX6_in (.code yX6_in cX6_in 6 (some .boolean)) 0 zc_919 :=
  zmet_of hw 0 (by decide) 4000 zk_919 (by decide) (by decide) (fun X => ⟨zg_RX6 X, zp_RX6 X, zl1_RX6 X, zl2_RX6 X, nilz, nilz⟩)
set_option maxRecDepth 100000 in
theorem zk_920 : zmeth zKS zuq zNS zm_920 4000 = true := zqF (zdt_X6_in) (by decide +kernel)
theorem zM_920 {l : Launch} {D : va_G} {cI cZ cB cJ cR : ClassId} {ks ad : List Nat} {Psi : va_W → Prop} (hw : zworld ks ad zuq zNS Psi) (hm : zMan l D cI cZ cB cJ cR ks ad Psi) : zMet l D cI cZ cB cJ cR zKS ks ad Psi yX6_in (.code yX6_in cX6_in 6 (some .boolean)) 0 zc_920 :=
  zmet_of hw 0 (by decide) 4000 zk_920 (by decide) (by decide) (fun X => ⟨zg_RX6 X, zp_RX6 X, zl1_RX6 X, zl2_RX6 X, nilz, nilz⟩)
set_option maxRecDepth 100000 in
theorem zk_921 : zmeth zKS zuq zNS zm_921 4000 = true := zqF (zdt_X6_in) (by decide +kernel)
theorem zM_921 {l : Launch} {D : va_G} {cI cZ cB cJ cR : ClassId} {ks ad : List Nat} {Psi : va_W → Prop} (hw : zworld ks ad zuq zNS Psi) (hm : zMan l D cI cZ cB cJ cR ks ad Psi) : zMet l D cI cZ cB cJ cR zKS ks ad Psi yX6_in (.code yX6_in cX6_in 6 (some .boolean)) 0 zc_921 :=
  zmet_of hw 0 (by decide) 4000 zk_921 (by decide) (by decide) (fun X => ⟨zg_RX6 X, zp_RX6 X, zl1_RX6 X, zl2_RX6 X, nilz, nilz⟩)
set_option maxRecDepth 100000 in
theorem zk_922 : zmeth zKS zuq zNS zm_922 4000 = true := zqF (zdt_X6_in) (by decide +kernel)
theorem zM_922 {l : Launch} {D : va_G} {cI cZ cB cJ cR : ClassId} {ks ad : List Nat} {Psi : va_W → Prop} (hw : zworld ks ad zuq zNS Psi) (hm : zMan l D cI cZ cB cJ cR ks ad Psi) : zMet l D cI cZ cB cJ cR zKS ks ad Psi yX6_in (.code yX6_in cX6_in 6 (some .boolean)) 0 zc_922 :=
  zmet_of hw 0 (by decide) 4000 zk_922 (by decide) (by decide) (fun X => ⟨zg_RX6 X, zp_RX6 X, zl1_RX6 X, zl2_RX6 X, nilz, nilz⟩)
set_option maxRecDepth 100000 in
theorem zk_923 : zmeth zKS zuq zNS zm_923 4000 = true := zqF (zdt_X6_in) (by decide +kernel)
theorem zM_923 {l : Launch} {D : va_G} {cI cZ cB cJ cR : ClassId} {ks ad : List Nat} {Psi : va_W → Prop} (hw : zworld ks ad zuq zNS Psi) (hm : zMan l D cI cZ cB cJ cR ks ad Psi) : zMet l D cI cZ cB cJ cR zKS ks ad Psi yX6_in (.code yX6_in cX6_in 6 (some .boolean)) 0 zc_923 :=
  zmet_of hw 0 (by decide) 4000 zk_923 (by decide) (by decide) (fun X => ⟨zg_RX6 X, zp_RX6 X, zl1_RX6 X, zl2_RX6 X, nilz, nilz⟩)
set_option maxRecDepth 100000 in
theorem zk_924 : zmeth zKS zuq zNS zm_924 4000 = true := zqF (zdt0 _) (by decide +kernel)
theorem zM_924 {l : Launch} {D : va_G} {cI cZ cB cJ cR : ClassId} {ks ad : List Nat} {Psi : va_W → Prop} (hw : zworld ks ad zuq zNS Psi) (hm : zMan l D cI cZ cB cJ cR ks ad Psi) : zMet l D cI cZ cB cJ cR zKS ks ad Psi yX6_is (.code yX6_is cX6_is 3 (some .boolean)) 0 zc_924 :=
  zmet_of hw 0 (by decide) 4000 zk_924 (by decide) (by decide) (fun X => ⟨zg_RX6 X, zp_RX6 X, zl1_RX6 X, zl2_RX6 X, nilz, nilz⟩)
set_option maxRecDepth 100000 in
theorem zk_925 : zmeth zKS zuq zNS zm_925 4000 = true := zqF (zdt0 _) (by decide +kernel)
theorem zM_925 {l : Launch} {D : va_G} {cI cZ cB cJ cR : ClassId} {ks ad : List Nat} {Psi : va_W → Prop} (hw : zworld ks ad zuq zNS Psi) (hm : zMan l D cI cZ cB cJ cR ks ad Psi) : zMet l D cI cZ cB cJ cR zKS ks ad Psi yX6_isBit (.code yX6_isBit cX6_isBit 2 (some .boolean)) 0 zc_925 :=
  zmet_of hw 0 (by decide) 4000 zk_925 (by decide) (by decide) (fun X => ⟨zg_RX6 X, zp_RX6 X, zl1_RX6 X, zl2_RX6 X, nilz, nilz⟩)
set_option maxRecDepth 100000 in
theorem zk_926 : zmeth zKS zuq zNS zm_926 4000 = true := zqF (zdt0 _) (by decide +kernel)
theorem zM_926 {l : Launch} {D : va_G} {cI cZ cB cJ cR : ClassId} {ks ad : List Nat} {Psi : va_W → Prop} (hw : zworld ks ad zuq zNS Psi) (hm : zMan l D cI cZ cB cJ cR ks ad Psi) : zMet l D cI cZ cB cJ cR zKS ks ad Psi yX6_isByte (.code yX6_isByte cX6_isByte 4 (some .boolean)) 0 zc_926 :=
  zmet_of hw 0 (by decide) 4000 zk_926 (by decide) (by decide) (fun X => ⟨zg_RX6 X, zp_RX6 X, zl1_RX6 X, zl2_RX6 X, nilz, nilz⟩)
set_option maxRecDepth 100000 in
theorem zk_927 : zmeth zKS zuq zNS zm_927 4000 = true := zqF (zdt0 _) (by decide +kernel)
theorem zM_927 {l : Launch} {D : va_G} {cI cZ cB cJ cR : ClassId} {ks ad : List Nat} {Psi : va_W → Prop} (hw : zworld ks ad zuq zNS Psi) (hm : zMan l D cI cZ cB cJ cR ks ad Psi) : zMet l D cI cZ cB cJ cR zKS ks ad Psi yX6_isCity (.code yX6_isCity cX6_isCity 1 (some .boolean)) 0 zc_927 :=
  zmet_of hw 0 (by decide) 4000 zk_927 (by decide) (by decide) (fun X => ⟨zg_RX6 X, zp_RX6 X, zl1_RX6 X, zl2_RX6 X, nilz, nilz⟩)
set_option maxRecDepth 100000 in
theorem zk_928 : zmeth zKS zuq zNS zm_928 4000 = true := zqF (zdt0 _) (by decide +kernel)
theorem zM_928 {l : Launch} {D : va_G} {cI cZ cB cJ cR : ClassId} {ks ad : List Nat} {Psi : va_W → Prop} (hw : zworld ks ad zuq zNS Psi) (hm : zMan l D cI cZ cB cJ cR ks ad Psi) : zMet l D cI cZ cB cJ cR zKS ks ad Psi yX6_isFull (.code yX6_isFull cX6_isFull 1 (some .boolean)) 0 zc_928 :=
  zmet_of hw 0 (by decide) 4000 zk_928 (by decide) (by decide) (fun X => ⟨zg_RX6 X, zp_RX6 X, zl1_RX6 X, zl2_RX6 X, nilz, nilz⟩)
set_option maxRecDepth 100000 in
theorem zk_930 : zmeth zKS zuq zNS zm_930 4000 = true := zqF (zdt0 _) (by decide +kernel)
theorem zM_930 {l : Launch} {D : va_G} {cI cZ cB cJ cR : ClassId} {ks ad : List Nat} {Psi : va_W → Prop} (hw : zworld ks ad zuq zNS Psi) (hm : zMan l D cI cZ cB cJ cR ks ad Psi) : zMet l D cI cZ cB cJ cR zKS ks ad Psi yX6_isGood (.code yX6_isGood cX6_isGood 1 (some .boolean)) 0 zc_930 :=
  zmet_of hw 0 (by decide) 4000 zk_930 (by decide) (by decide) (fun X => ⟨zg_RX6 X, zp_RX6 X, zl1_RX6 X, zl2_RX6 X, nilz, nilz⟩)
set_option maxRecDepth 100000 in
theorem zk_933 : zmeth zKS zuq zNS zm_933 4000 = true := zqF (zdt0 _) (by decide +kernel)
theorem zM_933 {l : Launch} {D : va_G} {cI cZ cB cJ cR : ClassId} {ks ad : List Nat} {Psi : va_W → Prop} (hw : zworld ks ad zuq zNS Psi) (hm : zMan l D cI cZ cB cJ cR ks ad Psi) : zMet l D cI cZ cB cJ cR zKS ks ad Psi yX6_isOver (.code yX6_isOver cX6_isOver 1 none) 0 zc_933 :=
  zmet_of hw 0 (by decide) 4000 zk_933 (by decide) (by decide) (fun X => ⟨zg_RX6 X, zp_RX6 X, zl1_RX6 X, zl2_RX6 X, nilz, nilz⟩)
set_option maxRecDepth 100000 in
theorem zk_1039 : zmeth zKS zuq zNS zm_1039 4000 = true := zqF (zdt0 _) (by decide +kernel)
theorem zM_1039 {l : Launch} {D : va_G} {cI cZ cB cJ cR : ClassId} {ks ad : List Nat} {Psi : va_W → Prop} (hw : zworld ks ad zuq zNS Psi) (hm : zMan l D cI cZ cB cJ cR ks ad Psi) : zMet l D cI cZ cB cJ cR zKS ks ad Psi yX6_mayBe (.code yX6_mayBe cX6_mayBe 4 (some .boolean)) 0 zc_1039 :=
  zmet_of hw 0 (by decide) 4000 zk_1039 (by decide) (by decide) (fun X => ⟨zg_RX6 X, zp_RX6 X, zl1_RX6 X, zl2_RX6 X, nilz, nilz⟩)
set_option maxRecDepth 100000 in
theorem zk_1065 : zmeth zKS zuq zNS zm_1065 4000 = true := zqF (zdt0 _) (by decide +kernel)
theorem zM_1065 {l : Launch} {D : va_G} {cI cZ cB cJ cR : ClassId} {ks ad : List Nat} {Psi : va_W → Prop} (hw : zworld ks ad zuq zNS Psi) (hm : zMan l D cI cZ cB cJ cR ks ad Psi) : zMet l D cI cZ cB cJ cR zKS ks ad Psi yX6_people (.code yX6_people cX6_people 1 (some .int)) 0 zc_1065 :=
  zmet_of hw 0 (by decide) 4000 zk_1065 (by decide) (by decide) (fun X => ⟨zg_RX6 X, zp_RX6 X, zl1_RX6 X, zl2_RX6 X, nilz, nilz⟩)
