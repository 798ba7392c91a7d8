set_option maxRecDepth 100000 in
theorem zk_829 : zmeth zKS zuq zNS zm_829 4000 = true := by decide +kernel
theorem zM_829 {l : Launch} {D : va_G} {cI cZ cB cJ cR : ClassId} {ks ad : List Nat} {Psi : va_W → Prop} (hw : zworld ks ad zuq zNS Psi) (hm : zMan l D cI cZ cB cJ cR ks ad Psi) : zMet l D cI cZ cB cJ cR zKS ks ad Psi yX6_hasRead (.code yX6_hasRead cX6_hasRead 2 (some .int)) 0 zc_829 :=
  zmet_of hw 0 (by decide) 4000 zk_829 (by decide) (by decide) (fun X => ⟨zg_RX6 X, zp_RX6 X, zl1_RX6 X, zl2_RX6 X, nilz, nilz⟩)
set_option maxRecDepth 100000 in
theorem zk_830 : zmeth zKS zuq zNS zm_830 4000 = true := by decide +kernel
theorem zM_830 {l : Launch} {D : va_G} {cI cZ cB cJ cR : ClassId} {ks ad : List Nat} {Psi : va_W → Prop} (hw : zworld ks ad zuq zNS Psi) (hm : zMan l D cI cZ cB cJ cR ks ad Psi) : zMet l D cI cZ cB cJ cR zKS ks ad Psi yX6_hasRead (.code yX6_hasRead cX6_hasRead 2 (some .int)) 0 zc_830 :=
  zmet_of hw 0 (by decide) 4000 zk_830 (by decide) (by decide) (fun X => ⟨zg_RX6 X, zp_RX6 X, zl1_RX6 X, zl2_RX6 X, nilz, nilz⟩)
set_option maxRecDepth 100000 in
theorem zk_831 : zmeth zKS zuq zNS zm_831 4000 = true := by decide +kernel
theorem zM_831 {l : Launch} {D : va_G} {cI cZ cB cJ cR : ClassId} {ks ad : List Nat} {Psi : va_W → Prop} (hw : zworld ks ad zuq zNS Psi) (hm : zMan l D cI cZ cB cJ cR ks ad Psi) : zMet l D cI cZ cB cJ cR zKS ks ad Psi yX6_hasRead (.code yX6_hasRead cX6_hasRead 2 (some .int)) 0 zc_831 :=
  zmet_of hw 0 (by decide) 4000 zk_831 (by decide) (by decide) (fun X => ⟨zg_RX6 X, zp_RX6 X, zl1_RX6 X, zl2_RX6 X, nilz, nilz⟩)
set_option maxRecDepth 100000 in
theorem zk_833 : zmeth zKS zuq zNS zm_833 4000 = true := by decide +kernel
theorem zM_833 {l : Launch} {D : va_G} {cI cZ cB cJ cR : ClassId} {ks ad : List Nat} {Psi : va_W → Prop} (hw : zworld ks ad zuq zNS Psi) (hm : zMan l D cI cZ cB cJ cR ks ad Psi) : zMet l D cI cZ cB cJ cR zKS ks ad Psi yX6_hours (.code yX6_hours cX6_hours 1 (some .int)) 0 zc_833 :=
  zmet_of hw 0 (by decide) 4000 zk_833 (by decide) (by decide) (fun X => ⟨zg_RX6 X, zp_RX6 X, zl1_RX6 X, zl2_RX6 X, nilz, nilz⟩)
set_option maxRecDepth 100000 in
theorem zk_835 : zmeth zKS zuq zNS zm_835 4000 = true := by decide +kernel
theorem zM_835 {l : Launch} {D : va_G} {cI cZ cB cJ cR : ClassId} {ks ad : List Nat} {Psi : va_W → Prop} (hw : zworld ks ad zuq zNS Psi) (hm : zMan l D cI cZ cB cJ cR ks ad Psi) : zMet l D cI cZ cB cJ cR zKS ks ad Psi yX6_in (.code yX6_in cX6_in 6 (some .boolean)) 0 zc_835 :=
  zmet_of hw 0 (by decide) 4000 zk_835 (by decide) (by decide) (fun X => ⟨zg_RX6 X, zp_RX6 X, zl1_RX6 X, zl2_RX6 X, nilz, nilz⟩)
set_option maxRecDepth 100000 in
theorem zk_836 : zmeth zKS zuq zNS zm_836 4000 = true := by decide +kernel
theorem zM_836 {l : Launch} {D : va_G} {cI cZ cB cJ cR : ClassId} {ks ad : List Nat} {Psi : va_W → Prop} (hw : zworld ks ad zuq zNS Psi) (hm : zMan l D cI cZ cB cJ cR ks ad Psi) : zMet l D cI cZ cB cJ cR zKS ks ad Psi yX6_in (.code yX6_in cX6_in 6 (some .boolean)) 0 zc_836 :=
  zmet_of hw 0 (by decide) 4000 zk_836 (by decide) (by decide) (fun X => ⟨zg_RX6 X, zp_RX6 X, zl1_RX6 X, zl2_RX6 X, nilz, nilz⟩)
set_option maxRecDepth 100000 in
theorem zk_837 : zmeth zKS zuq zNS zm_837 4000 = true := by decide +kernel
theorem zM_837 {l : Launch} {D : va_G} {cI cZ cB cJ cR : ClassId} {ks ad : List Nat} {Psi : va_W → Prop} (hw : zworld ks ad zuq zNS Psi) (hm : zMan l D cI cZ cB cJ cR ks ad Psi) : zMet l D cI cZ cB cJ cR zKS ks ad Psi yX6_in (.code yX6_in cX6_in 6 (some .boolean)) 0 zc_837 :=
  zmet_of hw 0 (by decide) 4000 zk_837 (by decide) (by decide) (fun X => ⟨zg_RX6 X, zp_RX6 X, zl1_RX6 X, zl2_RX6 X, nilz, nilz⟩)
set_option maxRecDepth 100000 in
theorem zk_838 : zmeth zKS zuq zNS zm_838 4000 = true := by decide +kernel
theorem zM_838 {l : Launch} {D : va_G} {cI cZ cB cJ cR : ClassId} {ks ad : List Nat} {Psi : va_W → Prop} (hw : zworld ks ad zuq zNS Psi) (hm : zMan l D cI cZ cB cJ cR ks ad Psi) : zMet l D cI cZ cB cJ cR zKS ks ad Psi yX6_in (.code yX6_in cX6_in 6 (some .boolean)) 0 zc_838 :=
  zmet_of hw 0 (by decide) 4000 zk_838 (by decide) (by decide) (fun X => ⟨zg_RX6 X, zp_RX6 X, zl1_RX6 X, zl2_RX6 X, nilz, nilz⟩)
set_option maxRecDepth 100000 in
theorem zk_839 : zmeth zKS zuq zNS zm_839 4000 = true := by decide +kernel
theorem zM_839 {l : Launch} {D : va_G} {cI cZ cB cJ cR : ClassId} {ks ad : List Nat} {Psi : va_W → Prop} (hw : zworld ks ad zuq zNS Psi) (hm : zMan l D cI cZ cB cJ cR ks ad Psi) : zMet l D cI cZ cB cJ cR zKS ks ad Psi yX6_in (.code yX6_in cX6_in 6 (some .boolean)) 0 zc_839 :=
  zmet_of hw 0 (by decide) 4000 zk_839 (by decide) (by decide) (fun X => ⟨zg_RX6 X, zp_RX6 X, zl1_RX6 X, zl2_RX6 X, nilz, nilz⟩)
set_option maxRecDepth 100000 in
theorem zk_840 : zmeth zKS zuq zNS zm_840 4000 = true := by decide +kernel
theorem zM_840 {l : Launch} {D : va_G} {cI cZ cB cJ cR : ClassId} {ks ad : List Nat} {Psi : va_W → Prop} (hw : zworld ks ad zuq zNS Psi) (hm : zMan l D cI cZ cB cJ cR ks ad Psi) : zMet l D cI cZ cB cJ cR zKS ks ad Psi yX6_in (.code yX6_in cX6_in 6 (some .boolean)) 0 zc_840 :=
  zmet_of hw 0 (by decide) 4000 zk_840 (by decide) (by decide) (fun X => ⟨zg_RX6 X, zp_RX6 X, zl1_RX6 X, zl2_RX6 X, nilz, nilz⟩)
set_option maxRecDepth 100000 in
theorem zk_841 : zmeth zKS zuq zNS zm_841 4000 = true := by decide +kernel
theorem zM_841 {l : Launch} {D : va_G} {cI cZ cB cJ cR : ClassId} {ks ad : List Nat} {Psi : va_W → Prop} (hw : zworld ks ad zuq zNS Psi) (hm : zMan l D cI cZ cB cJ cR ks ad Psi) : zMet l D cI cZ cB cJ cR zKS ks ad Psi yX6_in (.code yX6_in cX6_in 6 (some .boolean)) 0 zc_841 :=
  zmet_of hw 0 (by decide) 4000 zk_841 (by decide) (by decide) (fun X => ⟨zg_RX6 X, zp_RX6 X, zl1_RX6 X, zl2_RX6 X, nilz, nilz⟩)
set_option maxRecDepth 100000 in
theorem zk_842 : zmeth zKS zuq zNS zm_842 4000 = true := by decide +kernel
theorem zM_842 {l : Launch} {D : va_G} {cI cZ cB cJ cR : ClassId} {ks ad : List Nat} {Psi : va_W → Prop} (hw : zworld ks ad zuq zNS Psi) (hm : zMan l D cI cZ cB cJ cR ks ad Psi) : zMet l D cI cZ cB cJ cR zKS ks ad Psi yX6_in (.code yX6_in cX6_in 6 (some .boolean)) 0 zc_842 :=
  zmet_of hw 0 (by decide) 4000 zk_842 (by decide) (by decide) (fun X => ⟨zg_RX6 X, zp_RX6 X, zl1_RX6 X, zl2_RX6 X, nilz, nilz⟩)
set_option maxRecDepth 100000 in
theorem zk_843 : zmeth zKS zuq zNS zm_843 4000 = true := by decide +kernel
theorem zM_843 {l : Launch} {D : va_G} {cI cZ cB cJ cR : ClassId} {ks ad : List Nat} {Psi : va_W → Prop} (hw : zworld ks ad zuq zNS Psi) (hm : zMan l D cI cZ cB cJ cR ks ad Psi) : zMet l D cI cZ cB cJ cR zKS ks ad Psi yX6_in (.code yX6_in cX6_in 6 (some .boolean)) 0 zc_843 :=
  zmet_of hw 0 (by decide) 4000 zk_843 (by decide) (by decide) (fun X => ⟨zg_RX6 X, zp_RX6 X, zl1_RX6 X, zl2_RX6 X, nilz, nilz⟩)
set_option maxRecDepth 100000 in
theorem zk_844 : zmeth zKS zuq zNS zm_844 4000 = true := by decide +kernel
theorem zM_844 {l : Launch} {D : va_G} {cI cZ cB cJ cR : ClassId} {ks ad : List Nat} {Psi : va_W → Prop} (hw : zworld ks ad zuq zNS Psi) (hm : zMan l D cI cZ cB cJ cR ks ad Psi) : zMet l D cI cZ cB cJ cR zKS ks ad Psi yX6_in (.code yX6_in cX6_in 6 (some .boolean)) 0 zc_844 :=
  zmet_of hw 0 (by decide) 4000 zk_844 (by decide) (by decide) (fun X => ⟨zg_RX6 X, zp_RX6 X, zl1_RX6 X, zl2_RX6 X, nilz, nilz⟩)
set_option maxRecDepth 100000 in
theorem zk_845 : zmeth zKS zuq zNS zm_845 4000 = true := by decide +kernel
theorem zM_845 {l : Launch} {D : va_G} {cI cZ cB cJ cR : ClassId} {ks ad : List Nat} {Psi : va_W → Prop} (hw : zworld ks ad zuq zNS Psi) (hm : zMan l D cI cZ cB cJ cR ks ad Psi) : zMet l D cI cZ cB cJ cR zKS ks ad Psi yX6_in (.code yX6_in cX6_in 6 (some .boolean)) 0 zc_845 :=
  zmet_of hw 0 (by decide) 4000 zk_845 (by decide) (by decide) (fun X => ⟨zg_RX6 X, zp_RX6 X, zl1_RX6 X, zl2_RX6 X, nilz, nilz⟩)
set_option maxRecDepth 100000 in
theorem zk_846 : zmeth zKS zuq zNS zm_846 4000 = true := by decide +kernel
theorem zM_846 {l : Launch} {D : va_G} {cI cZ cB cJ cR : ClassId} {ks ad : List Nat} {Psi : va_W → Prop} (hw : zworld ks ad zuq zNS Psi) (hm : zMan l D cI cZ cB cJ cR ks ad Psi) : zMet l D cI cZ cB cJ cR zKS ks ad Psi yX6_in (.code yX6_in cX6_in 6 (some .boolean)) 0 zc_846 :=
  zmet_of hw 0 (by decide) 4000 zk_846 (by decide) (by decide) (fun X => ⟨zg_RX6 X, zp_RX6 X, zl1_RX6 X, zl2_RX6 X, nilz, nilz⟩)
set_option maxRecDepth 100000 in
theorem zk_847 : zmeth zKS zuq zNS zm_847 4000 = true := by decide +kernel
theorem zM_847 {l : Launch} {D : va_G} {cI cZ cB cJ cR : ClassId} {ks ad : List Nat} {Psi : va_W → Prop} (hw : zworld ks ad zuq zNS Psi) (hm : zMan l D cI cZ cB cJ cR ks ad Psi) : zMet l D cI cZ cB cJ cR zKS ks ad Psi yX6_in (.code yX6_in cX6_in 6 (some .boolean)) 0 zc_847 :=
  zmet_of hw 0 (by decide) 4000 zk_847 (by decide) (by decide) (fun X => ⟨zg_RX6 X, zp_RX6 X, zl1_RX6 X, zl2_RX6 X, nilz, nilz⟩)
set_option maxRecDepth 100000 in
theorem zk_848 : zmeth zKS zuq zNS zm_848 4000 = true := by decide +kernel
theorem zM_848 {l : Launch} {D : va_G} {cI cZ cB cJ cR : ClassId} {ks ad : List Nat} {Psi : va_W → Prop} (hw : zworld ks ad zuq zNS Psi) (hm : zMan l D cI cZ cB cJ cR ks ad Psi) : zMet l D cI cZ cB cJ cR zKS ks ad Psi yX6_in (.code yX6_in cX6_in 6 (some .boolean)) 0 zc_848 :=
  zmet_of hw 0 (by decide) 4000 zk_848 (by decide) (by decide) (fun X => ⟨zg_RX6 X, zp_RX6 X, zl1_RX6 X, zl2_RX6 X, nilz, nilz⟩)
set_option maxRecDepth 100000 in
theorem zk_849 : zmeth zKS zuq zNS zm_849 4000 = true := by decide +kernel
theorem zM_849 {l : Launch} {D : va_G} {cI cZ cB cJ cR : ClassId} {ks ad : List Nat} {Psi : va_W → Prop} (hw : zworld ks ad zuq zNS Psi) (hm : zMan l D cI cZ cB cJ cR ks ad Psi) : zMet l D cI cZ cB cJ cR zKS ks ad Psi yX6_in (.code yX6_in cX6_in 6 (some .boolean)) 0 zc_849 :=
  zmet_of hw 0 (by decide) 4000 zk_849 (by decide) (by decide) (fun X => ⟨zg_RX6 X, zp_RX6 X, zl1_RX6 X, zl2_RX6 X, nilz, nilz⟩)
set_option maxRecDepth 100000 in
theorem zk_850 : zmeth zKS zuq zNS zm_850 4000 = true := by decide +kernel
theorem zM_850 {l : Launch} {D : va_G} {cI cZ cB cJ cR : ClassId} {ks ad : List Nat} {Psi : va_W → Prop} (hw : zworld ks ad zuq zNS Psi) (hm : zMan l D cI cZ cB cJ cR ks ad Psi) : zMet l D cI cZ cB cJ cR zKS ks ad Psi yX6_in (.code yX6_in cX6_in 6 (some .boolean)) 0 zc_850 :=
  zmet_of hw 0 (by decide) 4000 zk_850 (by decide) (by decide) (fun X => ⟨zg_RX6 X, zp_RX6 X, zl1_RX6 X, zl2_RX6 X, nilz, nilz⟩)
set_option maxRecDepth 100000 in
theorem zk_851 : zmeth zKS zuq zNS zm_851 4000 = true := by decide +kernel
theorem zM_851 {l : Launch} {D : va_G} {cI cZ cB cJ cR : ClassId} {ks ad : List Nat} {Psi : va_W → Prop} (hw : zworld ks ad zuq zNS Psi) (hm : zMan l D cI cZ cB cJ cR ks ad Psi) : zMet l D cI cZ cB cJ cR zKS ks ad Psi yX6_in (.code yX6_in cX6_in 6 (some .boolean)) 0 zc_851 :=
  zmet_of hw 0 (by decide) 4000 zk_851 (by decide) (by decide) (fun X => ⟨zg_RX6 X, zp_RX6 X, zl1_RX6 X, zl2_RX6 X, nilz, nilz⟩)
set_option maxRecDepth 100000 in
theorem zk_852 : zmeth zKS zuq zNS zm_852 4000 = true := by decide +kernel
theorem zM_852 {l : Launch} {D : va_G} {cI cZ cB cJ cR : ClassId} {ks ad : List Nat} {Psi : va_W → Prop} (hw : zworld ks ad zuq zNS Psi) (hm : zMan l D cI cZ cB cJ cR ks ad Psi) : zMet l D cI cZ cB cJ cR zKS ks ad Psi yX6_in (.code yX6_in cX6_in 6 (some .boolean)) 0 zc_852 :=
  zmet_of hw 0 (by decide) 4000 zk_852 (by decide) (by decide) (fun X => ⟨zg_RX6 X, zp_RX6 X, zl1_RX6 X, zl2_RX6 X, nilz, nilz⟩)
set_option maxRecDepth 100000 in
theorem zk_853 : zmeth zKS zuq zNS zm_853 4000 = true := by decide +kernel
theorem zM_853 {l : Launch} {D : va_G} {cI cZ cB cJ cR : ClassId} {ks ad : List Nat} {Psi : va_W → Prop} (hw : zworld ks ad zuq zNS Psi) (hm : zMan l D cI cZ cB cJ cR ks ad Psi) : zMet l D cI cZ cB cJ cR zKS ks ad Psi yX6_in (.code yX6_in cX6_in 6 (some .boolean)) 0 zc_853 :=
  zmet_of hw 0 (by decide) 4000 zk_853 (by decide) (by decide) (fun X => ⟨zg_RX6 X, zp_RX6 X, zl1_RX6 X, zl2_RX6 X, nilz, nilz⟩)
set_option maxRecDepth 100000 in
theorem zk_854 : zmeth zKS zuq zNS zm_854 4000 = true := by decide +kernel
theorem zM_854 {l : Launch} {D : va_G} {cI cZ cB cJ cR : ClassId} {ks ad : List Nat} {Psi : va_W → Prop} (hw : zworld ks ad zuq zNS Psi) (hm : zMan l D cI cZ cB cJ cR ks ad Psi) : zMet l D cI cZ cB cJ cR zKS ks ad Psi yX6_in (.code yX6_in cX6_in 6 (some .boolean)) 0 zc_854 :=
  zmet_of hw 0 (by decide) 4000 zk_854 (by decide) (by decide) (fun X => ⟨zg_RX6 X, zp_RX6 X, zl1_RX6 X, zl2_RX6 X, nilz, nilz⟩)
set_option maxRecDepth 100000 in
theorem zk_855 : zmeth zKS zuq zNS zm_855 4000 = true := by decide +kernel
theorem zM_855 {l : Launch} {D : va_G} {cI cZ cB cJ cR : ClassId} {ks ad : List Nat} {Psi : va_W → Prop} (hw : zworld ks ad zuq zNS Psi) (hm : zMan l D cI cZ cB cJ cR ks ad Psi) : zMet l D cI cZ cB cJ cR zKS ks ad Psi yX6_is (.code yX6_is cX6_is 3 (some .boolean)) 0 zc_855 :=
  zmet_of hw 0 (by decide) 4000 zk_855 (by decide) (by decide) (fun X => ⟨zg_RX6 X, zp_RX6 X, zl1_RX6 X, zl2_RX6 X, nilz, nilz⟩)
set_option maxRecDepth 100000 in
theorem zk_856 : zmeth zKS zuq zNS zm_856 4000 = true := by decide +kernel
theorem zM_856 {l : Launch} {D : va_G} {cI cZ cB cJ cR : ClassId} {ks ad : List Nat} {Psi : va_W → Prop} (hw : zworld ks ad zuq zNS Psi) (hm : zMan l D cI cZ cB cJ cR ks ad Psi) : zMet l D cI cZ cB cJ cR zKS ks ad Psi yX6_isBit (.code yX6_isBit cX6_isBit 2 (some .boolean)) 0 zc_856 :=
  zmet_of hw 0 (by decide) 4000 zk_856 (by decide) (by decide) (fun X => ⟨zg_RX6 X, zp_RX6 X, zl1_RX6 X, zl2_RX6 X, nilz, nilz⟩)
set_option maxRecDepth 100000 in
theorem zk_857 : zmeth zKS zuq zNS zm_857 4000 = true := by decide +kernel
theorem zM_857 {l : Launch} {D : va_G} {cI cZ cB cJ cR : ClassId} {ks ad : List Nat} {Psi : va_W → Prop} (hw : zworld ks ad zuq zNS Psi) (hm : zMan l D cI cZ cB cJ cR ks ad Psi) : zMet l D cI cZ cB cJ cR zKS ks ad Psi yX6_isByte (.code yX6_isByte cX6_isByte 4 (some .boolean)) 0 zc_857 :=
  zmet_of hw 0 (by decide) 4000 zk_857 (by decide) (by decide) (fun X => ⟨zg_RX6 X, zp_RX6 X, zl1_RX6 X, zl2_RX6 X, nilz, nilz⟩)
set_option maxRecDepth 100000 in
theorem zk_858 : zmeth zKS zuq zNS zm_858 4000 = true := by decide +kernel
theorem zM_858 {l : Launch} {D : va_G} {cI cZ cB cJ cR : ClassId} {ks ad : List Nat} {Psi : va_W → Prop} (hw : zworld ks ad zuq zNS Psi) (hm : zMan l D cI cZ cB cJ cR ks ad Psi) : zMet l D cI cZ cB cJ cR zKS ks ad Psi yX6_isCity (.code yX6_isCity cX6_isCity 1 (some .boolean)) 0 zc_858 :=
  zmet_of hw 0 (by decide) 4000 zk_858 (by decide) (by decide) (fun X => ⟨zg_RX6 X, zp_RX6 X, zl1_RX6 X, zl2_RX6 X, nilz, nilz⟩)
set_option maxRecDepth 100000 in
theorem zk_859 : zmeth zKS zuq zNS zm_859 4000 = true := by decide +kernel
theorem zM_859 {l : Launch} {D : va_G} {cI cZ cB cJ cR : ClassId} {ks ad : List Nat} {Psi : va_W → Prop} (hw : zworld ks ad zuq zNS Psi) (hm : zMan l D cI cZ cB cJ cR ks ad Psi) : zMet l D cI cZ cB cJ cR zKS ks ad Psi yX6_isFull (.code yX6_isFull cX6_isFull 1 (some .boolean)) 0 zc_859 :=
  zmet_of hw 0 (by decide) 4000 zk_859 (by decide) (by decide) (fun X => ⟨zg_RX6 X, zp_RX6 X, zl1_RX6 X, zl2_RX6 X, nilz, nilz⟩)
set_option maxRecDepth 100000 in
theorem zk_861 : zmeth zKS zuq zNS zm_861 4000 = true := by decide +kernel
theorem zM_861 {l : Launch} {D : va_G} {cI cZ cB cJ cR : ClassId} {ks ad : List Nat} {Psi : va_W → Prop} (hw : zworld ks ad zuq zNS Psi) (hm : zMan l D cI cZ cB cJ cR ks ad Psi) : zMet l D cI cZ cB cJ cR zKS ks ad Psi yX6_isGood (.code yX6_isGood cX6_isGood 1 (some .boolean)) 0 zc_861 :=
  zmet_of hw 0 (by decide) 4000 zk_861 (by decide) (by decide) (fun X => ⟨zg_RX6 X, zp_RX6 X, zl1_RX6 X, zl2_RX6 X, nilz, nilz⟩)
set_option maxRecDepth 100000 in
theorem zk_864 : zmeth zKS zuq zNS zm_864 4000 = true := by decide +kernel
theorem zM_864 {l : Launch} {D : va_G} {cI cZ cB cJ cR : ClassId} {ks ad : List Nat} {Psi : va_W → Prop} (hw : zworld ks ad zuq zNS Psi) (hm : zMan l D cI cZ cB cJ cR ks ad Psi) : zMet l D cI cZ cB cJ cR zKS ks ad Psi yX6_isOver (.code yX6_isOver cX6_isOver 1 none) 0 zc_864 :=
  zmet_of hw 0 (by decide) 4000 zk_864 (by decide) (by decide) (fun X => ⟨zg_RX6 X, zp_RX6 X, zl1_RX6 X, zl2_RX6 X, nilz, nilz⟩)
set_option maxRecDepth 100000 in
theorem zk_970 : zmeth zKS zuq zNS zm_970 4000 = true := by decide +kernel
theorem zM_970 {l : Launch} {D : va_G} {cI cZ cB cJ cR : ClassId} {ks ad : List Nat} {Psi : va_W → Prop} (hw : zworld ks ad zuq zNS Psi) (hm : zMan l D cI cZ cB cJ cR ks ad Psi) : zMet l D cI cZ cB cJ cR zKS ks ad Psi yX6_mayBe (.code yX6_mayBe cX6_mayBe 4 (some .boolean)) 0 zc_970 :=
  zmet_of hw 0 (by decide) 4000 zk_970 (by decide) (by decide) (fun X => ⟨zg_RX6 X, zp_RX6 X, zl1_RX6 X, zl2_RX6 X, nilz, nilz⟩)
set_option maxRecDepth 100000 in
theorem zk_996 : zmeth zKS zuq zNS zm_996 4000 = true := by decide +kernel
theorem zM_996 {l : Launch} {D : va_G} {cI cZ cB cJ cR : ClassId} {ks ad : List Nat} {Psi : va_W → Prop} (hw : zworld ks ad zuq zNS Psi) (hm : zMan l D cI cZ cB cJ cR ks ad Psi) : zMet l D cI cZ cB cJ cR zKS ks ad Psi yX6_people (.code yX6_people cX6_people 1 (some .int)) 0 zc_996 :=
  zmet_of hw 0 (by decide) 4000 zk_996 (by decide) (by decide) (fun X => ⟨zg_RX6 X, zp_RX6 X, zl1_RX6 X, zl2_RX6 X, nilz, nilz⟩)
set_option maxRecDepth 100000 in
theorem zk_1063 : zmeth zKS zuq zNS zm_1063 4000 = true := by decide +kernel
theorem zM_1063 {l : Launch} {D : va_G} {cI cZ cB cJ cR : ClassId} {ks ad : List Nat} {Psi : va_W → Prop} (hw : zworld ks ad zuq zNS Psi) (hm : zMan l D cI cZ cB cJ cR ks ad Psi) : zMet l D cI cZ cB cJ cR zKS ks ad Psi yX6_tells (.code yX6_tells cX6_tells 3 none) 0 zc_1063 :=
  zmet_of hw 0 (by decide) 4000 zk_1063 (by decide) (by decide) (fun X => ⟨zg_RX6 X, zp_RX6 X, zl1_RX6 X, zl2_RX6 X, nilz, nilz⟩)
set_option maxRecDepth 100000 in
theorem zk_1064 : zmeth zKS zuq zNS zm_1064 4000 = true := by decide +kernel
theorem zM_1064 {l : Launch} {D : va_G} {cI cZ cB cJ cR : ClassId} {ks ad : List Nat} {Psi : va_W → Prop} (hw : zworld ks ad zuq zNS Psi) (hm : zMan l D cI cZ cB cJ cR ks ad Psi) : zMet l D cI cZ cB cJ cR zKS ks ad Psi yX6_tells (.code yX6_tells cX6_tells 3 none) 0 zc_1064 :=
  zmet_of hw 0 (by decide) 4000 zk_1064 (by decide) (by decide) (fun X => ⟨zg_RX6 X, zp_RX6 X, zl1_RX6 X, zl2_RX6 X, nilz, nilz⟩)
set_option maxRecDepth 100000 in
theorem zk_1065 : zmeth zKS zuq zNS zm_1065 4000 = true := by decide +kernel
theorem zM_1065 {l : Launch} {D : va_G} {cI cZ cB cJ cR : ClassId} {ks ad : List Nat} {Psi : va_W → Prop} (hw : zworld ks ad zuq zNS Psi) (hm : zMan l D cI cZ cB cJ cR ks ad Psi) : zMet l D cI cZ cB cJ cR zKS ks ad Psi yX6_tells (.code yX6_tells cX6_tells 3 none) 0 zc_1065 :=
  zmet_of hw 0 (by decide) 4000 zk_1065 (by decide) (by decide) (fun X => ⟨zg_RX6 X, zp_RX6 X, zl1_RX6 X, zl2_RX6 X, nilz, nilz⟩)
set_option maxRecDepth 100000 in
theorem zk_1066 : zmeth zKS zuq zNS zm_1066 4000 = true := by decide +kernel
theorem zM_1066 {l : Launch} {D : va_G} {cI cZ cB cJ cR : ClassId} {ks ad : List Nat} {Psi : va_W → Prop} (hw : zworld ks ad zuq zNS Psi) (hm : zMan l D cI cZ cB cJ cR ks ad Psi) : zMet l D cI cZ cB cJ cR zKS ks ad Psi yX6_tells (.code yX6_tells cX6_tells 3 none) 0 zc_1066 :=
  zmet_of hw 0 (by decide) 4000 zk_1066 (by decide) (by decide) (fun X => ⟨zg_RX6 X, zp_RX6 X, zl1_RX6 X, zl2_RX6 X, nilz, nilz⟩)
set_option maxRecDepth 100000 in
theorem zk_1067 : zmeth zKS zuq zNS zm_1067 4000 = true := by decide +kernel
theorem zM_1067 {l : Launch} {D : va_G} {cI cZ cB cJ cR : ClassId} {ks ad : List Nat} {Psi : va_W → Prop} (hw : zworld ks ad zuq zNS Psi) (hm : zMan l D cI cZ cB cJ cR ks ad Psi) : zMet l D cI cZ cB cJ cR zKS ks ad Psi yX6_tells (.code yX6_tells cX6_tells 3 none) 0 zc_1067 :=
  zmet_of hw 0 (by decide) 4000 zk_1067 (by decide) (by decide) (fun X => ⟨zg_RX6 X, zp_RX6 X, zl1_RX6 X, zl2_RX6 X, nilz, nilz⟩)
set_option maxRecDepth 100000 in
theorem zk_1068 : zmeth zKS zuq zNS zm_1068 4000 = true := by decide +kernel
theorem zM_1068 {l : Launch} {D : va_G} {cI cZ cB cJ cR : ClassId} {ks ad : List Nat} {Psi : va_W → Prop} (hw : zworld ks ad zuq zNS Psi) (hm : zMan l D cI cZ cB cJ cR ks ad Psi) : zMet l D cI cZ cB cJ cR zKS ks ad Psi yX6_tells (.code yX6_tells cX6_tells 3 none) 0 zc_1068 :=
  zmet_of hw 0 (by decide) 4000 zk_1068 (by decide) (by decide) (fun X => ⟨zg_RX6 X, zp_RX6 X, zl1_RX6 X, zl2_RX6 X, nilz, nilz⟩)
set_option maxRecDepth 100000 in
theorem zk_1069 : zmeth zKS zuq zNS zm_1069 4000 = true := by decide +kernel
theorem zM_1069 {l : Launch} {D : va_G} {cI cZ cB cJ cR : ClassId} {ks ad : List Nat} {Psi : va_W → Prop} (hw : zworld ks ad zuq zNS Psi) (hm : zMan l D cI cZ cB cJ cR ks ad Psi) : zMet l D cI cZ cB cJ cR zKS ks ad Psi yX6_tells (.code yX6_tells cX6_tells 3 none) 0 zc_1069 :=
  zmet_of hw 0 (by decide) 4000 zk_1069 (by decide) (by decide) (fun X => ⟨zg_RX6 X, zp_RX6 X, zl1_RX6 X, zl2_RX6 X, nilz, nilz⟩)
