def zMan (l : Launch) (D : va_G) (cI cZ cB cJ cR : ClassId) (ks ad : List Nat) (Psi : va_W → Prop) : Prop :=
  zMet l D cI cZ cB cJ cR zKS ks ad Psi yX0_copyFrom (.code yX0_copyFrom cX0_copyFrom 2 none) 2 zc_284 ∧
  zMet l D cI cZ cB cJ cR zKS ks ad Psi yX0_keepAct (.code yX0_keepAct cX0_keepAct 4 none) 2 zc_305 ∧
  zMet l D cI cZ cB cJ cR zKS ks ad Psi yX0_keepAct (.code yX0_keepAct cX0_keepAct 4 none) 2 zc_306 ∧
  zMet l D cI cZ cB cJ cR zKS ks ad Psi yX0_settle (.code yX0_settle cX0_settle 4 none) 2 zc_321 ∧
  zMet l D cI cZ cB cJ cR zKS ks ad Psi yX0_takeBack (.code yX0_takeBack cX0_takeBack 3 none) 2 zc_325 ∧
  zMet l D cI cZ cB cJ cR zKS ks ad Psi yX4_isWord (.code yX4_isWord cX4_isWord 3 (some .boolean)) 8 zc_608 ∧
  zMet l D cI cZ cB cJ cR zKS ks ad Psi yX6_acts (.code yX6_acts cX6_acts 6 none) 2 zc_830 ∧
  zMet l D cI cZ cB cJ cR zKS ks ad Psi yX6_acts (.code yX6_acts cX6_acts 6 none) 2 zc_831 ∧
  zMet l D cI cZ cB cJ cR zKS ks ad Psi yX6_common (.code yX6_common cX6_common 4 (some .long)) 90 zc_855 ∧
  zMet l D cI cZ cB cJ cR zKS ks ad Psi yX6_copyRow (.code yX6_copyRow cX6_copyRow 5 none) 2 zc_857 ∧
  zMet l D cI cZ cB cJ cR zKS ks ad Psi yX6_copyRow (.code yX6_copyRow cX6_copyRow 5 none) 2 zc_859 ∧
  zMet l D cI cZ cB cJ cR zKS ks ad Psi yX6_copyRow (.code yX6_copyRow cX6_copyRow 5 none) 2 zc_861 ∧
  zMet l D cI cZ cB cJ cR zKS ks ad Psi yX6_copyRow (.code yX6_copyRow cX6_copyRow 5 none) 2 zc_863 ∧
  zMet l D cI cZ cB cJ cR zKS ks ad Psi yX6_copyRow (.code yX6_copyRow cX6_copyRow 5 none) 2 zc_865 ∧
  zMet l D cI cZ cB cJ cR zKS ks ad Psi yX6_lays (.code yX6_lays cX6_lays 3 none) 4 zc_1021 ∧
  zMet l D cI cZ cB cJ cR zKS ks ad Psi yX6_ringOf (.code yX6_ringOf cX6_ringOf 4 (some .int)) 4 zc_1069 ∧
  zMet l D cI cZ cB cJ cR zKS ks ad Psi yX6_sizeOf (.code yX6_sizeOf cX6_sizeOf 3 (some .int)) 2 zc_1123 ∧ True
theorem zman_284 {l : Launch} {D : va_G} {cI cZ cB cJ cR : ClassId} {ks ad : List Nat} {Psi : va_W → Prop} (hm : zMan l D cI cZ cB cJ cR ks ad Psi) : zMet l D cI cZ cB cJ cR zKS ks ad Psi yX0_copyFrom (.code yX0_copyFrom cX0_copyFrom 2 none) 2 zc_284 := hm.1
theorem zman_305 {l : Launch} {D : va_G} {cI cZ cB cJ cR : ClassId} {ks ad : List Nat} {Psi : va_W → Prop} (hm : zMan l D cI cZ cB cJ cR ks ad Psi) : zMet l D cI cZ cB cJ cR zKS ks ad Psi yX0_keepAct (.code yX0_keepAct cX0_keepAct 4 none) 2 zc_305 := hm.2.1
theorem zman_306 {l : Launch} {D : va_G} {cI cZ cB cJ cR : ClassId} {ks ad : List Nat} {Psi : va_W → Prop} (hm : zMan l D cI cZ cB cJ cR ks ad Psi) : zMet l D cI cZ cB cJ cR zKS ks ad Psi yX0_keepAct (.code yX0_keepAct cX0_keepAct 4 none) 2 zc_306 := hm.2.2.1
theorem zman_321 {l : Launch} {D : va_G} {cI cZ cB cJ cR : ClassId} {ks ad : List Nat} {Psi : va_W → Prop} (hm : zMan l D cI cZ cB cJ cR ks ad Psi) : zMet l D cI cZ cB cJ cR zKS ks ad Psi yX0_settle (.code yX0_settle cX0_settle 4 none) 2 zc_321 := hm.2.2.2.1
theorem zman_325 {l : Launch} {D : va_G} {cI cZ cB cJ cR : ClassId} {ks ad : List Nat} {Psi : va_W → Prop} (hm : zMan l D cI cZ cB cJ cR ks ad Psi) : zMet l D cI cZ cB cJ cR zKS ks ad Psi yX0_takeBack (.code yX0_takeBack cX0_takeBack 3 none) 2 zc_325 := hm.2.2.2.2.1
theorem zman_608 {l : Launch} {D : va_G} {cI cZ cB cJ cR : ClassId} {ks ad : List Nat} {Psi : va_W → Prop} (hm : zMan l D cI cZ cB cJ cR ks ad Psi) : zMet l D cI cZ cB cJ cR zKS ks ad Psi yX4_isWord (.code yX4_isWord cX4_isWord 3 (some .boolean)) 8 zc_608 := hm.2.2.2.2.2.1
theorem zman_830 {l : Launch} {D : va_G} {cI cZ cB cJ cR : ClassId} {ks ad : List Nat} {Psi : va_W → Prop} (hm : zMan l D cI cZ cB cJ cR ks ad Psi) : zMet l D cI cZ cB cJ cR zKS ks ad Psi yX6_acts (.code yX6_acts cX6_acts 6 none) 2 zc_830 := hm.2.2.2.2.2.2.1
theorem zman_831 {l : Launch} {D : va_G} {cI cZ cB cJ cR : ClassId} {ks ad : List Nat} {Psi : va_W → Prop} (hm : zMan l D cI cZ cB cJ cR ks ad Psi) : zMet l D cI cZ cB cJ cR zKS ks ad Psi yX6_acts (.code yX6_acts cX6_acts 6 none) 2 zc_831 := hm.2.2.2.2.2.2.2.1
theorem zman_855 {l : Launch} {D : va_G} {cI cZ cB cJ cR : ClassId} {ks ad : List Nat} {Psi : va_W → Prop} (hm : zMan l D cI cZ cB cJ cR ks ad Psi) : zMet l D cI cZ cB cJ cR zKS ks ad Psi yX6_common (.code yX6_common cX6_common 4 (some .long)) 90 zc_855 := hm.2.2.2.2.2.2.2.2.1
theorem zman_857 {l : Launch} {D : va_G} {cI cZ cB cJ cR : ClassId} {ks ad : List Nat} {Psi : va_W → Prop} (hm : zMan l D cI cZ cB cJ cR ks ad Psi) : zMet l D cI cZ cB cJ cR zKS ks ad Psi yX6_copyRow (.code yX6_copyRow cX6_copyRow 5 none) 2 zc_857 := hm.2.2.2.2.2.2.2.2.2.1
theorem zman_859 {l : Launch} {D : va_G} {cI cZ cB cJ cR : ClassId} {ks ad : List Nat} {Psi : va_W → Prop} (hm : zMan l D cI cZ cB cJ cR ks ad Psi) : zMet l D cI cZ cB cJ cR zKS ks ad Psi yX6_copyRow (.code yX6_copyRow cX6_copyRow 5 none) 2 zc_859 := hm.2.2.2.2.2.2.2.2.2.2.1
theorem zman_861 {l : Launch} {D : va_G} {cI cZ cB cJ cR : ClassId} {ks ad : List Nat} {Psi : va_W → Prop} (hm : zMan l D cI cZ cB cJ cR ks ad Psi) : zMet l D cI cZ cB cJ cR zKS ks ad Psi yX6_copyRow (.code yX6_copyRow cX6_copyRow 5 none) 2 zc_861 := hm.2.2.2.2.2.2.2.2.2.2.2.1
theorem zman_863 {l : Launch} {D : va_G} {cI cZ cB cJ cR : ClassId} {ks ad : List Nat} {Psi : va_W → Prop} (hm : zMan l D cI cZ cB cJ cR ks ad Psi) : zMet l D cI cZ cB cJ cR zKS ks ad Psi yX6_copyRow (.code yX6_copyRow cX6_copyRow 5 none) 2 zc_863 := hm.2.2.2.2.2.2.2.2.2.2.2.2.1
theorem zman_865 {l : Launch} {D : va_G} {cI cZ cB cJ cR : ClassId} {ks ad : List Nat} {Psi : va_W → Prop} (hm : zMan l D cI cZ cB cJ cR ks ad Psi) : zMet l D cI cZ cB cJ cR zKS ks ad Psi yX6_copyRow (.code yX6_copyRow cX6_copyRow 5 none) 2 zc_865 := hm.2.2.2.2.2.2.2.2.2.2.2.2.2.1
theorem zman_1021 {l : Launch} {D : va_G} {cI cZ cB cJ cR : ClassId} {ks ad : List Nat} {Psi : va_W → Prop} (hm : zMan l D cI cZ cB cJ cR ks ad Psi) : zMet l D cI cZ cB cJ cR zKS ks ad Psi yX6_lays (.code yX6_lays cX6_lays 3 none) 4 zc_1021 := hm.2.2.2.2.2.2.2.2.2.2.2.2.2.2.1
theorem zman_1069 {l : Launch} {D : va_G} {cI cZ cB cJ cR : ClassId} {ks ad : List Nat} {Psi : va_W → Prop} (hm : zMan l D cI cZ cB cJ cR ks ad Psi) : zMet l D cI cZ cB cJ cR zKS ks ad Psi yX6_ringOf (.code yX6_ringOf cX6_ringOf 4 (some .int)) 4 zc_1069 := hm.2.2.2.2.2.2.2.2.2.2.2.2.2.2.2.1
theorem zman_1123 {l : Launch} {D : va_G} {cI cZ cB cJ cR : ClassId} {ks ad : List Nat} {Psi : va_W → Prop} (hm : zMan l D cI cZ cB cJ cR ks ad Psi) : zMet l D cI cZ cB cJ cR zKS ks ad Psi yX6_sizeOf (.code yX6_sizeOf cX6_sizeOf 3 (some .int)) 2 zc_1123 := hm.2.2.2.2.2.2.2.2.2.2.2.2.2.2.2.2.1
