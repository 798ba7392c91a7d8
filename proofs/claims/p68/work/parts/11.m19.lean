set_option maxRecDepth 100000 in
theorem zk_794_0 : zm1 zKS zuq zNS zm_794 4000 zt_794_0 = true := z1F (zdt_X5_refuseWorn) (by decide +kernel)
set_option maxRecDepth 100000 in
theorem zk_794_1 : zm1 zKS zuq zNS zm_794 4000 zt_794_1 = true := z1F (zdt_X5_refuseWorn) (by decide +kernel)
set_option maxRecDepth 100000 in
theorem zk_794_2 : zm1 zKS zuq zNS zm_794 4000 zt_794_2 = true := z1F (zdt_X5_refuseWorn) (by decide +kernel)
set_option maxRecDepth 100000 in
theorem zk_794_3 : zm1 zKS zuq zNS zm_794 4000 zt_794_3 = true := z1F (zdt_X5_refuseWorn) (by decide +kernel)
set_option maxRecDepth 100000 in
theorem zk_794_4 : zm1 zKS zuq zNS zm_794 4000 zt_794_4 = true := z1F (zdt_X5_refuseWorn) (by decide +kernel)
set_option maxRecDepth 100000 in
theorem zk_794_5 : zm1 zKS zuq zNS zm_794 4000 zt_794_5 = true := z1F (zdt_X5_refuseWorn) (by decide +kernel)
set_option maxRecDepth 100000 in
theorem zk_794_6 : zm1 zKS zuq zNS zm_794 4000 zt_794_6 = true := z1F (zdt_X5_refuseWorn) (by decide +kernel)
set_option maxRecDepth 100000 in
theorem zk_794_7 : zm1 zKS zuq zNS zm_794 4000 zt_794_7 = true := z1F (zdt_X5_refuseWorn) (by decide +kernel)
set_option maxRecDepth 100000 in
theorem zk_794_8 : zm1 zKS zuq zNS zm_794 4000 zt_794_8 = true := z1F (zdt_X5_refuseWorn) (by decide +kernel)
set_option maxRecDepth 100000 in
theorem zk_794_9 : zm1 zKS zuq zNS zm_794 4000 zt_794_9 = true := z1F (zdt_X5_refuseWorn) (by decide +kernel)
set_option maxRecDepth 100000 in
theorem zk_794_10 : zm1 zKS zuq zNS zm_794 4000 zt_794_10 = true := z1F (zdt_X5_refuseWorn) (by decide +kernel)
set_option maxRecDepth 100000 in
theorem zk_794_11 : zm1 zKS zuq zNS zm_794 4000 zt_794_11 = true := z1F (zdt_X5_refuseWorn) (by decide +kernel)
set_option maxRecDepth 100000 in
theorem zk_794_12 : zm1 zKS zuq zNS zm_794 4000 zt_794_12 = true := z1F (zdt_X5_refuseWorn) (by decide +kernel)
set_option maxRecDepth 100000 in
theorem zk_794_13 : zm1 zKS zuq zNS zm_794 4000 zt_794_13 = true := z1F (zdt_X5_refuseWorn) (by decide +kernel)
set_option maxRecDepth 100000 in
theorem zk_794_14 : zm1 zKS zuq zNS zm_794 4000 zt_794_14 = true := z1F (zdt_X5_refuseWorn) (by decide +kernel)
set_option maxRecDepth 100000 in
theorem zk_794_15 : zm1 zKS zuq zNS zm_794 4000 zt_794_15 = true := z1F (zdt_X5_refuseWorn) (by decide +kernel)
set_option maxRecDepth 100000 in
theorem zk_794_16 : zm1 zKS zuq zNS zm_794 4000 zt_794_16 = true := z1F (zdt_X5_refuseWorn) (by decide +kernel)
set_option maxRecDepth 100000 in
theorem zk_794_17 : zm1 zKS zuq zNS zm_794 4000 zt_794_17 = true := z1F (zdt_X5_refuseWorn) (by decide +kernel)
set_option maxRecDepth 100000 in
theorem zk_794_18 : zm1 zKS zuq zNS zm_794 4000 zt_794_18 = true := z1F (zdt_X5_refuseWorn) (by decide +kernel)
set_option maxRecDepth 100000 in
theorem zk_794_19 : zm1 zKS zuq zNS zm_794 4000 zt_794_19 = true := z1F (zdt_X5_refuseWorn) (by decide +kernel)
set_option maxRecDepth 100000 in
theorem zk_794_20 : zm1 zKS zuq zNS zm_794 4000 zt_794_20 = true := z1F (zdt_X5_refuseWorn) (by decide +kernel)
set_option maxRecDepth 100000 in
theorem zk_794_s : zm0 zKS zuq zNS zm_794 4000 = true := z0F (zdt_X5_refuseWorn) (by decide +kernel)
set_option maxRecDepth 100000 in
theorem zk_794 : zmeth zKS zuq zNS zm_794 4000 = true := zmeth_by zk_794_s (List.forall_mem_cons.mpr ⟨zk_794_0, (List.forall_mem_cons.mpr ⟨zk_794_1, (List.forall_mem_cons.mpr ⟨zk_794_2, (List.forall_mem_cons.mpr ⟨zk_794_3, (List.forall_mem_cons.mpr ⟨zk_794_4, (List.forall_mem_cons.mpr ⟨zk_794_5, (List.forall_mem_cons.mpr ⟨zk_794_6, (List.forall_mem_cons.mpr ⟨zk_794_7, (List.forall_mem_cons.mpr ⟨zk_794_8, (List.forall_mem_cons.mpr ⟨zk_794_9, (List.forall_mem_cons.mpr ⟨zk_794_10, (List.forall_mem_cons.mpr ⟨zk_794_11, (List.forall_mem_cons.mpr ⟨zk_794_12, (List.forall_mem_cons.mpr ⟨zk_794_13, (List.forall_mem_cons.mpr ⟨zk_794_14, (List.forall_mem_cons.mpr ⟨zk_794_15, (List.forall_mem_cons.mpr ⟨zk_794_16, (List.forall_mem_cons.mpr ⟨zk_794_17, (List.forall_mem_cons.mpr ⟨zk_794_18, (List.forall_mem_cons.mpr ⟨zk_794_19, (List.forall_mem_cons.mpr ⟨zk_794_20, nilz⟩)⟩)⟩)⟩)⟩)⟩)⟩)⟩)⟩)⟩)⟩)⟩)⟩)⟩)⟩)⟩)⟩)⟩)⟩)⟩)⟩)
set_option maxRecDepth 100000 in
theorem zM_794 {l : Launch} {D : va_G} {cI cZ cB cJ cR : ClassId} {ks ad : List Nat} {Psi : va_W → Prop} (hw : zworld ks ad zuq zNS Psi) (hm : zMan l D cI cZ cB cJ cR ks ad Psi) : zMet l D cI cZ cB cJ cR zKS ks ad Psi yX5_refuseWorn (.code yX5_refuseWorn cX5_refuseWorn 6 (some .int)) 2 zc_794 :=
  zmet_of hw 2 (by decide) 4000 zk_794 (by decide) (by decide) (fun X => ⟨zg_RX5 X, zp_RX5 X, zl1_RX5 X, zl2_RX5 X, nilz, (List.forall_mem_cons.mpr ⟨zq_RX5_83 X (zM_303 hw hm) (by decide) rfl rfl, (List.forall_mem_cons.mpr ⟨zq_RX5_87 X (zM_301 hw hm) (by decide) rfl rfl, (List.forall_mem_cons.mpr ⟨zq_RX5_239 X (zM_536 hw hm) (by decide) rfl rfl, (List.forall_mem_cons.mpr ⟨zq_RX5_239 X (zM_537 hw hm) (by decide) rfl rfl, (List.forall_mem_cons.mpr ⟨zq_RX5_239 X (zM_538 hw hm) (by decide) rfl rfl, (List.forall_mem_cons.mpr ⟨zq_RX5_239 X (zM_539 hw hm) (by decide) rfl rfl, (List.forall_mem_cons.mpr ⟨zq_RX5_239 X (zM_540 hw hm) (by decide) rfl rfl, (List.forall_mem_cons.mpr ⟨zq_RX5_239 X (zM_541 hw hm) (by decide) rfl rfl, (List.forall_mem_cons.mpr ⟨zq_RX5_239 X (zM_542 hw hm) (by decide) rfl rfl, (List.forall_mem_cons.mpr ⟨zq_RX5_239 X (zM_543 hw hm) (by decide) rfl rfl, (List.forall_mem_cons.mpr ⟨zq_RX5_239 X (zM_544 hw hm) (by decide) rfl rfl, (List.forall_mem_cons.mpr ⟨zq_RX5_239 X (zM_545 hw hm) (by decide) rfl rfl, (List.forall_mem_cons.mpr ⟨zq_RX5_239 X (zM_546 hw hm) (by decide) rfl rfl, (List.forall_mem_cons.mpr ⟨zq_RX5_239 X (zM_547 hw hm) (by decide) rfl rfl, (List.forall_mem_cons.mpr ⟨zq_RX5_239 X (zM_548 hw hm) (by decide) rfl rfl, (List.forall_mem_cons.mpr ⟨zq_RX5_239 X (zM_549 hw hm) (by decide) rfl rfl, (List.forall_mem_cons.mpr ⟨zq_RX5_239 X (zM_550 hw hm) (by decide) rfl rfl, (List.forall_mem_cons.mpr ⟨zq_RX5_239 X (zM_551 hw hm) (by decide) rfl rfl, (List.forall_mem_cons.mpr ⟨zq_RX5_239 X (zM_552 hw hm) (by decide) rfl rfl, (List.forall_mem_cons.mpr ⟨zq_RX5_239 X (zM_553 hw hm) (by decide) rfl rfl, (List.forall_mem_cons.mpr ⟨zq_RX5_239 X (zM_554 hw hm) (by decide) rfl rfl, (List.forall_mem_cons.mpr ⟨zq_RX5_239 X (zM_555 hw hm) (by decide) rfl rfl, (List.forall_mem_cons.mpr ⟨zq_RX5_239 X (zM_556 hw hm) (by decide) rfl rfl, (List.forall_mem_cons.mpr ⟨zq_RX5_239 X (zM_557 hw hm) (by decide) rfl rfl, (List.forall_mem_cons.mpr ⟨zq_RX5_239 X (zM_558 hw hm) (by decide) rfl rfl, (List.forall_mem_cons.mpr ⟨zq_RX5_239 X (zM_559 hw hm) (by decide) rfl rfl, (List.forall_mem_cons.mpr ⟨zq_RX5_239 X (zM_560 hw hm) (by decide) rfl rfl, (List.forall_mem_cons.mpr ⟨zq_RX5_239 X (zM_561 hw hm) (by decide) rfl rfl, (List.forall_mem_cons.mpr ⟨zq_RX5_239 X (zM_562 hw hm) (by decide) rfl rfl, (List.forall_mem_cons.mpr ⟨zq_RX5_239 X (zM_563 hw hm) (by decide) rfl rfl, (List.forall_mem_cons.mpr ⟨zq_RX5_239 X (zM_564 hw hm) (by decide) rfl rfl, (List.forall_mem_cons.mpr ⟨zq_RX5_239 X (zM_565 hw hm) (by decide) rfl rfl, (List.forall_mem_cons.mpr ⟨zq_RX5_239 X (zM_566 hw hm) (by decide) rfl rfl, (List.forall_mem_cons.mpr ⟨zq_RX5_239 X (zM_567 hw hm) (by decide) rfl rfl, (List.forall_mem_cons.mpr ⟨zq_RX5_239 X (zM_568 hw hm) (by decide) rfl rfl, (List.forall_mem_cons.mpr ⟨zq_RX5_239 X (zM_569 hw hm) (by decide) rfl rfl, (List.forall_mem_cons.mpr ⟨zq_RX5_239 X (zM_570 hw hm) (by decide) rfl rfl, (List.forall_mem_cons.mpr ⟨zq_RX5_239 X (zM_571 hw hm) (by decide) rfl rfl, (List.forall_mem_cons.mpr ⟨zq_RX5_239 X (zM_572 hw hm) (by decide) rfl rfl, (List.forall_mem_cons.mpr ⟨zq_RX5_239 X (zM_573 hw hm) (by decide) rfl rfl, (List.forall_mem_cons.mpr ⟨zq_RX5_239 X (zM_574 hw hm) (by decide) rfl rfl, (List.forall_mem_cons.mpr ⟨zq_RX5_239 X (zM_575 hw hm) (by decide) rfl rfl, (List.forall_mem_cons.mpr ⟨zq_RX5_239 X (zM_576 hw hm) (by decide) rfl rfl, (List.forall_mem_cons.mpr ⟨zq_RX5_239 X (zM_577 hw hm) (by decide) rfl rfl, (List.forall_mem_cons.mpr ⟨zq_RX5_239 X (zM_578 hw hm) (by decide) rfl rfl, (List.forall_mem_cons.mpr ⟨zq_RX5_239 X (zM_579 hw hm) (by decide) rfl rfl, (List.forall_mem_cons.mpr ⟨zq_RX5_239 X (zM_580 hw hm) (by decide) rfl rfl, (List.forall_mem_cons.mpr ⟨zq_RX5_239 X (zM_581 hw hm) (by decide) rfl rfl, (List.forall_mem_cons.mpr ⟨zq_RX5_239 X (zM_582 hw hm) (by decide) rfl rfl, (List.forall_mem_cons.mpr ⟨zq_RX5_239 X (zM_583 hw hm) (by decide) rfl rfl, (List.forall_mem_cons.mpr ⟨zq_RX5_239 X (zM_584 hw hm) (by decide) rfl rfl, (List.forall_mem_cons.mpr ⟨zq_RX5_239 X (zM_585 hw hm) (by decide) rfl rfl, (List.forall_mem_cons.mpr ⟨zq_RX5_239 X (zM_586 hw hm) (by decide) rfl rfl, (List.forall_mem_cons.mpr ⟨zq_RX5_239 X (zM_587 hw hm) (by decide) rfl rfl, (List.forall_mem_cons.mpr ⟨zq_RX5_239 X (zM_588 hw hm) (by decide) rfl rfl, (List.forall_mem_cons.mpr ⟨zq_RX5_239 X (zM_589 hw hm) (by decide) rfl rfl, (List.forall_mem_cons.mpr ⟨zq_RX5_239 X (zM_590 hw hm) (by decide) rfl rfl, (List.forall_mem_cons.mpr ⟨zq_RX5_239 X (zM_591 hw hm) (by decide) rfl rfl, (List.forall_mem_cons.mpr ⟨zq_RX5_239 X (zM_592 hw hm) (by decide) rfl rfl, (List.forall_mem_cons.mpr ⟨zq_RX5_239 X (zM_593 hw hm) (by decide) rfl rfl, (List.forall_mem_cons.mpr ⟨zq_RX5_239 X (zM_594 hw hm) (by decide) rfl rfl, (List.forall_mem_cons.mpr ⟨zq_RX5_239 X (zM_595 hw hm) (by decide) rfl rfl, (List.forall_mem_cons.mpr ⟨zq_RX5_250 X (zM_601 hw hm) (by decide) rfl rfl, (List.forall_mem_cons.mpr ⟨zq_RX5_355 X (zM_787 hw hm) (by decide) rfl rfl, nilz⟩)⟩)⟩)⟩)⟩)⟩)⟩)⟩)⟩)⟩)⟩)⟩)⟩)⟩)⟩)⟩)⟩)⟩)⟩)⟩)⟩)⟩)⟩)⟩)⟩)⟩)⟩)⟩)⟩)⟩)⟩)⟩)⟩)⟩)⟩)⟩)⟩)⟩)⟩)⟩)⟩)⟩)⟩)⟩)⟩)⟩)⟩)⟩)⟩)⟩)⟩)⟩)⟩)⟩)⟩)⟩)⟩)⟩)⟩)⟩)⟩)⟩)⟩)⟩)⟩)
set_option maxRecDepth 100000 in
theorem zk_795 : zmeth zKS zuq zNS zm_795 4000 = true := zqF (zdt_X5_refuseWorn) (by decide +kernel)
theorem zM_795 {l : Launch} {D : va_G} {cI cZ cB cJ cR : ClassId} {ks ad : List Nat} {Psi : va_W → Prop} (hw : zworld ks ad zuq zNS Psi) (hm : zMan l D cI cZ cB cJ cR ks ad Psi) : zMet l D cI cZ cB cJ cR zKS ks ad Psi yX5_refuseWorn (.code yX5_refuseWorn cX5_refuseWorn 6 (some .int)) 2 zc_795 :=
  zmet_of hw 2 (by decide) 4000 zk_795 (by decide) (by decide) (fun X => ⟨zg_RX5 X, zp_RX5 X, zl1_RX5 X, zl2_RX5 X, nilz, (List.forall_mem_cons.mpr ⟨zq_RX5_355 X (zM_789 hw hm) (by decide) rfl rfl, nilz⟩)⟩)
set_option maxRecDepth 100000 in
theorem zk_801 : zmeth zKS zuq zNS zm_801 4000 = true := zqF (zdt0 _) (by decide +kernel)
theorem zM_801 {l : Launch} {D : va_G} {cI cZ cB cJ cR : ClassId} {ks ad : List Nat} {Psi : va_W → Prop} (hw : zworld ks ad zuq zNS Psi) (hm : zMan l D cI cZ cB cJ cR ks ad Psi) : zMet l D cI cZ cB cJ cR zKS ks ad Psi yX5_sees (.code yX5_sees cX5_sees 4 (some .int)) 2 zc_801 :=
  zmet_of hw 2 (by decide) 4000 zk_801 (by decide) (by decide) (fun X => ⟨zg_RX5 X, zp_RX5 X, zl1_RX5 X, zl2_RX5 X, nilz, (List.forall_mem_cons.mpr ⟨zq_RX5_83 X (zM_303 hw hm) (by decide) rfl rfl, (List.forall_mem_cons.mpr ⟨zq_RX5_87 X (zM_301 hw hm) (by decide) rfl rfl, (List.forall_mem_cons.mpr ⟨zq_RX5_94 X (zM_319 hw hm) (by decide) rfl rfl, nilz⟩)⟩)⟩)⟩)
set_option maxRecDepth 100000 in
theorem zk_825 : zmeth zKS zuq zNS zm_825 4000 = true := zqF (zdt0 _) (by decide +kernel)
theorem zM_825 {l : Launch} {D : va_G} {cI cZ cB cJ cR : ClassId} {ks ad : List Nat} {Psi : va_W → Prop} (hw : zworld ks ad zuq zNS Psi) (hm : zMan l D cI cZ cB cJ cR ks ad Psi) : zMet l D cI cZ cB cJ cR zKS ks ad Psi yX5_write (.code yX5_write cX5_write 5 (some .int)) 2 zc_825 :=
  zmet_of hw 2 (by decide) 4000 zk_825 (by decide) (by decide) (fun X => ⟨zg_RX5 X, zp_RX5 X, zl1_RX5 X, zl2_RX5 X, nilz, (List.forall_mem_cons.mpr ⟨zq_RX5_250 X (zM_598 hw hm) (by decide) rfl rfl, (List.forall_mem_cons.mpr ⟨zq_RX5_321 X (zM_353 hw hm) (by decide) rfl rfl, (List.forall_mem_cons.mpr ⟨zq_RX5_328 X (zM_352 hw hm) (by decide) rfl rfl, (List.forall_mem_cons.mpr ⟨zq_RX5_331 X (zM_596 hw hm) (by decide) rfl rfl, nilz⟩)⟩)⟩)⟩)⟩)
set_option maxRecDepth 100000 in
theorem zk_832 : zmeth zKS zuq zNS zm_832 4000 = true := zqF (zdt0 _) (by decide +kernel)
theorem zM_832 {l : Launch} {D : va_G} {cI cZ cB cJ cR : ClassId} {ks ad : List Nat} {Psi : va_W → Prop} (hw : zworld ks ad zuq zNS Psi) (hm : zMan l D cI cZ cB cJ cR ks ad Psi) : zMet l D cI cZ cB cJ cR zKS ks ad Psi yX6_areTwo (.code yX6_areTwo cX6_areTwo 3 (some .boolean)) 2 zc_832 :=
  zmet_of hw 2 (by decide) 4000 zk_832 (by decide) (by decide) (fun X => ⟨zg_RX6 X, zp_RX6 X, zl1_RX6 X, zl2_RX6 X, nilz, (List.forall_mem_cons.mpr ⟨zq_RX6_234 X (zM_930 hw hm) (by decide) rfl rfl, nilz⟩)⟩)
set_option maxRecDepth 100000 in
theorem zk_837 : zmeth zKS zuq zNS zm_837 4000 = true := zqF (zdt0 _) (by decide +kernel)
theorem zM_837 {l : Launch} {D : va_G} {cI cZ cB cJ cR : ClassId} {ks ad : List Nat} {Psi : va_W → Prop} (hw : zworld ks ad zuq zNS Psi) (hm : zMan l D cI cZ cB cJ cR ks ad Psi) : zMet l D cI cZ cB cJ cR zKS ks ad Psi yX6_begins (.code yX6_begins cX6_begins 1 none) 2 zc_837 :=
  zmet_of hw 2 (by decide) 4000 zk_837 (by decide) (by decide) (fun X => ⟨zg_RX6 X, zp_RX6 X, zl1_RX6 X, zl2_RX6 X, nilz, (List.forall_mem_cons.mpr ⟨zq_RX6_133 X (zM_1038 hw hm) (by decide) rfl rfl, nilz⟩)⟩)
set_option maxRecDepth 100000 in
theorem zk_872 : zmeth zKS zuq zNS zm_872 4000 = true := zqF (zdt0 _) (by decide +kernel)
theorem zM_872 {l : Launch} {D : va_G} {cI cZ cB cJ cR : ClassId} {ks ad : List Nat} {Psi : va_W → Prop} (hw : zworld ks ad zuq zNS Psi) (hm : zMan l D cI cZ cB cJ cR ks ad Psi) : zMet l D cI cZ cB cJ cR zKS ks ad Psi yX6_ends (.code yX6_ends cX6_ends 1 none) 2 zc_872 :=
  zmet_of hw 2 (by decide) 4000 zk_872 (by decide) (by decide) (fun X => ⟨zg_RX6 X, zp_RX6 X, zl1_RX6 X, zl2_RX6 X, nilz, (List.forall_mem_cons.mpr ⟨zq_RX6_133 X (zM_1038 hw hm) (by decide) rfl rfl, (List.forall_mem_cons.mpr ⟨zq_RX6_139 X (zM_876 hw hm) (by decide) rfl rfl, nilz⟩)⟩)⟩)
set_option maxRecDepth 100000 in
theorem zk_933 : zmeth zKS zuq zNS zm_933 4000 = true := zqF (zdt0 _) (by decide +kernel)
theorem zM_933 {l : Launch} {D : va_G} {cI cZ cB cJ cR : ClassId} {ks ad : List Nat} {Psi : va_W → Prop} (hw : zworld ks ad zuq zNS Psi) (hm : zMan l D cI cZ cB cJ cR ks ad Psi) : zMet l D cI cZ cB cJ cR zKS ks ad Psi yX6_isSeen (.code yX6_isSeen cX6_isSeen 4 (some .boolean)) 2 zc_933 :=
  zmet_of hw 2 (by decide) 4000 zk_933 (by decide) (by decide) (fun X => ⟨zg_RX6 X, zp_RX6 X, zl1_RX6 X, zl2_RX6 X, nilz, (List.forall_mem_cons.mpr ⟨zq_RX6_244 X (zM_1063 hw hm) (by decide) rfl rfl, (List.forall_mem_cons.mpr ⟨zq_RX6_247 X (zM_1117 hw hm) (by decide) rfl rfl, nilz⟩)⟩)⟩)
set_option maxRecDepth 100000 in
theorem zk_1039 : zmeth zKS zuq zNS zm_1039 4000 = true := zqF (zdt_X6_number) (by decide +kernel)
theorem zM_1039 {l : Launch} {D : va_G} {cI cZ cB cJ cR : ClassId} {ks ad : List Nat} {Psi : va_W → Prop} (hw : zworld ks ad zuq zNS Psi) (hm : zMan l D cI cZ cB cJ cR ks ad Psi) : zMet l D cI cZ cB cJ cR zKS ks ad Psi yX6_number (.code yX6_number cX6_number 4 (some .int)) 2 zc_1039 :=
  zmet_of hw 2 (by decide) 4000 zk_1039 (by decide) (by decide) (fun X => ⟨zg_RX6 X, zp_RX6 X, zl1_RX6 X, zl2_RX6 X, nilz, (List.forall_mem_cons.mpr ⟨zq_RX6_76 X (zM_916 hw hm) (by decide) rfl, (List.forall_mem_cons.mpr ⟨zq_RX6_133 X (zM_1038 hw hm) (by decide) rfl rfl, (List.forall_mem_cons.mpr ⟨zq_RX6_139 X (zM_876 hw hm) (by decide) rfl rfl, nilz⟩)⟩)⟩)⟩)
set_option maxRecDepth 100000 in
theorem zk_1040 : zmeth zKS zuq zNS zm_1040 4000 = true := zqF (zdt_X6_number) (by decide +kernel)
theorem zM_1040 {l : Launch} {D : va_G} {cI cZ cB cJ cR : ClassId} {ks ad : List Nat} {Psi : va_W → Prop} (hw : zworld ks ad zuq zNS Psi) (hm : zMan l D cI cZ cB cJ cR ks ad Psi) : zMet l D cI cZ cB cJ cR zKS ks ad Psi yX6_number (.code yX6_number cX6_number 4 (some .int)) 2 zc_1040 :=
  zmet_of hw 2 (by decide) 4000 zk_1040 (by decide) (by decide) (fun X => ⟨zg_RX6 X, zp_RX6 X, zl1_RX6 X, zl2_RX6 X, nilz, (List.forall_mem_cons.mpr ⟨zq_RX6_76 X (zM_917 hw hm) (by decide) rfl, (List.forall_mem_cons.mpr ⟨zq_RX6_133 X (zM_1038 hw hm) (by decide) rfl rfl, (List.forall_mem_cons.mpr ⟨zq_RX6_139 X (zM_876 hw hm) (by decide) rfl rfl, nilz⟩)⟩)⟩)⟩)
set_option maxRecDepth 100000 in
theorem zk_1041 : zmeth zKS zuq zNS zm_1041 4000 = true := zqF (zdt_X6_number) (by decide +kernel)
theorem zM_1041 {l : Launch} {D : va_G} {cI cZ cB cJ cR : ClassId} {ks ad : List Nat} {Psi : va_W → Prop} (hw : zworld ks ad zuq zNS Psi) (hm : zMan l D cI cZ cB cJ cR ks ad Psi) : zMet l D cI cZ cB cJ cR zKS ks ad Psi yX6_number (.code yX6_number cX6_number 4 (some .int)) 2 zc_1041 :=
  zmet_of hw 2 (by decide) 4000 zk_1041 (by decide) (by decide) (fun X => ⟨zg_RX6 X, zp_RX6 X, zl1_RX6 X, zl2_RX6 X, nilz, (List.forall_mem_cons.mpr ⟨zq_RX6_76 X (zM_918 hw hm) (by decide) rfl, (List.forall_mem_cons.mpr ⟨zq_RX6_133 X (zM_1038 hw hm) (by decide) rfl rfl, (List.forall_mem_cons.mpr ⟨zq_RX6_139 X (zM_876 hw hm) (by decide) rfl rfl, nilz⟩)⟩)⟩)⟩)
set_option maxRecDepth 100000 in
theorem zk_1042 : zmeth zKS zuq zNS zm_1042 4000 = true := zqF (zdt_X6_number) (by decide +kernel)
theorem zM_1042 {l : Launch} {D : va_G} {cI cZ cB cJ cR : ClassId} {ks ad : List Nat} {Psi : va_W → Prop} (hw : zworld ks ad zuq zNS Psi) (hm : zMan l D cI cZ cB cJ cR ks ad Psi) : zMet l D cI cZ cB cJ cR zKS ks ad Psi yX6_number (.code yX6_number cX6_number 4 (some .int)) 2 zc_1042 :=
  zmet_of hw 2 (by decide) 4000 zk_1042 (by decide) (by decide) (fun X => ⟨zg_RX6 X, zp_RX6 X, zl1_RX6 X, zl2_RX6 X, nilz, (List.forall_mem_cons.mpr ⟨zq_RX6_76 X (zM_901 hw hm) (by decide) rfl, (List.forall_mem_cons.mpr ⟨zq_RX6_133 X (zM_1038 hw hm) (by decide) rfl rfl, (List.forall_mem_cons.mpr ⟨zq_RX6_139 X (zM_876 hw hm) (by decide) rfl rfl, nilz⟩)⟩)⟩)⟩)
set_option maxRecDepth 100000 in
theorem zk_1043 : zmeth zKS zuq zNS zm_1043 4000 = true := zqF (zdt_X6_number) (by decide +kernel)
theorem zM_1043 {l : Launch} {D : va_G} {cI cZ cB cJ cR : ClassId} {ks ad : List Nat} {Psi : va_W → Prop} (hw : zworld ks ad zuq zNS Psi) (hm : zMan l D cI cZ cB cJ cR ks ad Psi) : zMet l D cI cZ cB cJ cR zKS ks ad Psi yX6_number (.code yX6_number cX6_number 4 (some .int)) 2 zc_1043 :=
  zmet_of hw 2 (by decide) 4000 zk_1043 (by decide) (by decide) (fun X => ⟨zg_RX6 X, zp_RX6 X, zl1_RX6 X, zl2_RX6 X, nilz, (List.forall_mem_cons.mpr ⟨zq_RX6_76 X (zM_903 hw hm) (by decide) rfl, (List.forall_mem_cons.mpr ⟨zq_RX6_133 X (zM_1038 hw hm) (by decide) rfl rfl, (List.forall_mem_cons.mpr ⟨zq_RX6_139 X (zM_876 hw hm) (by decide) rfl rfl, nilz⟩)⟩)⟩)⟩)
set_option maxRecDepth 100000 in
theorem zk_1044 : zmeth zKS zuq zNS zm_1044 4000 = true := zqF (zdt_X6_number) (by decide +kernel)
theorem zM_1044 {l : Launch} {D : va_G} {cI cZ cB cJ cR : ClassId} {ks ad : List Nat} {Psi : va_W → Prop} (hw : zworld ks ad zuq zNS Psi) (hm : zMan l D cI cZ cB cJ cR ks ad Psi) : zMet l D cI cZ cB cJ cR zKS ks ad Psi yX6_number (.code yX6_number cX6_number 4 (some .int)) 2 zc_1044 :=
  zmet_of hw 2 (by decide) 4000 zk_1044 (by decide) (by decide) (fun X => ⟨zg_RX6 X, zp_RX6 X, zl1_RX6 X, zl2_RX6 X, nilz, (List.forall_mem_cons.mpr ⟨zq_RX6_76 X (zM_907 hw hm) (by decide) rfl, (List.forall_mem_cons.mpr ⟨zq_RX6_133 X (zM_1038 hw hm) (by decide) rfl rfl, (List.forall_mem_cons.mpr ⟨zq_RX6_139 X (zM_876 hw hm) (by decide) rfl rfl, nilz⟩)⟩)⟩)⟩)
set_option maxRecDepth 100000 in
theorem zk_1045 : zmeth zKS zuq zNS zm_1045 4000 = true := zqF (zdt_X6_number) (by decide +kernel)
theorem zM_1045 {l : Launch} {D : va_G} {cI cZ cB cJ cR : ClassId} {ks ad : List Nat} {Psi : va_W → Prop} (hw : zworld ks ad zuq zNS Psi) (hm : zMan l D cI cZ cB cJ cR ks ad Psi) : zMet l D cI cZ cB cJ cR zKS ks ad Psi yX6_number (.code yX6_number cX6_number 4 (some .int)) 2 zc_1045 :=
  zmet_of hw 2 (by decide) 4000 zk_1045 (by decide) (by decide) (fun X => ⟨zg_RX6 X, zp_RX6 X, zl1_RX6 X, zl2_RX6 X, nilz, (List.forall_mem_cons.mpr ⟨zq_RX6_76 X (zM_909 hw hm) (by decide) rfl, (List.forall_mem_cons.mpr ⟨zq_RX6_133 X (zM_1038 hw hm) (by decide) rfl rfl, (List.forall_mem_cons.mpr ⟨zq_RX6_139 X (zM_876 hw hm) (by decide) rfl rfl, nilz⟩)⟩)⟩)⟩)
set_option maxRecDepth 100000 in
theorem zk_1046 : zmeth zKS zuq zNS zm_1046 4000 = true := zqF (zdt_X6_number) (by decide +kernel)
theorem zM_1046 {l : Launch} {D : va_G} {cI cZ cB cJ cR : ClassId} {ks ad : List Nat} {Psi : va_W → Prop} (hw : zworld ks ad zuq zNS Psi) (hm : zMan l D cI cZ cB cJ cR ks ad Psi) : zMet l D cI cZ cB cJ cR zKS ks ad Psi yX6_number (.code yX6_number cX6_number 4 (some .int)) 2 zc_1046 :=
  zmet_of hw 2 (by decide) 4000 zk_1046 (by decide) (by decide) (fun X => ⟨zg_RX6 X, zp_RX6 X, zl1_RX6 X, zl2_RX6 X, nilz, (List.forall_mem_cons.mpr ⟨zq_RX6_76 X (zM_910 hw hm) (by decide) rfl, (List.forall_mem_cons.mpr ⟨zq_RX6_133 X (zM_1038 hw hm) (by decide) rfl rfl, (List.forall_mem_cons.mpr ⟨zq_RX6_139 X (zM_876 hw hm) (by decide) rfl rfl, nilz⟩)⟩)⟩)⟩)
set_option maxRecDepth 100000 in
theorem zk_1047 : zmeth zKS zuq zNS zm_1047 4000 = true := zqF (zdt_X6_number) (by decide +kernel)
theorem zM_1047 {l : Launch} {D : va_G} {cI cZ cB cJ cR : ClassId} {ks ad : List Nat} {Psi : va_W → Prop} (hw : zworld ks ad zuq zNS Psi) (hm : zMan l D cI cZ cB cJ cR ks ad Psi) : zMet l D cI cZ cB cJ cR zKS ks ad Psi yX6_number (.code yX6_number cX6_number 4 (some .int)) 2 zc_1047 :=
  zmet_of hw 2 (by decide) 4000 zk_1047 (by decide) (by decide) (fun X => ⟨zg_RX6 X, zp_RX6 X, zl1_RX6 X, zl2_RX6 X, nilz, (List.forall_mem_cons.mpr ⟨zq_RX6_76 X (zM_912 hw hm) (by decide) rfl, (List.forall_mem_cons.mpr ⟨zq_RX6_133 X (zM_1038 hw hm) (by decide) rfl rfl, (List.forall_mem_cons.mpr ⟨zq_RX6_139 X (zM_876 hw hm) (by decide) rfl rfl, nilz⟩)⟩)⟩)⟩)
set_option maxRecDepth 100000 in
theorem zk_1048 : zmeth zKS zuq zNS zm_1048 4000 = true := zqF (zdt_X6_number) (by decide +kernel)
theorem zM_1048 {l : Launch} {D : va_G} {cI cZ cB cJ cR : ClassId} {ks ad : List Nat} {Psi : va_W → Prop} (hw : zworld ks ad zuq zNS Psi) (hm : zMan l D cI cZ cB cJ cR ks ad Psi) : zMet l D cI cZ cB cJ cR zKS ks ad Psi yX6_number (.code yX6_number cX6_number 4 (some .int)) 2 zc_1048 :=
  zmet_of hw 2 (by decide) 4000 zk_1048 (by decide) (by decide) (fun X => ⟨zg_RX6 X, zp_RX6 X, zl1_RX6 X, zl2_RX6 X, nilz, (List.forall_mem_cons.mpr ⟨zq_RX6_76 X (zM_914 hw hm) (by decide) rfl, (List.forall_mem_cons.mpr ⟨zq_RX6_133 X (zM_1038 hw hm) (by decide) rfl rfl, (List.forall_mem_cons.mpr ⟨zq_RX6_139 X (zM_876 hw hm) (by decide) rfl rfl, nilz⟩)⟩)⟩)⟩)
set_option maxRecDepth 100000 in
theorem zk_1049 : zmeth zKS zuq zNS zm_1049 4000 = true := zqF (zdt_X6_number) (by decide +kernel)
theorem zM_1049 {l : Launch} {D : va_G} {cI cZ cB cJ cR : ClassId} {ks ad : List Nat} {Psi : va_W → Prop} (hw : zworld ks ad zuq zNS Psi) (hm : zMan l D cI cZ cB cJ cR ks ad Psi) : zMet l D cI cZ cB cJ cR zKS ks ad Psi yX6_number (.code yX6_number cX6_number 4 (some .int)) 2 zc_1049 :=
  zmet_of hw 2 (by decide) 4000 zk_1049 (by decide) (by decide) (fun X => ⟨zg_RX6 X, zp_RX6 X, zl1_RX6 X, zl2_RX6 X, nilz, (List.forall_mem_cons.mpr ⟨zq_RX6_76 X (zM_915 hw hm) (by decide) rfl, (List.forall_mem_cons.mpr ⟨zq_RX6_133 X (zM_1038 hw hm) (by decide) rfl rfl, (List.forall_mem_cons.mpr ⟨zq_RX6_139 X (zM_876 hw hm) (by decide) rfl rfl, nilz⟩)⟩)⟩)⟩)
set_option maxRecDepth 100000 in
theorem zk_1113 : zmeth zKS zuq zNS zm_1113 4000 = true := zqF (zdt_X6_row) (by decide +kernel)
theorem zM_1113 {l : Launch} {D : va_G} {cI cZ cB cJ cR : ClassId} {ks ad : List Nat} {Psi : va_W → Prop} (hw : zworld ks ad zuq zNS Psi) (hm : zMan l D cI cZ cB cJ cR ks ad Psi) : zMet l D cI cZ cB cJ cR zKS ks ad Psi yX6_row (.code yX6_row cX6_row 5 (some .int)) 2 zc_1113 :=
  zmet_of hw 2 (by decide) 4000 zk_1113 (by decide) (by decide) (fun X => ⟨zg_RX6 X, zp_RX6 X, zl1_RX6 X, zl2_RX6 X, nilz, (List.forall_mem_cons.mpr ⟨zq_RX6_76 X (zM_906 hw hm) (by decide) rfl, (List.forall_mem_cons.mpr ⟨zq_RX6_80 X (zM_935 hw hm) (by decide) rfl, nilz⟩)⟩)⟩)
