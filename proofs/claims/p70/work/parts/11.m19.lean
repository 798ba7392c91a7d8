set_option maxRecDepth 100000 in
theorem zk_798_0 : zm1 zKS zuq zNS zm_798 4000 zt_798_0 = true := z1F (zdt_X5_refuseWorn) (by decide +kernel)
set_option maxRecDepth 100000 in
theorem zk_798_1 : zm1 zKS zuq zNS zm_798 4000 zt_798_1 = true := z1F (zdt_X5_refuseWorn) (by decide +kernel)
set_option maxRecDepth 100000 in
theorem zk_798_2 : zm1 zKS zuq zNS zm_798 4000 zt_798_2 = true := z1F (zdt_X5_refuseWorn) (by decide +kernel)
set_option maxRecDepth 100000 in
theorem zk_798_3 : zm1 zKS zuq zNS zm_798 4000 zt_798_3 = true := z1F (zdt_X5_refuseWorn) (by decide +kernel)
set_option maxRecDepth 100000 in
theorem zk_798_4 : zm1 zKS zuq zNS zm_798 4000 zt_798_4 = true := z1F (zdt_X5_refuseWorn) (by decide +kernel)
set_option maxRecDepth 100000 in
theorem zk_798_5 : zm1 zKS zuq zNS zm_798 4000 zt_798_5 = true := z1F (zdt_X5_refuseWorn) (by decide +kernel)
set_option maxRecDepth 100000 in
theorem zk_798_6 : zm1 zKS zuq zNS zm_798 4000 zt_798_6 = true := z1F (zdt_X5_refuseWorn) (by decide +kernel)
set_option maxRecDepth 100000 in
theorem zk_798_7 : zm1 zKS zuq zNS zm_798 4000 zt_798_7 = true := z1F (zdt_X5_refuseWorn) (by decide +kernel)
set_option maxRecDepth 100000 in
theorem zk_798_8 : zm1 zKS zuq zNS zm_798 4000 zt_798_8 = true := z1F (zdt_X5_refuseWorn) (by decide +kernel)
set_option maxRecDepth 100000 in
theorem zk_798_9 : zm1 zKS zuq zNS zm_798 4000 zt_798_9 = true := z1F (zdt_X5_refuseWorn) (by decide +kernel)
set_option maxRecDepth 100000 in
theorem zk_798_10 : zm1 zKS zuq zNS zm_798 4000 zt_798_10 = true := z1F (zdt_X5_refuseWorn) (by decide +kernel)
set_option maxRecDepth 100000 in
theorem zk_798_11 : zm1 zKS zuq zNS zm_798 4000 zt_798_11 = true := z1F (zdt_X5_refuseWorn) (by decide +kernel)
set_option maxRecDepth 100000 in
theorem zk_798_12 : zm1 zKS zuq zNS zm_798 4000 zt_798_12 = true := z1F (zdt_X5_refuseWorn) (by decide +kernel)
set_option maxRecDepth 100000 in
theorem zk_798_13 : zm1 zKS zuq zNS zm_798 4000 zt_798_13 = true := z1F (zdt_X5_refuseWorn) (by decide +kernel)
set_option maxRecDepth 100000 in
theorem zk_798_14 : zm1 zKS zuq zNS zm_798 4000 zt_798_14 = true := z1F (zdt_X5_refuseWorn) (by decide +kernel)
set_option maxRecDepth 100000 in
theorem zk_798_15 : zm1 zKS zuq zNS zm_798 4000 zt_798_15 = true := z1F (zdt_X5_refuseWorn) (by decide +kernel)
set_option maxRecDepth 100000 in
theorem zk_798_16 : zm1 zKS zuq zNS zm_798 4000 zt_798_16 = true := z1F (zdt_X5_refuseWorn) (by decide +kernel)
set_option maxRecDepth 100000 in
theorem zk_798_17 : zm1 zKS zuq zNS zm_798 4000 zt_798_17 = true := z1F (zdt_X5_refuseWorn) (by decide +kernel)
set_option maxRecDepth 100000 in
theorem zk_798_18 : zm1 zKS zuq zNS zm_798 4000 zt_798_18 = true := z1F (zdt_X5_refuseWorn) (by decide +kernel)
set_option maxRecDepth 100000 in
theorem zk_798_19 : zm1 zKS zuq zNS zm_798 4000 zt_798_19 = true := z1F (zdt_X5_refuseWorn) (by decide +kernel)
set_option maxRecDepth 100000 in
theorem zk_798_20 : zm1 zKS zuq zNS zm_798 4000 zt_798_20 = true := z1F (zdt_X5_refuseWorn) (by decide +kernel)
set_option maxRecDepth 100000 in
theorem zk_798_s : zm0 zKS zuq zNS zm_798 4000 = true := z0F (zdt_X5_refuseWorn) (by decide +kernel)
set_option maxRecDepth 100000 in
theorem zk_798 : zmeth zKS zuq zNS zm_798 4000 = true := zmeth_by zk_798_s (List.forall_mem_cons.mpr ⟨zk_798_0, (List.forall_mem_cons.mpr ⟨zk_798_1, (List.forall_mem_cons.mpr ⟨zk_798_2, (List.forall_mem_cons.mpr ⟨zk_798_3, (List.forall_mem_cons.mpr ⟨zk_798_4, (List.forall_mem_cons.mpr ⟨zk_798_5, (List.forall_mem_cons.mpr ⟨zk_798_6, (List.forall_mem_cons.mpr ⟨zk_798_7, (List.forall_mem_cons.mpr ⟨zk_798_8, (List.forall_mem_cons.mpr ⟨zk_798_9, (List.forall_mem_cons.mpr ⟨zk_798_10, (List.forall_mem_cons.mpr ⟨zk_798_11, (List.forall_mem_cons.mpr ⟨zk_798_12, (List.forall_mem_cons.mpr ⟨zk_798_13, (List.forall_mem_cons.mpr ⟨zk_798_14, (List.forall_mem_cons.mpr ⟨zk_798_15, (List.forall_mem_cons.mpr ⟨zk_798_16, (List.forall_mem_cons.mpr ⟨zk_798_17, (List.forall_mem_cons.mpr ⟨zk_798_18, (List.forall_mem_cons.mpr ⟨zk_798_19, (List.forall_mem_cons.mpr ⟨zk_798_20, nilz⟩)⟩)⟩)⟩)⟩)⟩)⟩)⟩)⟩)⟩)⟩)⟩)⟩)⟩)⟩)⟩)⟩)⟩)⟩)⟩)⟩)
set_option maxRecDepth 100000 in
theorem zM_798 {l : Launch} {D : va_G} {cI cZ cB cJ cR : ClassId} {ks ad : List Nat} {Psi : va_W → Prop} (hw : zworld ks ad zuq zNS Psi) (hm : zMan l D cI cZ cB cJ cR ks ad Psi) : zMet l D cI cZ cB cJ cR zKS ks ad Psi yX5_refuseWorn (.code yX5_refuseWorn cX5_refuseWorn 6 (some .int)) 2 zc_798 :=
  zmet_of hw 2 (by decide) 4000 zk_798 (by decide) (by decide) (fun X => ⟨zg_RX5 X, zp_RX5 X, zl1_RX5 X, zl2_RX5 X, nilz, (List.forall_mem_cons.mpr ⟨zq_RX5_83 X (zM_303 hw hm) (by decide) rfl rfl, (List.forall_mem_cons.mpr ⟨zq_RX5_87 X (zM_301 hw hm) (by decide) rfl rfl, (List.forall_mem_cons.mpr ⟨zq_RX5_239 X (zM_540 hw hm) (by decide) rfl rfl, (List.forall_mem_cons.mpr ⟨zq_RX5_239 X (zM_541 hw hm) (by decide) rfl rfl, (List.forall_mem_cons.mpr ⟨zq_RX5_239 X (zM_542 hw hm) (by decide) rfl rfl, (List.forall_mem_cons.mpr ⟨zq_RX5_239 X (zM_543 hw hm) (by decide) rfl rfl, (List.forall_mem_cons.mpr ⟨zq_RX5_239 X (zM_544 hw hm) (by decide) rfl rfl, (List.forall_mem_cons.mpr ⟨zq_RX5_239 X (zM_545 hw hm) (by decide) rfl rfl, (List.forall_mem_cons.mpr ⟨zq_RX5_239 X (zM_546 hw hm) (by decide) rfl rfl, (List.forall_mem_cons.mpr ⟨zq_RX5_239 X (zM_547 hw hm) (by decide) rfl rfl, (List.forall_mem_cons.mpr ⟨zq_RX5_239 X (zM_548 hw hm) (by decide) rfl rfl, (List.forall_mem_cons.mpr ⟨zq_RX5_239 X (zM_549 hw hm) (by decide) rfl rfl, (List.forall_mem_cons.mpr ⟨zq_RX5_239 X (zM_550 hw hm) (by decide) rfl rfl, (List.forall_mem_cons.mpr ⟨zq_RX5_239 X (zM_551 hw hm) (by decide) rfl rfl, (List.forall_mem_cons.mpr ⟨zq_RX5_239 X (zM_552 hw hm) (by decide) rfl rfl, (List.forall_mem_cons.mpr ⟨zq_RX5_239 X (zM_553 hw hm) (by decide) rfl rfl, (List.forall_mem_cons.mpr ⟨zq_RX5_239 X (zM_554 hw hm) (by decide) rfl rfl, (List.forall_mem_cons.mpr ⟨zq_RX5_239 X (zM_555 hw hm) (by decide) rfl rfl, (List.forall_mem_cons.mpr ⟨zq_RX5_239 X (zM_556 hw hm) (by decide) rfl rfl, (List.forall_mem_cons.mpr ⟨zq_RX5_239 X (zM_557 hw hm) (by decide) rfl rfl, (List.forall_mem_cons.mpr ⟨zq_RX5_239 X (zM_558 hw hm) (by decide) rfl rfl, (List.forall_mem_cons.mpr ⟨zq_RX5_239 X (zM_559 hw hm) (by decide) rfl rfl, (List.forall_mem_cons.mpr ⟨zq_RX5_239 X (zM_560 hw hm) (by decide) rfl rfl, (List.forall_mem_cons.mpr ⟨zq_RX5_239 X (zM_561 hw hm) (by decide) rfl rfl, (List.forall_mem_cons.mpr ⟨zq_RX5_239 X (zM_562 hw hm) (by decide) rfl rfl, (List.forall_mem_cons.mpr ⟨zq_RX5_239 X (zM_563 hw hm) (by decide) rfl rfl, (List.forall_mem_cons.mpr ⟨zq_RX5_239 X (zM_564 hw hm) (by decide) rfl rfl, (List.forall_mem_cons.mpr ⟨zq_RX5_239 X (zM_565 hw hm) (by decide) rfl rfl, (List.forall_mem_cons.mpr ⟨zq_RX5_239 X (zM_566 hw hm) (by decide) rfl rfl, (List.forall_mem_cons.mpr ⟨zq_RX5_239 X (zM_567 hw hm) (by decide) rfl rfl, (List.forall_mem_cons.mpr ⟨zq_RX5_239 X (zM_568 hw hm) (by decide) rfl rfl, (List.forall_mem_cons.mpr ⟨zq_RX5_239 X (zM_569 hw hm) (by decide) rfl rfl, (List.forall_mem_cons.mpr ⟨zq_RX5_239 X (zM_570 hw hm) (by decide) rfl rfl, (List.forall_mem_cons.mpr ⟨zq_RX5_239 X (zM_571 hw hm) (by decide) rfl rfl, (List.forall_mem_cons.mpr ⟨zq_RX5_239 X (zM_572 hw hm) (by decide) rfl rfl, (List.forall_mem_cons.mpr ⟨zq_RX5_239 X (zM_573 hw hm) (by decide) rfl rfl, (List.forall_mem_cons.mpr ⟨zq_RX5_239 X (zM_574 hw hm) (by decide) rfl rfl, (List.forall_mem_cons.mpr ⟨zq_RX5_239 X (zM_575 hw hm) (by decide) rfl rfl, (List.forall_mem_cons.mpr ⟨zq_RX5_239 X (zM_576 hw hm) (by decide) rfl rfl, (List.forall_mem_cons.mpr ⟨zq_RX5_239 X (zM_577 hw hm) (by decide) rfl rfl, (List.forall_mem_cons.mpr ⟨zq_RX5_239 X (zM_578 hw hm) (by decide) rfl rfl, (List.forall_mem_cons.mpr ⟨zq_RX5_239 X (zM_579 hw hm) (by decide) rfl rfl, (List.forall_mem_cons.mpr ⟨zq_RX5_239 X (zM_580 hw hm) (by decide) rfl rfl, (List.forall_mem_cons.mpr ⟨zq_RX5_239 X (zM_581 hw hm) (by decide) rfl rfl, (List.forall_mem_cons.mpr ⟨zq_RX5_239 X (zM_582 hw hm) (by decide) rfl rfl, (List.forall_mem_cons.mpr ⟨zq_RX5_239 X (zM_583 hw hm) (by decide) rfl rfl, (List.forall_mem_cons.mpr ⟨zq_RX5_239 X (zM_584 hw hm) (by decide) rfl rfl, (List.forall_mem_cons.mpr ⟨zq_RX5_239 X (zM_585 hw hm) (by decide) rfl rfl, (List.forall_mem_cons.mpr ⟨zq_RX5_239 X (zM_586 hw hm) (by decide) rfl rfl, (List.forall_mem_cons.mpr ⟨zq_RX5_239 X (zM_587 hw hm) (by decide) rfl rfl, (List.forall_mem_cons.mpr ⟨zq_RX5_239 X (zM_588 hw hm) (by decide) rfl rfl, (List.forall_mem_cons.mpr ⟨zq_RX5_239 X (zM_589 hw hm) (by decide) rfl rfl, (List.forall_mem_cons.mpr ⟨zq_RX5_239 X (zM_590 hw hm) (by decide) rfl rfl, (List.forall_mem_cons.mpr ⟨zq_RX5_239 X (zM_591 hw hm) (by decide) rfl rfl, (List.forall_mem_cons.mpr ⟨zq_RX5_239 X (zM_592 hw hm) (by decide) rfl rfl, (List.forall_mem_cons.mpr ⟨zq_RX5_239 X (zM_593 hw hm) (by decide) rfl rfl, (List.forall_mem_cons.mpr ⟨zq_RX5_239 X (zM_594 hw hm) (by decide) rfl rfl, (List.forall_mem_cons.mpr ⟨zq_RX5_239 X (zM_595 hw hm) (by decide) rfl rfl, (List.forall_mem_cons.mpr ⟨zq_RX5_239 X (zM_596 hw hm) (by decide) rfl rfl, (List.forall_mem_cons.mpr ⟨zq_RX5_239 X (zM_597 hw hm) (by decide) rfl rfl, (List.forall_mem_cons.mpr ⟨zq_RX5_239 X (zM_598 hw hm) (by decide) rfl rfl, (List.forall_mem_cons.mpr ⟨zq_RX5_239 X (zM_599 hw hm) (by decide) rfl rfl, (List.forall_mem_cons.mpr ⟨zq_RX5_250 X (zM_605 hw hm) (by decide) rfl rfl, (List.forall_mem_cons.mpr ⟨zq_RX5_355 X (zM_791 hw hm) (by decide) rfl rfl, nilz⟩)⟩)⟩)⟩)⟩)⟩)⟩)⟩)⟩)⟩)⟩)⟩)⟩)⟩)⟩)⟩)⟩)⟩)⟩)⟩)⟩)⟩)⟩)⟩)⟩)⟩)⟩)⟩)⟩)⟩)⟩)⟩)⟩)⟩)⟩)⟩)⟩)⟩)⟩)⟩)⟩)⟩)⟩)⟩)⟩)⟩)⟩)⟩)⟩)⟩)⟩)⟩)⟩)⟩)⟩)⟩)⟩)⟩)⟩)⟩)⟩)⟩)⟩)⟩)⟩)
set_option maxRecDepth 100000 in
theorem zk_799 : zmeth zKS zuq zNS zm_799 4000 = true := zqF (zdt_X5_refuseWorn) (by decide +kernel)
theorem zM_799 {l : Launch} {D : va_G} {cI cZ cB cJ cR : ClassId} {ks ad : List Nat} {Psi : va_W → Prop} (hw : zworld ks ad zuq zNS Psi) (hm : zMan l D cI cZ cB cJ cR ks ad Psi) : zMet l D cI cZ cB cJ cR zKS ks ad Psi yX5_refuseWorn (.code yX5_refuseWorn cX5_refuseWorn 6 (some .int)) 2 zc_799 :=
  zmet_of hw 2 (by decide) 4000 zk_799 (by decide) (by decide) (fun X => ⟨zg_RX5 X, zp_RX5 X, zl1_RX5 X, zl2_RX5 X, nilz, (List.forall_mem_cons.mpr ⟨zq_RX5_355 X (zM_793 hw hm) (by decide) rfl rfl, nilz⟩)⟩)
set_option maxRecDepth 100000 in
theorem zk_805 : zmeth zKS zuq zNS zm_805 4000 = true := zqF (zdt0 _) (by decide +kernel)
theorem zM_805 {l : Launch} {D : va_G} {cI cZ cB cJ cR : ClassId} {ks ad : List Nat} {Psi : va_W → Prop} (hw : zworld ks ad zuq zNS Psi) (hm : zMan l D cI cZ cB cJ cR ks ad Psi) : zMet l D cI cZ cB cJ cR zKS ks ad Psi yX5_sees (.code yX5_sees cX5_sees 4 (some .int)) 2 zc_805 :=
  zmet_of hw 2 (by decide) 4000 zk_805 (by decide) (by decide) (fun X => ⟨zg_RX5 X, zp_RX5 X, zl1_RX5 X, zl2_RX5 X, nilz, (List.forall_mem_cons.mpr ⟨zq_RX5_83 X (zM_303 hw hm) (by decide) rfl rfl, (List.forall_mem_cons.mpr ⟨zq_RX5_87 X (zM_301 hw hm) (by decide) rfl rfl, (List.forall_mem_cons.mpr ⟨zq_RX5_94 X (zM_319 hw hm) (by decide) rfl rfl, nilz⟩)⟩)⟩)⟩)
set_option maxRecDepth 100000 in
theorem zk_829 : zmeth zKS zuq zNS zm_829 4000 = true := zqF (zdt0 _) (by decide +kernel)
theorem zM_829 {l : Launch} {D : va_G} {cI cZ cB cJ cR : ClassId} {ks ad : List Nat} {Psi : va_W → Prop} (hw : zworld ks ad zuq zNS Psi) (hm : zMan l D cI cZ cB cJ cR ks ad Psi) : zMet l D cI cZ cB cJ cR zKS ks ad Psi yX5_write (.code yX5_write cX5_write 5 (some .int)) 2 zc_829 :=
  zmet_of hw 2 (by decide) 4000 zk_829 (by decide) (by decide) (fun X => ⟨zg_RX5 X, zp_RX5 X, zl1_RX5 X, zl2_RX5 X, nilz, (List.forall_mem_cons.mpr ⟨zq_RX5_250 X (zM_602 hw hm) (by decide) rfl rfl, (List.forall_mem_cons.mpr ⟨zq_RX5_321 X (zM_357 hw hm) (by decide) rfl rfl, (List.forall_mem_cons.mpr ⟨zq_RX5_328 X (zM_353 hw hm) (by decide) rfl rfl, (List.forall_mem_cons.mpr ⟨zq_RX5_331 X (zM_600 hw hm) (by decide) rfl rfl, nilz⟩)⟩)⟩)⟩)⟩)
set_option maxRecDepth 100000 in
theorem zk_836 : zmeth zKS zuq zNS zm_836 4000 = true := zqF (zdt0 _) (by decide +kernel)
theorem zM_836 {l : Launch} {D : va_G} {cI cZ cB cJ cR : ClassId} {ks ad : List Nat} {Psi : va_W → Prop} (hw : zworld ks ad zuq zNS Psi) (hm : zMan l D cI cZ cB cJ cR ks ad Psi) : zMet l D cI cZ cB cJ cR zKS ks ad Psi yX6_areTwo (.code yX6_areTwo cX6_areTwo 3 (some .boolean)) 2 zc_836 :=
  zmet_of hw 2 (by decide) 4000 zk_836 (by decide) (by decide) (fun X => ⟨zg_RX6 X, zp_RX6 X, zl1_RX6 X, zl2_RX6 X, nilz, (List.forall_mem_cons.mpr ⟨zq_RX6_234 X (zM_934 hw hm) (by decide) rfl rfl, nilz⟩)⟩)
set_option maxRecDepth 100000 in
theorem zk_841 : zmeth zKS zuq zNS zm_841 4000 = true := zqF (zdt0 _) (by decide +kernel)
theorem zM_841 {l : Launch} {D : va_G} {cI cZ cB cJ cR : ClassId} {ks ad : List Nat} {Psi : va_W → Prop} (hw : zworld ks ad zuq zNS Psi) (hm : zMan l D cI cZ cB cJ cR ks ad Psi) : zMet l D cI cZ cB cJ cR zKS ks ad Psi yX6_begins (.code yX6_begins cX6_begins 1 none) 2 zc_841 :=
  zmet_of hw 2 (by decide) 4000 zk_841 (by decide) (by decide) (fun X => ⟨zg_RX6 X, zp_RX6 X, zl1_RX6 X, zl2_RX6 X, nilz, (List.forall_mem_cons.mpr ⟨zq_RX6_133 X (zM_1042 hw hm) (by decide) rfl rfl, nilz⟩)⟩)
set_option maxRecDepth 100000 in
theorem zk_876 : zmeth zKS zuq zNS zm_876 4000 = true := zqF (zdt0 _) (by decide +kernel)
theorem zM_876 {l : Launch} {D : va_G} {cI cZ cB cJ cR : ClassId} {ks ad : List Nat} {Psi : va_W → Prop} (hw : zworld ks ad zuq zNS Psi) (hm : zMan l D cI cZ cB cJ cR ks ad Psi) : zMet l D cI cZ cB cJ cR zKS ks ad Psi yX6_ends (.code yX6_ends cX6_ends 1 none) 2 zc_876 :=
  zmet_of hw 2 (by decide) 4000 zk_876 (by decide) (by decide) (fun X => ⟨zg_RX6 X, zp_RX6 X, zl1_RX6 X, zl2_RX6 X, nilz, (List.forall_mem_cons.mpr ⟨zq_RX6_133 X (zM_1042 hw hm) (by decide) rfl rfl, (List.forall_mem_cons.mpr ⟨zq_RX6_139 X (zM_880 hw hm) (by decide) rfl rfl, nilz⟩)⟩)⟩)
set_option maxRecDepth 100000 in
theorem zk_937 : zmeth zKS zuq zNS zm_937 4000 = true := zqF (zdt0 _) (by decide +kernel)
theorem zM_937 {l : Launch} {D : va_G} {cI cZ cB cJ cR : ClassId} {ks ad : List Nat} {Psi : va_W → Prop} (hw : zworld ks ad zuq zNS Psi) (hm : zMan l D cI cZ cB cJ cR ks ad Psi) : zMet l D cI cZ cB cJ cR zKS ks ad Psi yX6_isSeen (.code yX6_isSeen cX6_isSeen 4 (some .boolean)) 2 zc_937 :=
  zmet_of hw 2 (by decide) 4000 zk_937 (by decide) (by decide) (fun X => ⟨zg_RX6 X, zp_RX6 X, zl1_RX6 X, zl2_RX6 X, nilz, (List.forall_mem_cons.mpr ⟨zq_RX6_244 X (zM_1067 hw hm) (by decide) rfl rfl, (List.forall_mem_cons.mpr ⟨zq_RX6_247 X (zM_1121 hw hm) (by decide) rfl rfl, nilz⟩)⟩)⟩)
set_option maxRecDepth 100000 in
theorem zk_1043 : zmeth zKS zuq zNS zm_1043 4000 = true := zqF (zdt_X6_number) (by decide +kernel)
theorem zM_1043 {l : Launch} {D : va_G} {cI cZ cB cJ cR : ClassId} {ks ad : List Nat} {Psi : va_W → Prop} (hw : zworld ks ad zuq zNS Psi) (hm : zMan l D cI cZ cB cJ cR ks ad Psi) : zMet l D cI cZ cB cJ cR zKS ks ad Psi yX6_number (.code yX6_number cX6_number 4 (some .int)) 2 zc_1043 :=
  zmet_of hw 2 (by decide) 4000 zk_1043 (by decide) (by decide) (fun X => ⟨zg_RX6 X, zp_RX6 X, zl1_RX6 X, zl2_RX6 X, nilz, (List.forall_mem_cons.mpr ⟨zq_RX6_76 X (zM_920 hw hm) (by decide) rfl, (List.forall_mem_cons.mpr ⟨zq_RX6_133 X (zM_1042 hw hm) (by decide) rfl rfl, (List.forall_mem_cons.mpr ⟨zq_RX6_139 X (zM_880 hw hm) (by decide) rfl rfl, nilz⟩)⟩)⟩)⟩)
set_option maxRecDepth 100000 in
theorem zk_1044 : zmeth zKS zuq zNS zm_1044 4000 = true := zqF (zdt_X6_number) (by decide +kernel)
theorem zM_1044 {l : Launch} {D : va_G} {cI cZ cB cJ cR : ClassId} {ks ad : List Nat} {Psi : va_W → Prop} (hw : zworld ks ad zuq zNS Psi) (hm : zMan l D cI cZ cB cJ cR ks ad Psi) : zMet l D cI cZ cB cJ cR zKS ks ad Psi yX6_number (.code yX6_number cX6_number 4 (some .int)) 2 zc_1044 :=
  zmet_of hw 2 (by decide) 4000 zk_1044 (by decide) (by decide) (fun X => ⟨zg_RX6 X, zp_RX6 X, zl1_RX6 X, zl2_RX6 X, nilz, (List.forall_mem_cons.mpr ⟨zq_RX6_76 X (zM_921 hw hm) (by decide) rfl, (List.forall_mem_cons.mpr ⟨zq_RX6_133 X (zM_1042 hw hm) (by decide) rfl rfl, (List.forall_mem_cons.mpr ⟨zq_RX6_139 X (zM_880 hw hm) (by decide) rfl rfl, nilz⟩)⟩)⟩)⟩)
set_option maxRecDepth 100000 in
theorem zk_1045 : zmeth zKS zuq zNS zm_1045 4000 = true := zqF (zdt_X6_number) (by decide +kernel)
theorem zM_1045 {l : Launch} {D : va_G} {cI cZ cB cJ cR : ClassId} {ks ad : List Nat} {Psi : va_W → Prop} (hw : zworld ks ad zuq zNS Psi) (hm : zMan l D cI cZ cB cJ cR ks ad Psi) : zMet l D cI cZ cB cJ cR zKS ks ad Psi yX6_number (.code yX6_number cX6_number 4 (some .int)) 2 zc_1045 :=
  zmet_of hw 2 (by decide) 4000 zk_1045 (by decide) (by decide) (fun X => ⟨zg_RX6 X, zp_RX6 X, zl1_RX6 X, zl2_RX6 X, nilz, (List.forall_mem_cons.mpr ⟨zq_RX6_76 X (zM_922 hw hm) (by decide) rfl, (List.forall_mem_cons.mpr ⟨zq_RX6_133 X (zM_1042 hw hm) (by decide) rfl rfl, (List.forall_mem_cons.mpr ⟨zq_RX6_139 X (zM_880 hw hm) (by decide) rfl rfl, nilz⟩)⟩)⟩)⟩)
set_option maxRecDepth 100000 in
theorem zk_1046 : zmeth zKS zuq zNS zm_1046 4000 = true := zqF (zdt_X6_number) (by decide +kernel)
theorem zM_1046 {l : Launch} {D : va_G} {cI cZ cB cJ cR : ClassId} {ks ad : List Nat} {Psi : va_W → Prop} (hw : zworld ks ad zuq zNS Psi) (hm : zMan l D cI cZ cB cJ cR ks ad Psi) : zMet l D cI cZ cB cJ cR zKS ks ad Psi yX6_number (.code yX6_number cX6_number 4 (some .int)) 2 zc_1046 :=
  zmet_of hw 2 (by decide) 4000 zk_1046 (by decide) (by decide) (fun X => ⟨zg_RX6 X, zp_RX6 X, zl1_RX6 X, zl2_RX6 X, nilz, (List.forall_mem_cons.mpr ⟨zq_RX6_76 X (zM_905 hw hm) (by decide) rfl, (List.forall_mem_cons.mpr ⟨zq_RX6_133 X (zM_1042 hw hm) (by decide) rfl rfl, (List.forall_mem_cons.mpr ⟨zq_RX6_139 X (zM_880 hw hm) (by decide) rfl rfl, nilz⟩)⟩)⟩)⟩)
set_option maxRecDepth 100000 in
theorem zk_1047 : zmeth zKS zuq zNS zm_1047 4000 = true := zqF (zdt_X6_number) (by decide +kernel)
theorem zM_1047 {l : Launch} {D : va_G} {cI cZ cB cJ cR : ClassId} {ks ad : List Nat} {Psi : va_W → Prop} (hw : zworld ks ad zuq zNS Psi) (hm : zMan l D cI cZ cB cJ cR ks ad Psi) : zMet l D cI cZ cB cJ cR zKS ks ad Psi yX6_number (.code yX6_number cX6_number 4 (some .int)) 2 zc_1047 :=
  zmet_of hw 2 (by decide) 4000 zk_1047 (by decide) (by decide) (fun X => ⟨zg_RX6 X, zp_RX6 X, zl1_RX6 X, zl2_RX6 X, nilz, (List.forall_mem_cons.mpr ⟨zq_RX6_76 X (zM_907 hw hm) (by decide) rfl, (List.forall_mem_cons.mpr ⟨zq_RX6_133 X (zM_1042 hw hm) (by decide) rfl rfl, (List.forall_mem_cons.mpr ⟨zq_RX6_139 X (zM_880 hw hm) (by decide) rfl rfl, nilz⟩)⟩)⟩)⟩)
set_option maxRecDepth 100000 in
theorem zk_1048 : zmeth zKS zuq zNS zm_1048 4000 = true := zqF (zdt_X6_number) (by decide +kernel)
theorem zM_1048 {l : Launch} {D : va_G} {cI cZ cB cJ cR : ClassId} {ks ad : List Nat} {Psi : va_W → Prop} (hw : zworld ks ad zuq zNS Psi) (hm : zMan l D cI cZ cB cJ cR ks ad Psi) : zMet l D cI cZ cB cJ cR zKS ks ad Psi yX6_number (.code yX6_number cX6_number 4 (some .int)) 2 zc_1048 :=
  zmet_of hw 2 (by decide) 4000 zk_1048 (by decide) (by decide) (fun X => ⟨zg_RX6 X, zp_RX6 X, zl1_RX6 X, zl2_RX6 X, nilz, (List.forall_mem_cons.mpr ⟨zq_RX6_76 X (zM_911 hw hm) (by decide) rfl, (List.forall_mem_cons.mpr ⟨zq_RX6_133 X (zM_1042 hw hm) (by decide) rfl rfl, (List.forall_mem_cons.mpr ⟨zq_RX6_139 X (zM_880 hw hm) (by decide) rfl rfl, nilz⟩)⟩)⟩)⟩)
set_option maxRecDepth 100000 in
theorem zk_1049 : zmeth zKS zuq zNS zm_1049 4000 = true := zqF (zdt_X6_number) (by decide +kernel)
theorem zM_1049 {l : Launch} {D : va_G} {cI cZ cB cJ cR : ClassId} {ks ad : List Nat} {Psi : va_W → Prop} (hw : zworld ks ad zuq zNS Psi) (hm : zMan l D cI cZ cB cJ cR ks ad Psi) : zMet l D cI cZ cB cJ cR zKS ks ad Psi yX6_number (.code yX6_number cX6_number 4 (some .int)) 2 zc_1049 :=
  zmet_of hw 2 (by decide) 4000 zk_1049 (by decide) (by decide) (fun X => ⟨zg_RX6 X, zp_RX6 X, zl1_RX6 X, zl2_RX6 X, nilz, (List.forall_mem_cons.mpr ⟨zq_RX6_76 X (zM_913 hw hm) (by decide) rfl, (List.forall_mem_cons.mpr ⟨zq_RX6_133 X (zM_1042 hw hm) (by decide) rfl rfl, (List.forall_mem_cons.mpr ⟨zq_RX6_139 X (zM_880 hw hm) (by decide) rfl rfl, nilz⟩)⟩)⟩)⟩)
set_option maxRecDepth 100000 in
theorem zk_1050 : zmeth zKS zuq zNS zm_1050 4000 = true := zqF (zdt_X6_number) (by decide +kernel)
theorem zM_1050 {l : Launch} {D : va_G} {cI cZ cB cJ cR : ClassId} {ks ad : List Nat} {Psi : va_W → Prop} (hw : zworld ks ad zuq zNS Psi) (hm : zMan l D cI cZ cB cJ cR ks ad Psi) : zMet l D cI cZ cB cJ cR zKS ks ad Psi yX6_number (.code yX6_number cX6_number 4 (some .int)) 2 zc_1050 :=
  zmet_of hw 2 (by decide) 4000 zk_1050 (by decide) (by decide) (fun X => ⟨zg_RX6 X, zp_RX6 X, zl1_RX6 X, zl2_RX6 X, nilz, (List.forall_mem_cons.mpr ⟨zq_RX6_76 X (zM_914 hw hm) (by decide) rfl, (List.forall_mem_cons.mpr ⟨zq_RX6_133 X (zM_1042 hw hm) (by decide) rfl rfl, (List.forall_mem_cons.mpr ⟨zq_RX6_139 X (zM_880 hw hm) (by decide) rfl rfl, nilz⟩)⟩)⟩)⟩)
set_option maxRecDepth 100000 in
theorem zk_1051 : zmeth zKS zuq zNS zm_1051 4000 = true := zqF (zdt_X6_number) (by decide +kernel)
theorem zM_1051 {l : Launch} {D : va_G} {cI cZ cB cJ cR : ClassId} {ks ad : List Nat} {Psi : va_W → Prop} (hw : zworld ks ad zuq zNS Psi) (hm : zMan l D cI cZ cB cJ cR ks ad Psi) : zMet l D cI cZ cB cJ cR zKS ks ad Psi yX6_number (.code yX6_number cX6_number 4 (some .int)) 2 zc_1051 :=
  zmet_of hw 2 (by decide) 4000 zk_1051 (by decide) (by decide) (fun X => ⟨zg_RX6 X, zp_RX6 X, zl1_RX6 X, zl2_RX6 X, nilz, (List.forall_mem_cons.mpr ⟨zq_RX6_76 X (zM_916 hw hm) (by decide) rfl, (List.forall_mem_cons.mpr ⟨zq_RX6_133 X (zM_1042 hw hm) (by decide) rfl rfl, (List.forall_mem_cons.mpr ⟨zq_RX6_139 X (zM_880 hw hm) (by decide) rfl rfl, nilz⟩)⟩)⟩)⟩)
set_option maxRecDepth 100000 in
theorem zk_1052 : zmeth zKS zuq zNS zm_1052 4000 = true := zqF (zdt_X6_number) (by decide +kernel)
theorem zM_1052 {l : Launch} {D : va_G} {cI cZ cB cJ cR : ClassId} {ks ad : List Nat} {Psi : va_W → Prop} (hw : zworld ks ad zuq zNS Psi) (hm : zMan l D cI cZ cB cJ cR ks ad Psi) : zMet l D cI cZ cB cJ cR zKS ks ad Psi yX6_number (.code yX6_number cX6_number 4 (some .int)) 2 zc_1052 :=
  zmet_of hw 2 (by decide) 4000 zk_1052 (by decide) (by decide) (fun X => ⟨zg_RX6 X, zp_RX6 X, zl1_RX6 X, zl2_RX6 X, nilz, (List.forall_mem_cons.mpr ⟨zq_RX6_76 X (zM_918 hw hm) (by decide) rfl, (List.forall_mem_cons.mpr ⟨zq_RX6_133 X (zM_1042 hw hm) (by decide) rfl rfl, (List.forall_mem_cons.mpr ⟨zq_RX6_139 X (zM_880 hw hm) (by decide) rfl rfl, nilz⟩)⟩)⟩)⟩)
set_option maxRecDepth 100000 in
theorem zk_1053 : zmeth zKS zuq zNS zm_1053 4000 = true := zqF (zdt_X6_number) (by decide +kernel)
theorem zM_1053 {l : Launch} {D : va_G} {cI cZ cB cJ cR : ClassId} {ks ad : List Nat} {Psi : va_W → Prop} (hw : zworld ks ad zuq zNS Psi) (hm : zMan l D cI cZ cB cJ cR ks ad Psi) : zMet l D cI cZ cB cJ cR zKS ks ad Psi yX6_number (.code yX6_number cX6_number 4 (some .int)) 2 zc_1053 :=
  zmet_of hw 2 (by decide) 4000 zk_1053 (by decide) (by decide) (fun X => ⟨zg_RX6 X, zp_RX6 X, zl1_RX6 X, zl2_RX6 X, nilz, (List.forall_mem_cons.mpr ⟨zq_RX6_76 X (zM_919 hw hm) (by decide) rfl, (List.forall_mem_cons.mpr ⟨zq_RX6_133 X (zM_1042 hw hm) (by decide) rfl rfl, (List.forall_mem_cons.mpr ⟨zq_RX6_139 X (zM_880 hw hm) (by decide) rfl rfl, nilz⟩)⟩)⟩)⟩)
set_option maxRecDepth 100000 in
theorem zk_1117 : zmeth zKS zuq zNS zm_1117 4000 = true := zqF (zdt_X6_row) (by decide +kernel)
theorem zM_1117 {l : Launch} {D : va_G} {cI cZ cB cJ cR : ClassId} {ks ad : List Nat} {Psi : va_W → Prop} (hw : zworld ks ad zuq zNS Psi) (hm : zMan l D cI cZ cB cJ cR ks ad Psi) : zMet l D cI cZ cB cJ cR zKS ks ad Psi yX6_row (.code yX6_row cX6_row 5 (some .int)) 2 zc_1117 :=
  zmet_of hw 2 (by decide) 4000 zk_1117 (by decide) (by decide) (fun X => ⟨zg_RX6 X, zp_RX6 X, zl1_RX6 X, zl2_RX6 X, nilz, (List.forall_mem_cons.mpr ⟨zq_RX6_76 X (zM_910 hw hm) (by decide) rfl, (List.forall_mem_cons.mpr ⟨zq_RX6_80 X (zM_939 hw hm) (by decide) rfl, nilz⟩)⟩)⟩)
