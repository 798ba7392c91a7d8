set_option maxRecDepth 100000 in
theorem zk_770_0 : zm1 zKS zuq zNS zm_770 4000 zt_770_0 = true := z1F (zdt_X5_refuseDeeds) (by decide +kernel)
set_option maxRecDepth 100000 in
theorem zk_770_1 : zm1 zKS zuq zNS zm_770 4000 zt_770_1 = true := z1F (zdt_X5_refuseDeeds) (by decide +kernel)
set_option maxRecDepth 100000 in
theorem zk_770_2 : zm1 zKS zuq zNS zm_770 4000 zt_770_2 = true := z1F (zdt_X5_refuseDeeds) (by decide +kernel)
set_option maxRecDepth 100000 in
theorem zk_770_3 : zm1 zKS zuq zNS zm_770 4000 zt_770_3 = true := z1F (zdt_X5_refuseDeeds) (by decide +kernel)
set_option maxRecDepth 100000 in
theorem zk_770_4 : zm1 zKS zuq zNS zm_770 4000 zt_770_4 = true := z1F (zdt_X5_refuseDeeds) (by decide +kernel)
set_option maxRecDepth 100000 in
theorem zk_770_5 : zm1 zKS zuq zNS zm_770 4000 zt_770_5 = true := z1F (zdt_X5_refuseDeeds) (by decide +kernel)
set_option maxRecDepth 100000 in
theorem zk_770_6 : zm1 zKS zuq zNS zm_770 4000 zt_770_6 = true := z1F (zdt_X5_refuseDeeds) (by decide +kernel)
set_option maxRecDepth 100000 in
theorem zk_770_7 : zm1 zKS zuq zNS zm_770 4000 zt_770_7 = true := z1F (zdt_X5_refuseDeeds) (by decide +kernel)
set_option maxRecDepth 100000 in
theorem zk_770_8 : zm1 zKS zuq zNS zm_770 4000 zt_770_8 = true := z1F (zdt_X5_refuseDeeds) (by decide +kernel)
set_option maxRecDepth 100000 in
theorem zk_770_9 : zm1 zKS zuq zNS zm_770 4000 zt_770_9 = true := z1F (zdt_X5_refuseDeeds) (by decide +kernel)
set_option maxRecDepth 100000 in
theorem zk_770_10 : zm1 zKS zuq zNS zm_770 4000 zt_770_10 = true := z1F (zdt_X5_refuseDeeds) (by decide +kernel)
set_option maxRecDepth 100000 in
theorem zk_770_11 : zm1 zKS zuq zNS zm_770 4000 zt_770_11 = true := z1F (zdt_X5_refuseDeeds) (by decide +kernel)
set_option maxRecDepth 100000 in
theorem zk_770_12 : zm1 zKS zuq zNS zm_770 4000 zt_770_12 = true := z1F (zdt_X5_refuseDeeds) (by decide +kernel)
set_option maxRecDepth 100000 in
theorem zk_770_13 : zm1 zKS zuq zNS zm_770 4000 zt_770_13 = true := z1F (zdt_X5_refuseDeeds) (by decide +kernel)
set_option maxRecDepth 100000 in
theorem zk_770_14 : zm1 zKS zuq zNS zm_770 4000 zt_770_14 = true := z1F (zdt_X5_refuseDeeds) (by decide +kernel)
set_option maxRecDepth 100000 in
theorem zk_770_15 : zm1 zKS zuq zNS zm_770 4000 zt_770_15 = true := z1F (zdt_X5_refuseDeeds) (by decide +kernel)
set_option maxRecDepth 100000 in
theorem zk_770_16 : zm1 zKS zuq zNS zm_770 4000 zt_770_16 = true := z1F (zdt_X5_refuseDeeds) (by decide +kernel)
set_option maxRecDepth 100000 in
theorem zk_770_17 : zm1 zKS zuq zNS zm_770 4000 zt_770_17 = true := z1F (zdt_X5_refuseDeeds) (by decide +kernel)
set_option maxRecDepth 100000 in
theorem zk_770_18 : zm1 zKS zuq zNS zm_770 4000 zt_770_18 = true := z1F (zdt_X5_refuseDeeds) (by decide +kernel)
set_option maxRecDepth 100000 in
theorem zk_770_19 : zm1 zKS zuq zNS zm_770 4000 zt_770_19 = true := z1F (zdt_X5_refuseDeeds) (by decide +kernel)
set_option maxRecDepth 100000 in
theorem zk_770_20 : zm1 zKS zuq zNS zm_770 4000 zt_770_20 = true := z1F (zdt_X5_refuseDeeds) (by decide +kernel)
set_option maxRecDepth 100000 in
theorem zk_770_21 : zm1 zKS zuq zNS zm_770 4000 zt_770_21 = true := z1F (zdt_X5_refuseDeeds) (by decide +kernel)
set_option maxRecDepth 100000 in
theorem zk_770_22 : zm1 zKS zuq zNS zm_770 4000 zt_770_22 = true := z1F (zdt_X5_refuseDeeds) (by decide +kernel)
set_option maxRecDepth 100000 in
theorem zk_770_23 : zm1 zKS zuq zNS zm_770 4000 zt_770_23 = true := z1F (zdt_X5_refuseDeeds) (by decide +kernel)
set_option maxRecDepth 100000 in
theorem zk_770_24 : zm1 zKS zuq zNS zm_770 4000 zt_770_24 = true := z1F (zdt_X5_refuseDeeds) (by decide +kernel)
set_option maxRecDepth 100000 in
theorem zk_770_25 : zm1 zKS zuq zNS zm_770 4000 zt_770_25 = true := z1F (zdt_X5_refuseDeeds) (by decide +kernel)
set_option maxRecDepth 100000 in
theorem zk_770_26 : zm1 zKS zuq zNS zm_770 4000 zt_770_26 = true := z1F (zdt_X5_refuseDeeds) (by decide +kernel)
set_option maxRecDepth 100000 in
theorem zk_770_27 : zm1 zKS zuq zNS zm_770 4000 zt_770_27 = true := z1F (zdt_X5_refuseDeeds) (by decide +kernel)
set_option maxRecDepth 100000 in
theorem zk_770_28 : zm1 zKS zuq zNS zm_770 4000 zt_770_28 = true := z1F (zdt_X5_refuseDeeds) (by decide +kernel)
set_option maxRecDepth 100000 in
theorem zk_770_29 : zm1 zKS zuq zNS zm_770 4000 zt_770_29 = true := z1F (zdt_X5_refuseDeeds) (by decide +kernel)
set_option maxRecDepth 100000 in
theorem zk_770_30 : zm1 zKS zuq zNS zm_770 4000 zt_770_30 = true := z1F (zdt_X5_refuseDeeds) (by decide +kernel)
set_option maxRecDepth 100000 in
theorem zk_770_s : zm0 zKS zuq zNS zm_770 4000 = true := z0F (zdt_X5_refuseDeeds) (by decide +kernel)
set_option maxRecDepth 100000 in
theorem zk_770 : zmeth zKS zuq zNS zm_770 4000 = true := zmeth_by zk_770_s (List.forall_mem_cons.mpr ⟨zk_770_0, (List.forall_mem_cons.mpr ⟨zk_770_1, (List.forall_mem_cons.mpr ⟨zk_770_2, (List.forall_mem_cons.mpr ⟨zk_770_3, (List.forall_mem_cons.mpr ⟨zk_770_4, (List.forall_mem_cons.mpr ⟨zk_770_5, (List.forall_mem_cons.mpr ⟨zk_770_6, (List.forall_mem_cons.mpr ⟨zk_770_7, (List.forall_mem_cons.mpr ⟨zk_770_8, (List.forall_mem_cons.mpr ⟨zk_770_9, (List.forall_mem_cons.mpr ⟨zk_770_10, (List.forall_mem_cons.mpr ⟨zk_770_11, (List.forall_mem_cons.mpr ⟨zk_770_12, (List.forall_mem_cons.mpr ⟨zk_770_13, (List.forall_mem_cons.mpr ⟨zk_770_14, (List.forall_mem_cons.mpr ⟨zk_770_15, (List.forall_mem_cons.mpr ⟨zk_770_16, (List.forall_mem_cons.mpr ⟨zk_770_17, (List.forall_mem_cons.mpr ⟨zk_770_18, (List.forall_mem_cons.mpr ⟨zk_770_19, (List.forall_mem_cons.mpr ⟨zk_770_20, (List.forall_mem_cons.mpr ⟨zk_770_21, (List.forall_mem_cons.mpr ⟨zk_770_22, (List.forall_mem_cons.mpr ⟨zk_770_23, (List.forall_mem_cons.mpr ⟨zk_770_24, (List.forall_mem_cons.mpr ⟨zk_770_25, (List.forall_mem_cons.mpr ⟨zk_770_26, (List.forall_mem_cons.mpr ⟨zk_770_27, (List.forall_mem_cons.mpr ⟨zk_770_28, (List.forall_mem_cons.mpr ⟨zk_770_29, (List.forall_mem_cons.mpr ⟨zk_770_30, nilz⟩)⟩)⟩)⟩)⟩)⟩)⟩)⟩)⟩)⟩)⟩)⟩)⟩)⟩)⟩)⟩)⟩)⟩)⟩)⟩)⟩)⟩)⟩)⟩)⟩)⟩)⟩)⟩)⟩)⟩)⟩)
set_option maxRecDepth 100000 in
theorem zM_770 {l : Launch} {D : va_G} {cI cZ cB cJ cR : ClassId} {ks ad : List Nat} {Psi : va_W → Prop} (hw : zworld ks ad zuq zNS Psi) (hm : zMan l D cI cZ cB cJ cR ks ad Psi) : zMet l D cI cZ cB cJ cR zKS ks ad Psi yX5_refuseDeeds (.code yX5_refuseDeeds cX5_refuseDeeds 4 (some .int)) 2 zc_770 :=
  zmet_of hw 2 (by decide) 4000 zk_770 (by decide) (by decide) (fun X => ⟨zg_RX5 X, zp_RX5 X, zl1_RX5 X, zl2_RX5 X, nilz, (List.forall_mem_cons.mpr ⟨zq_RX5_87 X (zM_301 hw hm) (by decide) rfl rfl, (List.forall_mem_cons.mpr ⟨zq_RX5_186 X (zM_304 hw hm) (by decide) rfl rfl, (List.forall_mem_cons.mpr ⟨zq_RX5_239 X (zM_536 hw hm) (by decide) rfl rfl, (List.forall_mem_cons.mpr ⟨zq_RX5_239 X (zM_537 hw hm) (by decide) rfl rfl, (List.forall_mem_cons.mpr ⟨zq_RX5_239 X (zM_538 hw hm) (by decide) rfl rfl, (List.forall_mem_cons.mpr ⟨zq_RX5_239 X (zM_539 hw hm) (by decide) rfl rfl, (List.forall_mem_cons.mpr ⟨zq_RX5_239 X (zM_540 hw hm) (by decide) rfl rfl, (List.forall_mem_cons.mpr ⟨zq_RX5_239 X (zM_541 hw hm) (by decide) rfl rfl, (List.forall_mem_cons.mpr ⟨zq_RX5_239 X (zM_542 hw hm) (by decide) rfl rfl, (List.forall_mem_cons.mpr ⟨zq_RX5_239 X (zM_543 hw hm) (by decide) rfl rfl, (List.forall_mem_cons.mpr ⟨zq_RX5_239 X (zM_544 hw hm) (by decide) rfl rfl, (List.forall_mem_cons.mpr ⟨zq_RX5_239 X (zM_545 hw hm) (by decide) rfl rfl, (List.forall_mem_cons.mpr ⟨zq_RX5_239 X (zM_546 hw hm) (by decide) rfl rfl, (List.forall_mem_cons.mpr ⟨zq_RX5_239 X (zM_547 hw hm) (by decide) rfl rfl, (List.forall_mem_cons.mpr ⟨zq_RX5_239 X (zM_548 hw hm) (by decide) rfl rfl, (List.forall_mem_cons.mpr ⟨zq_RX5_239 X (zM_549 hw hm) (by decide) rfl rfl, (List.forall_mem_cons.mpr ⟨zq_RX5_239 X (zM_550 hw hm) (by decide) rfl rfl, (List.forall_mem_cons.mpr ⟨zq_RX5_239 X (zM_551 hw hm) (by decide) rfl rfl, (List.forall_mem_cons.mpr ⟨zq_RX5_239 X (zM_552 hw hm) (by decide) rfl rfl, (List.forall_mem_cons.mpr ⟨zq_RX5_239 X (zM_553 hw hm) (by decide) rfl rfl, (List.forall_mem_cons.mpr ⟨zq_RX5_239 X (zM_554 hw hm) (by decide) rfl rfl, (List.forall_mem_cons.mpr ⟨zq_RX5_239 X (zM_555 hw hm) (by decide) rfl rfl, (List.forall_mem_cons.mpr ⟨zq_RX5_239 X (zM_556 hw hm) (by decide) rfl rfl, (List.forall_mem_cons.mpr ⟨zq_RX5_239 X (zM_557 hw hm) (by decide) rfl rfl, (List.forall_mem_cons.mpr ⟨zq_RX5_239 X (zM_558 hw hm) (by decide) rfl rfl, (List.forall_mem_cons.mpr ⟨zq_RX5_239 X (zM_559 hw hm) (by decide) rfl rfl, (List.forall_mem_cons.mpr ⟨zq_RX5_239 X (zM_560 hw hm) (by decide) rfl rfl, (List.forall_mem_cons.mpr ⟨zq_RX5_239 X (zM_561 hw hm) (by decide) rfl rfl, (List.forall_mem_cons.mpr ⟨zq_RX5_239 X (zM_562 hw hm) (by decide) rfl rfl, (List.forall_mem_cons.mpr ⟨zq_RX5_239 X (zM_563 hw hm) (by decide) rfl rfl, (List.forall_mem_cons.mpr ⟨zq_RX5_239 X (zM_564 hw hm) (by decide) rfl rfl, (List.forall_mem_cons.mpr ⟨zq_RX5_239 X (zM_565 hw hm) (by decide) rfl rfl, (List.forall_mem_cons.mpr ⟨zq_RX5_239 X (zM_566 hw hm) (by decide) rfl rfl, (List.forall_mem_cons.mpr ⟨zq_RX5_239 X (zM_567 hw hm) (by decide) rfl rfl, (List.forall_mem_cons.mpr ⟨zq_RX5_239 X (zM_568 hw hm) (by decide) rfl rfl, (List.forall_mem_cons.mpr ⟨zq_RX5_239 X (zM_569 hw hm) (by decide) rfl rfl, (List.forall_mem_cons.mpr ⟨zq_RX5_239 X (zM_570 hw hm) (by decide) rfl rfl, (List.forall_mem_cons.mpr ⟨zq_RX5_239 X (zM_571 hw hm) (by decide) rfl rfl, (List.forall_mem_cons.mpr ⟨zq_RX5_239 X (zM_572 hw hm) (by decide) rfl rfl, (List.forall_mem_cons.mpr ⟨zq_RX5_239 X (zM_573 hw hm) (by decide) rfl rfl, (List.forall_mem_cons.mpr ⟨zq_RX5_239 X (zM_574 hw hm) (by decide) rfl rfl, (List.forall_mem_cons.mpr ⟨zq_RX5_239 X (zM_575 hw hm) (by decide) rfl rfl, (List.forall_mem_cons.mpr ⟨zq_RX5_239 X (zM_576 hw hm) (by decide) rfl rfl, (List.forall_mem_cons.mpr ⟨zq_RX5_239 X (zM_577 hw hm) (by decide) rfl rfl, (List.forall_mem_cons.mpr ⟨zq_RX5_239 X (zM_578 hw hm) (by decide) rfl rfl, (List.forall_mem_cons.mpr ⟨zq_RX5_239 X (zM_579 hw hm) (by decide) rfl rfl, (List.forall_mem_cons.mpr ⟨zq_RX5_239 X (zM_580 hw hm) (by decide) rfl rfl, (List.forall_mem_cons.mpr ⟨zq_RX5_239 X (zM_581 hw hm) (by decide) rfl rfl, (List.forall_mem_cons.mpr ⟨zq_RX5_239 X (zM_582 hw hm) (by decide) rfl rfl, (List.forall_mem_cons.mpr ⟨zq_RX5_239 X (zM_583 hw hm) (by decide) rfl rfl, (List.forall_mem_cons.mpr ⟨zq_RX5_239 X (zM_584 hw hm) (by decide) rfl rfl, (List.forall_mem_cons.mpr ⟨zq_RX5_239 X (zM_585 hw hm) (by decide) rfl rfl, (List.forall_mem_cons.mpr ⟨zq_RX5_239 X (zM_586 hw hm) (by decide) rfl rfl, (List.forall_mem_cons.mpr ⟨zq_RX5_239 X (zM_587 hw hm) (by decide) rfl rfl, (List.forall_mem_cons.mpr ⟨zq_RX5_239 X (zM_588 hw hm) (by decide) rfl rfl, (List.forall_mem_cons.mpr ⟨zq_RX5_239 X (zM_589 hw hm) (by decide) rfl rfl, (List.forall_mem_cons.mpr ⟨zq_RX5_239 X (zM_590 hw hm) (by decide) rfl rfl, (List.forall_mem_cons.mpr ⟨zq_RX5_239 X (zM_591 hw hm) (by decide) rfl rfl, (List.forall_mem_cons.mpr ⟨zq_RX5_239 X (zM_592 hw hm) (by decide) rfl rfl, (List.forall_mem_cons.mpr ⟨zq_RX5_239 X (zM_593 hw hm) (by decide) rfl rfl, (List.forall_mem_cons.mpr ⟨zq_RX5_239 X (zM_594 hw hm) (by decide) rfl rfl, (List.forall_mem_cons.mpr ⟨zq_RX5_239 X (zM_595 hw hm) (by decide) rfl rfl, (List.forall_mem_cons.mpr ⟨zq_RX5_250 X (zM_601 hw hm) (by decide) rfl rfl, (List.forall_mem_cons.mpr ⟨zq_RX5_355 X (zM_786 hw hm) (by decide) rfl rfl, nilz⟩)⟩)⟩)⟩)⟩)⟩)⟩)⟩)⟩)⟩)⟩)⟩)⟩)⟩)⟩)⟩)⟩)⟩)⟩)⟩)⟩)⟩)⟩)⟩)⟩)⟩)⟩)⟩)⟩)⟩)⟩)⟩)⟩)⟩)⟩)⟩)⟩)⟩)⟩)⟩)⟩)⟩)⟩)⟩)⟩)⟩)⟩)⟩)⟩)⟩)⟩)⟩)⟩)⟩)⟩)⟩)⟩)⟩)⟩)⟩)⟩)⟩)⟩)⟩)⟩)
set_option maxRecDepth 100000 in
theorem zk_771 : zmeth zKS zuq zNS zm_771 4000 = true := zqF (zdt_X5_refuseDeeds) (by decide +kernel)
theorem zM_771 {l : Launch} {D : va_G} {cI cZ cB cJ cR : ClassId} {ks ad : List Nat} {Psi : va_W → Prop} (hw : zworld ks ad zuq zNS Psi) (hm : zMan l D cI cZ cB cJ cR ks ad Psi) : zMet l D cI cZ cB cJ cR zKS ks ad Psi yX5_refuseDeeds (.code yX5_refuseDeeds cX5_refuseDeeds 4 (some .int)) 2 zc_771 :=
  zmet_of hw 2 (by decide) 4000 zk_771 (by decide) (by decide) (fun X => ⟨zg_RX5 X, zp_RX5 X, zl1_RX5 X, zl2_RX5 X, nilz, (List.forall_mem_cons.mpr ⟨zq_RX5_355 X (zM_788 hw hm) (by decide) rfl rfl, nilz⟩)⟩)
set_option maxRecDepth 100000 in
theorem zk_772 : zmeth zKS zuq zNS zm_772 4000 = true := zqF (zdt_X5_refuseOaths) (by decide +kernel)
theorem zM_772 {l : Launch} {D : va_G} {cI cZ cB cJ cR : ClassId} {ks ad : List Nat} {Psi : va_W → Prop} (hw : zworld ks ad zuq zNS Psi) (hm : zMan l D cI cZ cB cJ cR ks ad Psi) : zMet l D cI cZ cB cJ cR zKS ks ad Psi yX5_refuseOaths (.code yX5_refuseOaths cX5_refuseOaths 4 (some .int)) 2 zc_772 :=
  zmet_of hw 2 (by decide) 4000 zk_772 (by decide) (by decide) (fun X => ⟨zg_RX5 X, zp_RX5 X, zl1_RX5 X, zl2_RX5 X, nilz, (List.forall_mem_cons.mpr ⟨zq_RX5_355 X (zM_779 hw hm) (by decide) rfl rfl, nilz⟩)⟩)
