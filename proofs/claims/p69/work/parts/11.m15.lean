set_option maxRecDepth 100000 in
theorem zk_774_0 : zm1 zKS zuq zNS zm_774 4000 zt_774_0 = true := z1F (zdt_X5_refuseDeeds) (by decide +kernel)
set_option maxRecDepth 100000 in
theorem zk_774_1 : zm1 zKS zuq zNS zm_774 4000 zt_774_1 = true := z1F (zdt_X5_refuseDeeds) (by decide +kernel)
set_option maxRecDepth 100000 in
theorem zk_774_2 : zm1 zKS zuq zNS zm_774 4000 zt_774_2 = true := z1F (zdt_X5_refuseDeeds) (by decide +kernel)
set_option maxRecDepth 100000 in
theorem zk_774_3 : zm1 zKS zuq zNS zm_774 4000 zt_774_3 = true := z1F (zdt_X5_refuseDeeds) (by decide +kernel)
set_option maxRecDepth 100000 in
theorem zk_774_4 : zm1 zKS zuq zNS zm_774 4000 zt_774_4 = true := z1F (zdt_X5_refuseDeeds) (by decide +kernel)
set_option maxRecDepth 100000 in
theorem zk_774_5 : zm1 zKS zuq zNS zm_774 4000 zt_774_5 = true := z1F (zdt_X5_refuseDeeds) (by decide +kernel)
set_option maxRecDepth 100000 in
theorem zk_774_6 : zm1 zKS zuq zNS zm_774 4000 zt_774_6 = true := z1F (zdt_X5_refuseDeeds) (by decide +kernel)
set_option maxRecDepth 100000 in
theorem zk_774_7 : zm1 zKS zuq zNS zm_774 4000 zt_774_7 = true := z1F (zdt_X5_refuseDeeds) (by decide +kernel)
set_option maxRecDepth 100000 in
theorem zk_774_8 : zm1 zKS zuq zNS zm_774 4000 zt_774_8 = true := z1F (zdt_X5_refuseDeeds) (by decide +kernel)
set_option maxRecDepth 100000 in
theorem zk_774_9 : zm1 zKS zuq zNS zm_774 4000 zt_774_9 = true := z1F (zdt_X5_refuseDeeds) (by decide +kernel)
set_option maxRecDepth 100000 in
theorem zk_774_10 : zm1 zKS zuq zNS zm_774 4000 zt_774_10 = true := z1F (zdt_X5_refuseDeeds) (by decide +kernel)
set_option maxRecDepth 100000 in
theorem zk_774_11 : zm1 zKS zuq zNS zm_774 4000 zt_774_11 = true := z1F (zdt_X5_refuseDeeds) (by decide +kernel)
set_option maxRecDepth 100000 in
theorem zk_774_12 : zm1 zKS zuq zNS zm_774 4000 zt_774_12 = true := z1F (zdt_X5_refuseDeeds) (by decide +kernel)
set_option maxRecDepth 100000 in
theorem zk_774_13 : zm1 zKS zuq zNS zm_774 4000 zt_774_13 = true := z1F (zdt_X5_refuseDeeds) (by decide +kernel)
set_option maxRecDepth 100000 in
theorem zk_774_14 : zm1 zKS zuq zNS zm_774 4000 zt_774_14 = true := z1F (zdt_X5_refuseDeeds) (by decide +kernel)
set_option maxRecDepth 100000 in
theorem zk_774_15 : zm1 zKS zuq zNS zm_774 4000 zt_774_15 = true := z1F (zdt_X5_refuseDeeds) (by decide +kernel)
set_option maxRecDepth 100000 in
theorem zk_774_16 : zm1 zKS zuq zNS zm_774 4000 zt_774_16 = true := z1F (zdt_X5_refuseDeeds) (by decide +kernel)
set_option maxRecDepth 100000 in
theorem zk_774_17 : zm1 zKS zuq zNS zm_774 4000 zt_774_17 = true := z1F (zdt_X5_refuseDeeds) (by decide +kernel)
set_option maxRecDepth 100000 in
theorem zk_774_18 : zm1 zKS zuq zNS zm_774 4000 zt_774_18 = true := z1F (zdt_X5_refuseDeeds) (by decide +kernel)
set_option maxRecDepth 100000 in
theorem zk_774_19 : zm1 zKS zuq zNS zm_774 4000 zt_774_19 = true := z1F (zdt_X5_refuseDeeds) (by decide +kernel)
set_option maxRecDepth 100000 in
theorem zk_774_20 : zm1 zKS zuq zNS zm_774 4000 zt_774_20 = true := z1F (zdt_X5_refuseDeeds) (by decide +kernel)
set_option maxRecDepth 100000 in
theorem zk_774_21 : zm1 zKS zuq zNS zm_774 4000 zt_774_21 = true := z1F (zdt_X5_refuseDeeds) (by decide +kernel)
set_option maxRecDepth 100000 in
theorem zk_774_22 : zm1 zKS zuq zNS zm_774 4000 zt_774_22 = true := z1F (zdt_X5_refuseDeeds) (by decide +kernel)
set_option maxRecDepth 100000 in
theorem zk_774_23 : zm1 zKS zuq zNS zm_774 4000 zt_774_23 = true := z1F (zdt_X5_refuseDeeds) (by decide +kernel)
set_option maxRecDepth 100000 in
theorem zk_774_24 : zm1 zKS zuq zNS zm_774 4000 zt_774_24 = true := z1F (zdt_X5_refuseDeeds) (by decide +kernel)
set_option maxRecDepth 100000 in
theorem zk_774_25 : zm1 zKS zuq zNS zm_774 4000 zt_774_25 = true := z1F (zdt_X5_refuseDeeds) (by decide +kernel)
set_option maxRecDepth 100000 in
theorem zk_774_26 : zm1 zKS zuq zNS zm_774 4000 zt_774_26 = true := z1F (zdt_X5_refuseDeeds) (by decide +kernel)
set_option maxRecDepth 100000 in
theorem zk_774_27 : zm1 zKS zuq zNS zm_774 4000 zt_774_27 = true := z1F (zdt_X5_refuseDeeds) (by decide +kernel)
set_option maxRecDepth 100000 in
theorem zk_774_28 : zm1 zKS zuq zNS zm_774 4000 zt_774_28 = true := z1F (zdt_X5_refuseDeeds) (by decide +kernel)
set_option maxRecDepth 100000 in
theorem zk_774_29 : zm1 zKS zuq zNS zm_774 4000 zt_774_29 = true := z1F (zdt_X5_refuseDeeds) (by decide +kernel)
set_option maxRecDepth 100000 in
theorem zk_774_30 : zm1 zKS zuq zNS zm_774 4000 zt_774_30 = true := z1F (zdt_X5_refuseDeeds) (by decide +kernel)
set_option maxRecDepth 100000 in
theorem zk_774_s : zm0 zKS zuq zNS zm_774 4000 = true := z0F (zdt_X5_refuseDeeds) (by decide +kernel)
set_option maxRecDepth 100000 in
theorem zk_774 : zmeth zKS zuq zNS zm_774 4000 = true := zmeth_by zk_774_s (List.forall_mem_cons.mpr ⟨zk_774_0, (List.forall_mem_cons.mpr ⟨zk_774_1, (List.forall_mem_cons.mpr ⟨zk_774_2, (List.forall_mem_cons.mpr ⟨zk_774_3, (List.forall_mem_cons.mpr ⟨zk_774_4, (List.forall_mem_cons.mpr ⟨zk_774_5, (List.forall_mem_cons.mpr ⟨zk_774_6, (List.forall_mem_cons.mpr ⟨zk_774_7, (List.forall_mem_cons.mpr ⟨zk_774_8, (List.forall_mem_cons.mpr ⟨zk_774_9, (List.forall_mem_cons.mpr ⟨zk_774_10, (List.forall_mem_cons.mpr ⟨zk_774_11, (List.forall_mem_cons.mpr ⟨zk_774_12, (List.forall_mem_cons.mpr ⟨zk_774_13, (List.forall_mem_cons.mpr ⟨zk_774_14, (List.forall_mem_cons.mpr ⟨zk_774_15, (List.forall_mem_cons.mpr ⟨zk_774_16, (List.forall_mem_cons.mpr ⟨zk_774_17, (List.forall_mem_cons.mpr ⟨zk_774_18, (List.forall_mem_cons.mpr ⟨zk_774_19, (List.forall_mem_cons.mpr ⟨zk_774_20, (List.forall_mem_cons.mpr ⟨zk_774_21, (List.forall_mem_cons.mpr ⟨zk_774_22, (List.forall_mem_cons.mpr ⟨zk_774_23, (List.forall_mem_cons.mpr ⟨zk_774_24, (List.forall_mem_cons.mpr ⟨zk_774_25, (List.forall_mem_cons.mpr ⟨zk_774_26, (List.forall_mem_cons.mpr ⟨zk_774_27, (List.forall_mem_cons.mpr ⟨zk_774_28, (List.forall_mem_cons.mpr ⟨zk_774_29, (List.forall_mem_cons.mpr ⟨zk_774_30, nilz⟩)⟩)⟩)⟩)⟩)⟩)⟩)⟩)⟩)⟩)⟩)⟩)⟩)⟩)⟩)⟩)⟩)⟩)⟩)⟩)⟩)⟩)⟩)⟩)⟩)⟩)⟩)⟩)⟩)⟩)⟩)
set_option maxRecDepth 100000 in
theorem zM_774 {l : Launch} {D : va_G} {cI cZ cB cJ cR : ClassId} {ks ad : List Nat} {Psi : va_W → Prop} (hw : zworld ks ad zuq zNS Psi) (hm : zMan l D cI cZ cB cJ cR ks ad Psi) : zMet l D cI cZ cB cJ cR zKS ks ad Psi yX5_refuseDeeds (.code yX5_refuseDeeds cX5_refuseDeeds 4 (some .int)) 2 zc_774 :=
  zmet_of hw 2 (by decide) 4000 zk_774 (by decide) (by decide) (fun X => ⟨zg_RX5 X, zp_RX5 X, zl1_RX5 X, zl2_RX5 X, nilz, (List.forall_mem_cons.mpr ⟨zq_RX5_87 X (zM_301 hw hm) (by decide) rfl rfl, (List.forall_mem_cons.mpr ⟨zq_RX5_186 X (zM_304 hw hm) (by decide) rfl rfl, (List.forall_mem_cons.mpr ⟨zq_RX5_239 X (zM_540 hw hm) (by decide) rfl rfl, (List.forall_mem_cons.mpr ⟨zq_RX5_239 X (zM_541 hw hm) (by decide) rfl rfl, (List.forall_mem_cons.mpr ⟨zq_RX5_239 X (zM_542 hw hm) (by decide) rfl rfl, (List.forall_mem_cons.mpr ⟨zq_RX5_239 X (zM_543 hw hm) (by decide) rfl rfl, (List.forall_mem_cons.mpr ⟨zq_RX5_239 X (zM_544 hw hm) (by decide) rfl rfl, (List.forall_mem_cons.mpr ⟨zq_RX5_239 X (zM_545 hw hm) (by decide) rfl rfl, (List.forall_mem_cons.mpr ⟨zq_RX5_239 X (zM_546 hw hm) (by decide) rfl rfl, (List.forall_mem_cons.mpr ⟨zq_RX5_239 X (zM_547 hw hm) (by decide) rfl rfl, (List.forall_mem_cons.mpr ⟨zq_RX5_239 X (zM_548 hw hm) (by decide) rfl rfl, (List.forall_mem_cons.mpr ⟨zq_RX5_239 X (zM_549 hw hm) (by decide) rfl rfl, (List.forall_mem_cons.mpr ⟨zq_RX5_239 X (zM_550 hw hm) (by decide) rfl rfl, (List.forall_mem_cons.mpr ⟨zq_RX5_239 X (zM_551 hw hm) (by decide) rfl rfl, (List.forall_mem_cons.mpr ⟨zq_RX5_239 X (zM_552 hw hm) (by decide) rfl rfl, (List.forall_mem_cons.mpr ⟨zq_RX5_239 X (zM_553 hw hm) (by decide) rfl rfl, (List.forall_mem_cons.mpr ⟨zq_RX5_239 X (zM_554 hw hm) (by decide) rfl rfl, (List.forall_mem_cons.mpr ⟨zq_RX5_239 X (zM_555 hw hm) (by decide) rfl rfl, (List.forall_mem_cons.mpr ⟨zq_RX5_239 X (zM_556 hw hm) (by decide) rfl rfl, (List.forall_mem_cons.mpr ⟨zq_RX5_239 X (zM_557 hw hm) (by decide) rfl rfl, (List.forall_mem_cons.mpr ⟨zq_RX5_239 X (zM_558 hw hm) (by decide) rfl rfl, (List.forall_mem_cons.mpr ⟨zq_RX5_239 X (zM_559 hw hm) (by decide) rfl rfl, (List.forall_mem_cons.mpr ⟨zq_RX5_239 X (zM_560 hw hm) (by decide) rfl rfl, (List.forall_mem_cons.mpr ⟨zq_RX5_239 X (zM_561 hw hm) (by decide) rfl rfl, (List.forall_mem_cons.mpr ⟨zq_RX5_239 X (zM_562 hw hm) (by decide) rfl rfl, (List.forall_mem_cons.mpr ⟨zq_RX5_239 X (zM_563 hw hm) (by decide) rfl rfl, (List.forall_mem_cons.mpr ⟨zq_RX5_239 X (zM_564 hw hm) (by decide) rfl rfl, (List.forall_mem_cons.mpr ⟨zq_RX5_239 X (zM_565 hw hm) (by decide) rfl rfl, (List.forall_mem_cons.mpr ⟨zq_RX5_239 X (zM_566 hw hm) (by decide) rfl rfl, (List.forall_mem_cons.mpr ⟨zq_RX5_239 X (zM_567 hw hm) (by decide) rfl rfl, (List.forall_mem_cons.mpr ⟨zq_RX5_239 X (zM_568 hw hm) (by decide) rfl rfl, (List.forall_mem_cons.mpr ⟨zq_RX5_239 X (zM_569 hw hm) (by decide) rfl rfl, (List.forall_mem_cons.mpr ⟨zq_RX5_239 X (zM_570 hw hm) (by decide) rfl rfl, (List.forall_mem_cons.mpr ⟨zq_RX5_239 X (zM_571 hw hm) (by decide) rfl rfl, (List.forall_mem_cons.mpr ⟨zq_RX5_239 X (zM_572 hw hm) (by decide) rfl rfl, (List.forall_mem_cons.mpr ⟨zq_RX5_239 X (zM_573 hw hm) (by decide) rfl rfl, (List.forall_mem_cons.mpr ⟨zq_RX5_239 X (zM_574 hw hm) (by decide) rfl rfl, (List.forall_mem_cons.mpr ⟨zq_RX5_239 X (zM_575 hw hm) (by decide) rfl rfl, (List.forall_mem_cons.mpr ⟨zq_RX5_239 X (zM_576 hw hm) (by decide) rfl rfl, (List.forall_mem_cons.mpr ⟨zq_RX5_239 X (zM_577 hw hm) (by decide) rfl rfl, (List.forall_mem_cons.mpr ⟨zq_RX5_239 X (zM_578 hw hm) (by decide) rfl rfl, (List.forall_mem_cons.mpr ⟨zq_RX5_239 X (zM_579 hw hm) (by decide) rfl rfl, (List.forall_mem_cons.mpr ⟨zq_RX5_239 X (zM_580 hw hm) (by decide) rfl rfl, (List.forall_mem_cons.mpr ⟨zq_RX5_239 X (zM_581 hw hm) (by decide) rfl rfl, (List.forall_mem_cons.mpr ⟨zq_RX5_239 X (zM_582 hw hm) (by decide) rfl rfl, (List.forall_mem_cons.mpr ⟨zq_RX5_239 X (zM_583 hw hm) (by decide) rfl rfl, (List.forall_mem_cons.mpr ⟨zq_RX5_239 X (zM_584 hw hm) (by decide) rfl rfl, (List.forall_mem_cons.mpr ⟨zq_RX5_239 X (zM_585 hw hm) (by decide) rfl rfl, (List.forall_mem_cons.mpr ⟨zq_RX5_239 X (zM_586 hw hm) (by decide) rfl rfl, (List.forall_mem_cons.mpr ⟨zq_RX5_239 X (zM_587 hw hm) (by decide) rfl rfl, (List.forall_mem_cons.mpr ⟨zq_RX5_239 X (zM_588 hw hm) (by decide) rfl rfl, (List.forall_mem_cons.mpr ⟨zq_RX5_239 X (zM_589 hw hm) (by decide) rfl rfl, (List.forall_mem_cons.mpr ⟨zq_RX5_239 X (zM_590 hw hm) (by decide) rfl rfl, (List.forall_mem_cons.mpr ⟨zq_RX5_239 X (zM_591 hw hm) (by decide) rfl rfl, (List.forall_mem_cons.mpr ⟨zq_RX5_239 X (zM_592 hw hm) (by decide) rfl rfl, (List.forall_mem_cons.mpr ⟨zq_RX5_239 X (zM_593 hw hm) (by decide) rfl rfl, (List.forall_mem_cons.mpr ⟨zq_RX5_239 X (zM_594 hw hm) (by decide) rfl rfl, (List.forall_mem_cons.mpr ⟨zq_RX5_239 X (zM_595 hw hm) (by decide) rfl rfl, (List.forall_mem_cons.mpr ⟨zq_RX5_239 X (zM_596 hw hm) (by decide) rfl rfl, (List.forall_mem_cons.mpr ⟨zq_RX5_239 X (zM_597 hw hm) (by decide) rfl rfl, (List.forall_mem_cons.mpr ⟨zq_RX5_239 X (zM_598 hw hm) (by decide) rfl rfl, (List.forall_mem_cons.mpr ⟨zq_RX5_239 X (zM_599 hw hm) (by decide) rfl rfl, (List.forall_mem_cons.mpr ⟨zq_RX5_250 X (zM_605 hw hm) (by decide) rfl rfl, (List.forall_mem_cons.mpr ⟨zq_RX5_355 X (zM_790 hw hm) (by decide) rfl rfl, nilz⟩)⟩)⟩)⟩)⟩)⟩)⟩)⟩)⟩)⟩)⟩)⟩)⟩)⟩)⟩)⟩)⟩)⟩)⟩)⟩)⟩)⟩)⟩)⟩)⟩)⟩)⟩)⟩)⟩)⟩)⟩)⟩)⟩)⟩)⟩)⟩)⟩)⟩)⟩)⟩)⟩)⟩)⟩)⟩)⟩)⟩)⟩)⟩)⟩)⟩)⟩)⟩)⟩)⟩)⟩)⟩)⟩)⟩)⟩)⟩)⟩)⟩)⟩)⟩)⟩)
set_option maxRecDepth 100000 in
theorem zk_775 : zmeth zKS zuq zNS zm_775 4000 = true := zqF (zdt_X5_refuseDeeds) (by decide +kernel)
theorem zM_775 {l : Launch} {D : va_G} {cI cZ cB cJ cR : ClassId} {ks ad : List Nat} {Psi : va_W → Prop} (hw : zworld ks ad zuq zNS Psi) (hm : zMan l D cI cZ cB cJ cR ks ad Psi) : zMet l D cI cZ cB cJ cR zKS ks ad Psi yX5_refuseDeeds (.code yX5_refuseDeeds cX5_refuseDeeds 4 (some .int)) 2 zc_775 :=
  zmet_of hw 2 (by decide) 4000 zk_775 (by decide) (by decide) (fun X => ⟨zg_RX5 X, zp_RX5 X, zl1_RX5 X, zl2_RX5 X, nilz, (List.forall_mem_cons.mpr ⟨zq_RX5_355 X (zM_792 hw hm) (by decide) rfl rfl, nilz⟩)⟩)
set_option maxRecDepth 100000 in
theorem zk_776 : zmeth zKS zuq zNS zm_776 4000 = true := zqF (zdt_X5_refuseOaths) (by decide +kernel)
theorem zM_776 {l : Launch} {D : va_G} {cI cZ cB cJ cR : ClassId} {ks ad : List Nat} {Psi : va_W → Prop} (hw : zworld ks ad zuq zNS Psi) (hm : zMan l D cI cZ cB cJ cR ks ad Psi) : zMet l D cI cZ cB cJ cR zKS ks ad Psi yX5_refuseOaths (.code yX5_refuseOaths cX5_refuseOaths 4 (some .int)) 2 zc_776 :=
  zmet_of hw 2 (by decide) 4000 zk_776 (by decide) (by decide) (fun X => ⟨zg_RX5 X, zp_RX5 X, zl1_RX5 X, zl2_RX5 X, nilz, (List.forall_mem_cons.mpr ⟨zq_RX5_355 X (zM_783 hw hm) (by decide) rfl rfl, nilz⟩)⟩)
