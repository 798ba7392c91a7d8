set_option maxRecDepth 100000 in
theorem zk_780_0 : zm1 zKS zuq zNS zm_780 4000 zt_780_0 = true := z1F (zdt_X5_refuseOaths) (by decide +kernel)
set_option maxRecDepth 100000 in
theorem zk_780_1 : zm1 zKS zuq zNS zm_780 4000 zt_780_1 = true := z1F (zdt_X5_refuseOaths) (by decide +kernel)
set_option maxRecDepth 100000 in
theorem zk_780_2 : zm1 zKS zuq zNS zm_780 4000 zt_780_2 = true := z1F (zdt_X5_refuseOaths) (by decide +kernel)
set_option maxRecDepth 100000 in
theorem zk_780_3 : zm1 zKS zuq zNS zm_780 4000 zt_780_3 = true := z1F (zdt_X5_refuseOaths) (by decide +kernel)
set_option maxRecDepth 100000 in
theorem zk_780_4 : zm1 zKS zuq zNS zm_780 4000 zt_780_4 = true := z1F (zdt_X5_refuseOaths) (by decide +kernel)
set_option maxRecDepth 100000 in
theorem zk_780_5 : zm1 zKS zuq zNS zm_780 4000 zt_780_5 = true := z1F (zdt_X5_refuseOaths) (by decide +kernel)
set_option maxRecDepth 100000 in
theorem zk_780_6 : zm1 zKS zuq zNS zm_780 4000 zt_780_6 = true := z1F (zdt_X5_refuseOaths) (by decide +kernel)
set_option maxRecDepth 100000 in
theorem zk_780_7 : zm1 zKS zuq zNS zm_780 4000 zt_780_7 = true := z1F (zdt_X5_refuseOaths) (by decide +kernel)
set_option maxRecDepth 100000 in
theorem zk_780_8 : zm1 zKS zuq zNS zm_780 4000 zt_780_8 = true := z1F (zdt_X5_refuseOaths) (by decide +kernel)
set_option maxRecDepth 100000 in
theorem zk_780_9 : zm1 zKS zuq zNS zm_780 4000 zt_780_9 = true := z1F (zdt_X5_refuseOaths) (by decide +kernel)
set_option maxRecDepth 100000 in
theorem zk_780_10 : zm1 zKS zuq zNS zm_780 4000 zt_780_10 = true := z1F (zdt_X5_refuseOaths) (by decide +kernel)
set_option maxRecDepth 100000 in
theorem zk_780_11 : zm1 zKS zuq zNS zm_780 4000 zt_780_11 = true := z1F (zdt_X5_refuseOaths) (by decide +kernel)
set_option maxRecDepth 100000 in
theorem zk_780_12 : zm1 zKS zuq zNS zm_780 4000 zt_780_12 = true := z1F (zdt_X5_refuseOaths) (by decide +kernel)
set_option maxRecDepth 100000 in
theorem zk_780_13 : zm1 zKS zuq zNS zm_780 4000 zt_780_13 = true := z1F (zdt_X5_refuseOaths) (by decide +kernel)
set_option maxRecDepth 100000 in
theorem zk_780_14 : zm1 zKS zuq zNS zm_780 4000 zt_780_14 = true := z1F (zdt_X5_refuseOaths) (by decide +kernel)
set_option maxRecDepth 100000 in
theorem zk_780_15 : zm1 zKS zuq zNS zm_780 4000 zt_780_15 = true := z1F (zdt_X5_refuseOaths) (by decide +kernel)
set_option maxRecDepth 100000 in
theorem zk_780_16 : zm1 zKS zuq zNS zm_780 4000 zt_780_16 = true := z1F (zdt_X5_refuseOaths) (by decide +kernel)
set_option maxRecDepth 100000 in
theorem zk_780_17 : zm1 zKS zuq zNS zm_780 4000 zt_780_17 = true := z1F (zdt_X5_refuseOaths) (by decide +kernel)
set_option maxRecDepth 100000 in
theorem zk_780_18 : zm1 zKS zuq zNS zm_780 4000 zt_780_18 = true := z1F (zdt_X5_refuseOaths) (by decide +kernel)
set_option maxRecDepth 100000 in
theorem zk_780_19 : zm1 zKS zuq zNS zm_780 4000 zt_780_19 = true := z1F (zdt_X5_refuseOaths) (by decide +kernel)
set_option maxRecDepth 100000 in
theorem zk_780_20 : zm1 zKS zuq zNS zm_780 4000 zt_780_20 = true := z1F (zdt_X5_refuseOaths) (by decide +kernel)
set_option maxRecDepth 100000 in
theorem zk_780_s : zm0 zKS zuq zNS zm_780 4000 = true := z0F (zdt_X5_refuseOaths) (by decide +kernel)
set_option maxRecDepth 100000 in
theorem zk_780 : zmeth zKS zuq zNS zm_780 4000 = true := zmeth_by zk_780_s (List.forall_mem_cons.mpr ⟨zk_780_0, (List.forall_mem_cons.mpr ⟨zk_780_1, (List.forall_mem_cons.mpr ⟨zk_780_2, (List.forall_mem_cons.mpr ⟨zk_780_3, (List.forall_mem_cons.mpr ⟨zk_780_4, (List.forall_mem_cons.mpr ⟨zk_780_5, (List.forall_mem_cons.mpr ⟨zk_780_6, (List.forall_mem_cons.mpr ⟨zk_780_7, (List.forall_mem_cons.mpr ⟨zk_780_8, (List.forall_mem_cons.mpr ⟨zk_780_9, (List.forall_mem_cons.mpr ⟨zk_780_10, (List.forall_mem_cons.mpr ⟨zk_780_11, (List.forall_mem_cons.mpr ⟨zk_780_12, (List.forall_mem_cons.mpr ⟨zk_780_13, (List.forall_mem_cons.mpr ⟨zk_780_14, (List.forall_mem_cons.mpr ⟨zk_780_15, (List.forall_mem_cons.mpr ⟨zk_780_16, (List.forall_mem_cons.mpr ⟨zk_780_17, (List.forall_mem_cons.mpr ⟨zk_780_18, (List.forall_mem_cons.mpr ⟨zk_780_19, (List.forall_mem_cons.mpr ⟨zk_780_20, nilz⟩)⟩)⟩)⟩)⟩)⟩)⟩)⟩)⟩)⟩)⟩)⟩)⟩)⟩)⟩)⟩)⟩)⟩)⟩)⟩)⟩)
set_option maxRecDepth 100000 in
theorem zM_780 {l : Launch} {D : va_G} {cI cZ cB cJ cR : ClassId} {ks ad : List Nat} {Psi : va_W → Prop} (hw : zworld ks ad zuq zNS Psi) (hm : zMan l D cI cZ cB cJ cR ks ad Psi) : zMet l D cI cZ cB cJ cR zKS ks ad Psi yX5_refuseOaths (.code yX5_refuseOaths cX5_refuseOaths 4 (some .int)) 2 zc_780 :=
  zmet_of hw 2 (by decide) 4000 zk_780 (by decide) (by decide) (fun X => ⟨zg_RX5 X, zp_RX5 X, zl1_RX5 X, zl2_RX5 X, nilz, (List.forall_mem_cons.mpr ⟨zq_RX5_87 X (zM_301 hw hm) (by decide) rfl rfl, (List.forall_mem_cons.mpr ⟨zq_RX5_179 X (zM_302 hw hm) (by decide) rfl rfl, (List.forall_mem_cons.mpr ⟨zq_RX5_239 X (zM_540 hw hm) (by decide) rfl rfl, (List.forall_mem_cons.mpr ⟨zq_RX5_239 X (zM_541 hw hm) (by decide) rfl rfl, (List.forall_mem_cons.mpr ⟨zq_RX5_239 X (zM_542 hw hm) (by decide) rfl rfl, (List.forall_mem_cons.mpr ⟨zq_RX5_239 X (zM_543 hw hm) (by decide) rfl rfl, (List.forall_mem_cons.mpr ⟨zq_RX5_239 X (zM_544 hw hm) (by decide) rfl rfl, (List.forall_mem_cons.mpr ⟨zq_RX5_239 X (zM_545 hw hm) (by decide) rfl rfl, (List.forall_mem_cons.mpr ⟨zq_RX5_239 X (zM_546 hw hm) (by decide) rfl rfl, (List.forall_mem_cons.mpr ⟨zq_RX5_239 X (zM_547 hw hm) (by decide) rfl rfl, (List.forall_mem_cons.mpr ⟨zq_RX5_239 X (zM_548 hw hm) (by decide) rfl rfl, (List.forall_mem_cons.mpr ⟨zq_RX5_239 X (zM_549 hw hm) (by decide) rfl rfl, (List.forall_mem_cons.mpr ⟨zq_RX5_239 X (zM_550 hw hm) (by decide) rfl rfl, (List.forall_mem_cons.mpr ⟨zq_RX5_239 X (zM_551 hw hm) (by decide) rfl rfl, (List.forall_mem_cons.mpr ⟨zq_RX5_239 X (zM_552 hw hm) (by decide) rfl rfl, (List.forall_mem_cons.mpr ⟨zq_RX5_239 X (zM_553 hw hm) (by decide) rfl rfl, (List.forall_mem_cons.mpr ⟨zq_RX5_239 X (zM_554 hw hm) (by decide) rfl rfl, (List.forall_mem_cons.mpr ⟨zq_RX5_239 X (zM_555 hw hm) (by decide) rfl rfl, (List.forall_mem_cons.mpr ⟨zq_RX5_239 X (zM_556 hw hm) (by decide) rfl rfl, (List.forall_mem_cons.mpr ⟨zq_RX5_239 X (zM_557 hw hm) (by decide) rfl rfl, (List.forall_mem_cons.mpr ⟨zq_RX5_239 X (zM_558 hw hm) (by decide) rfl rfl, (List.forall_mem_cons.mpr ⟨zq_RX5_239 X (zM_559 hw hm) (by decide) rfl rfl, (List.forall_mem_cons.mpr ⟨zq_RX5_239 X (zM_560 hw hm) (by decide) rfl rfl, (List.forall_mem_cons.mpr ⟨zq_RX5_239 X (zM_561 hw hm) (by decide) rfl rfl, (List.forall_mem_cons.mpr ⟨zq_RX5_239 X (zM_562 hw hm) (by decide) rfl rfl, (List.forall_mem_cons.mpr ⟨zq_RX5_239 X (zM_563 hw hm) (by decide) rfl rfl, (List.forall_mem_cons.mpr ⟨zq_RX5_239 X (zM_564 hw hm) (by decide) rfl rfl, (List.forall_mem_cons.mpr ⟨zq_RX5_239 X (zM_565 hw hm) (by decide) rfl rfl, (List.forall_mem_cons.mpr ⟨zq_RX5_239 X (zM_566 hw hm) (by decide) rfl rfl, (List.forall_mem_cons.mpr ⟨zq_RX5_239 X (zM_567 hw hm) (by decide) rfl rfl, (List.forall_mem_cons.mpr ⟨zq_RX5_239 X (zM_568 hw hm) (by decide) rfl rfl, (List.forall_mem_cons.mpr ⟨zq_RX5_239 X (zM_569 hw hm) (by decide) rfl rfl, (List.forall_mem_cons.mpr ⟨zq_RX5_239 X (zM_570 hw hm) (by decide) rfl rfl, (List.forall_mem_cons.mpr ⟨zq_RX5_239 X (zM_571 hw hm) (by decide) rfl rfl, (List.forall_mem_cons.mpr ⟨zq_RX5_239 X (zM_572 hw hm) (by decide) rfl rfl, (List.forall_mem_cons.mpr ⟨zq_RX5_239 X (zM_573 hw hm) (by decide) rfl rfl, (List.forall_mem_cons.mpr ⟨zq_RX5_239 X (zM_574 hw hm) (by decide) rfl rfl, (List.forall_mem_cons.mpr ⟨zq_RX5_239 X (zM_575 hw hm) (by decide) rfl rfl, (List.forall_mem_cons.mpr ⟨zq_RX5_239 X (zM_576 hw hm) (by decide) rfl rfl, (List.forall_mem_cons.mpr ⟨zq_RX5_239 X (zM_577 hw hm) (by decide) rfl rfl, (List.forall_mem_cons.mpr ⟨zq_RX5_239 X (zM_578 hw hm) (by decide) rfl rfl, (List.forall_mem_cons.mpr ⟨zq_RX5_239 X (zM_579 hw hm) (by decide) rfl rfl, (List.forall_mem_cons.mpr ⟨zq_RX5_239 X (zM_580 hw hm) (by decide) rfl rfl, (List.forall_mem_cons.mpr ⟨zq_RX5_239 X (zM_581 hw hm) (by decide) rfl rfl, (List.forall_mem_cons.mpr ⟨zq_RX5_239 X (zM_582 hw hm) (by decide) rfl rfl, (List.forall_mem_cons.mpr ⟨zq_RX5_239 X (zM_583 hw hm) (by decide) rfl rfl, (List.forall_mem_cons.mpr ⟨zq_RX5_239 X (zM_584 hw hm) (by decide) rfl rfl, (List.forall_mem_cons.mpr ⟨zq_RX5_239 X (zM_585 hw hm) (by decide) rfl rfl, (List.forall_mem_cons.mpr ⟨zq_RX5_239 X (zM_586 hw hm) (by decide) rfl rfl, (List.forall_mem_cons.mpr ⟨zq_RX5_239 X (zM_587 hw hm) (by decide) rfl rfl, (List.forall_mem_cons.mpr ⟨zq_RX5_239 X (zM_588 hw hm) (by decide) rfl rfl, (List.forall_mem_cons.mpr ⟨zq_RX5_239 X (zM_589 hw hm) (by decide) rfl rfl, (List.forall_mem_cons.mpr ⟨zq_RX5_239 X (zM_590 hw hm) (by decide) rfl rfl, (List.forall_mem_cons.mpr ⟨zq_RX5_239 X (zM_591 hw hm) (by decide) rfl rfl, (List.forall_mem_cons.mpr ⟨zq_RX5_239 X (zM_592 hw hm) (by decide) rfl rfl, (List.forall_mem_cons.mpr ⟨zq_RX5_239 X (zM_593 hw hm) (by decide) rfl rfl, (List.forall_mem_cons.mpr ⟨zq_RX5_239 X (zM_594 hw hm) (by decide) rfl rfl, (List.forall_mem_cons.mpr ⟨zq_RX5_239 X (zM_595 hw hm) (by decide) rfl rfl, (List.forall_mem_cons.mpr ⟨zq_RX5_239 X (zM_596 hw hm) (by decide) rfl rfl, (List.forall_mem_cons.mpr ⟨zq_RX5_239 X (zM_597 hw hm) (by decide) rfl rfl, (List.forall_mem_cons.mpr ⟨zq_RX5_239 X (zM_598 hw hm) (by decide) rfl rfl, (List.forall_mem_cons.mpr ⟨zq_RX5_239 X (zM_599 hw hm) (by decide) rfl rfl, (List.forall_mem_cons.mpr ⟨zq_RX5_250 X (zM_605 hw hm) (by decide) rfl rfl, (List.forall_mem_cons.mpr ⟨zq_RX5_355 X (zM_791 hw hm) (by decide) rfl rfl, nilz⟩)⟩)⟩)⟩)⟩)⟩)⟩)⟩)⟩)⟩)⟩)⟩)⟩)⟩)⟩)⟩)⟩)⟩)⟩)⟩)⟩)⟩)⟩)⟩)⟩)⟩)⟩)⟩)⟩)⟩)⟩)⟩)⟩)⟩)⟩)⟩)⟩)⟩)⟩)⟩)⟩)⟩)⟩)⟩)⟩)⟩)⟩)⟩)⟩)⟩)⟩)⟩)⟩)⟩)⟩)⟩)⟩)⟩)⟩)⟩)⟩)⟩)⟩)⟩)⟩)
set_option maxRecDepth 100000 in
theorem zk_781 : zmeth zKS zuq zNS zm_781 4000 = true := zqF (zdt_X5_refuseOaths) (by decide +kernel)
theorem zM_781 {l : Launch} {D : va_G} {cI cZ cB cJ cR : ClassId} {ks ad : List Nat} {Psi : va_W → Prop} (hw : zworld ks ad zuq zNS Psi) (hm : zMan l D cI cZ cB cJ cR ks ad Psi) : zMet l D cI cZ cB cJ cR zKS ks ad Psi yX5_refuseOaths (.code yX5_refuseOaths cX5_refuseOaths 4 (some .int)) 2 zc_781 :=
  zmet_of hw 2 (by decide) 4000 zk_781 (by decide) (by decide) (fun X => ⟨zg_RX5 X, zp_RX5 X, zl1_RX5 X, zl2_RX5 X, nilz, (List.forall_mem_cons.mpr ⟨zq_RX5_355 X (zM_793 hw hm) (by decide) rfl rfl, nilz⟩)⟩)
set_option maxRecDepth 100000 in
theorem zk_794 : zmeth zKS zuq zNS zm_794 4000 = true := zqF (zdt_X5_refuseWorn) (by decide +kernel)
theorem zM_794 {l : Launch} {D : va_G} {cI cZ cB cJ cR : ClassId} {ks ad : List Nat} {Psi : va_W → Prop} (hw : zworld ks ad zuq zNS Psi) (hm : zMan l D cI cZ cB cJ cR ks ad Psi) : zMet l D cI cZ cB cJ cR zKS ks ad Psi yX5_refuseWorn (.code yX5_refuseWorn cX5_refuseWorn 6 (some .int)) 2 zc_794 :=
  zmet_of hw 2 (by decide) 4000 zk_794 (by decide) (by decide) (fun X => ⟨zg_RX5 X, zp_RX5 X, zl1_RX5 X, zl2_RX5 X, nilz, (List.forall_mem_cons.mpr ⟨zq_RX5_355 X (zM_783 hw hm) (by decide) rfl rfl, nilz⟩)⟩)
