set_option maxRecDepth 100000 in
theorem zk_809_0 : zm1 zKS zuq zNS zm_809 4000 zt_809_0 = true := by decide +kernel
set_option maxRecDepth 100000 in
theorem zk_809_1 : zm1 zKS zuq zNS zm_809 4000 zt_809_1 = true := by decide +kernel
set_option maxRecDepth 100000 in
theorem zk_809_2 : zm1 zKS zuq zNS zm_809 4000 zt_809_2 = true := by decide +kernel
set_option maxRecDepth 100000 in
theorem zk_809_3 : zm1 zKS zuq zNS zm_809 4000 zt_809_3 = true := by decide +kernel
set_option maxRecDepth 100000 in
theorem zk_809_4 : zm1 zKS zuq zNS zm_809 4000 zt_809_4 = true := by decide +kernel
set_option maxRecDepth 100000 in
theorem zk_809_5 : zm1 zKS zuq zNS zm_809 4000 zt_809_5 = true := by decide +kernel
set_option maxRecDepth 100000 in
theorem zk_809_6 : zm1 zKS zuq zNS zm_809 4000 zt_809_6 = true := by decide +kernel
set_option maxRecDepth 100000 in
theorem zk_809_7 : zm1 zKS zuq zNS zm_809 4000 zt_809_7 = true := by decide +kernel
set_option maxRecDepth 100000 in
theorem zk_809_8 : zm1 zKS zuq zNS zm_809 4000 zt_809_8 = true := by decide +kernel
set_option maxRecDepth 100000 in
theorem zk_809_9 : zm1 zKS zuq zNS zm_809 4000 zt_809_9 = true := by decide +kernel
set_option maxRecDepth 100000 in
theorem zk_809_10 : zm1 zKS zuq zNS zm_809 4000 zt_809_10 = true := by decide +kernel
set_option maxRecDepth 100000 in
theorem zk_809_11 : zm1 zKS zuq zNS zm_809 4000 zt_809_11 = true := by decide +kernel
set_option maxRecDepth 100000 in
theorem zk_809_12 : zm1 zKS zuq zNS zm_809 4000 zt_809_12 = true := by decide +kernel
set_option maxRecDepth 100000 in
theorem zk_809_13 : zm1 zKS zuq zNS zm_809 4000 zt_809_13 = true := by decide +kernel
set_option maxRecDepth 100000 in
theorem zk_809_14 : zm1 zKS zuq zNS zm_809 4000 zt_809_14 = true := by decide +kernel
set_option maxRecDepth 100000 in
theorem zk_809_15 : zm1 zKS zuq zNS zm_809 4000 zt_809_15 = true := by decide +kernel
set_option maxRecDepth 100000 in
theorem zk_809_16 : zm1 zKS zuq zNS zm_809 4000 zt_809_16 = true := by decide +kernel
set_option maxRecDepth 100000 in
theorem zk_809_17 : zm1 zKS zuq zNS zm_809 4000 zt_809_17 = true := by decide +kernel
set_option maxRecDepth 100000 in
theorem zk_809_18 : zm1 zKS zuq zNS zm_809 4000 zt_809_18 = true := by decide +kernel
set_option maxRecDepth 100000 in
theorem zk_809_19 : zm1 zKS zuq zNS zm_809 4000 zt_809_19 = true := by decide +kernel
set_option maxRecDepth 100000 in
theorem zk_809_20 : zm1 zKS zuq zNS zm_809 4000 zt_809_20 = true := by decide +kernel
set_option maxRecDepth 100000 in
theorem zk_809_21 : zm1 zKS zuq zNS zm_809 4000 zt_809_21 = true := by decide +kernel
set_option maxRecDepth 100000 in
theorem zk_809_22 : zm1 zKS zuq zNS zm_809 4000 zt_809_22 = true := by decide +kernel
set_option maxRecDepth 100000 in
theorem zk_809_23 : zm1 zKS zuq zNS zm_809 4000 zt_809_23 = true := by decide +kernel
set_option maxRecDepth 100000 in
theorem zk_809_24 : zm1 zKS zuq zNS zm_809 4000 zt_809_24 = true := by decide +kernel
set_option maxRecDepth 100000 in
theorem zk_809_25 : zm1 zKS zuq zNS zm_809 4000 zt_809_25 = true := by decide +kernel
set_option maxRecDepth 100000 in
theorem zk_809_26 : zm1 zKS zuq zNS zm_809 4000 zt_809_26 = true := by decide +kernel
set_option maxRecDepth 100000 in
theorem zk_809_27 : zm1 zKS zuq zNS zm_809 4000 zt_809_27 = true := by decide +kernel
set_option maxRecDepth 100000 in
theorem zk_809_28 : zm1 zKS zuq zNS zm_809 4000 zt_809_28 = true := by decide +kernel
set_option maxRecDepth 100000 in
theorem zk_809_29 : zm1 zKS zuq zNS zm_809 4000 zt_809_29 = true := by decide +kernel
set_option maxRecDepth 100000 in
theorem zk_809_30 : zm1 zKS zuq zNS zm_809 4000 zt_809_30 = true := by decide +kernel
set_option maxRecDepth 100000 in
theorem zk_809_s : zm0 zKS zuq zNS zm_809 4000 = true := by decide +kernel
theorem zk_809 : zmeth zKS zuq zNS zm_809 4000 = true := zmeth_by zk_809_s (List.forall_mem_cons.mpr ⟨zk_809_0, (List.forall_mem_cons.mpr ⟨zk_809_1, (List.forall_mem_cons.mpr ⟨zk_809_2, (List.forall_mem_cons.mpr ⟨zk_809_3, (List.forall_mem_cons.mpr ⟨zk_809_4, (List.forall_mem_cons.mpr ⟨zk_809_5, (List.forall_mem_cons.mpr ⟨zk_809_6, (List.forall_mem_cons.mpr ⟨zk_809_7, (List.forall_mem_cons.mpr ⟨zk_809_8, (List.forall_mem_cons.mpr ⟨zk_809_9, (List.forall_mem_cons.mpr ⟨zk_809_10, (List.forall_mem_cons.mpr ⟨zk_809_11, (List.forall_mem_cons.mpr ⟨zk_809_12, (List.forall_mem_cons.mpr ⟨zk_809_13, (List.forall_mem_cons.mpr ⟨zk_809_14, (List.forall_mem_cons.mpr ⟨zk_809_15, (List.forall_mem_cons.mpr ⟨zk_809_16, (List.forall_mem_cons.mpr ⟨zk_809_17, (List.forall_mem_cons.mpr ⟨zk_809_18, (List.forall_mem_cons.mpr ⟨zk_809_19, (List.forall_mem_cons.mpr ⟨zk_809_20, (List.forall_mem_cons.mpr ⟨zk_809_21, (List.forall_mem_cons.mpr ⟨zk_809_22, (List.forall_mem_cons.mpr ⟨zk_809_23, (List.forall_mem_cons.mpr ⟨zk_809_24, (List.forall_mem_cons.mpr ⟨zk_809_25, (List.forall_mem_cons.mpr ⟨zk_809_26, (List.forall_mem_cons.mpr ⟨zk_809_27, (List.forall_mem_cons.mpr ⟨zk_809_28, (List.forall_mem_cons.mpr ⟨zk_809_29, (List.forall_mem_cons.mpr ⟨zk_809_30, nilz⟩)⟩)⟩)⟩)⟩)⟩)⟩)⟩)⟩)⟩)⟩)⟩)⟩)⟩)⟩)⟩)⟩)⟩)⟩)⟩)⟩)⟩)⟩)⟩)⟩)⟩)⟩)⟩)⟩)⟩)⟩)
set_option maxRecDepth 100000 in
theorem zM_809 {l : Launch} {D : va_G} {cI cZ cB cJ cR : ClassId} {ks ad : List Nat} {Psi : va_W → Prop} (hw : zworld ks ad zuq zNS Psi) (hm : zMan l D cI cZ cB cJ cR ks ad Psi) : zMet l D cI cZ cB cJ cR zKS ks ad Psi yX5_suspects (.code yX5_suspects cX5_suspects 4 (some .int)) 4 zc_809 :=
  zmet_of hw 4 (by decide) 4000 zk_809 (by decide) (by decide) (fun X => ⟨zg_RX5 X, zp_RX5 X, zl1_RX5 X, zl2_RX5 X, nilz, (List.forall_mem_cons.mpr ⟨zq_RX5_220 X (zM_285 hw hm) (by decide) rfl rfl, (List.forall_mem_cons.mpr ⟨zq_RX5_239 X (zM_536 hw hm) (by decide) rfl rfl, (List.forall_mem_cons.mpr ⟨zq_RX5_239 X (zM_537 hw hm) (by decide) rfl rfl, (List.forall_mem_cons.mpr ⟨zq_RX5_239 X (zM_538 hw hm) (by decide) rfl rfl, (List.forall_mem_cons.mpr ⟨zq_RX5_239 X (zM_539 hw hm) (by decide) rfl rfl, (List.forall_mem_cons.mpr ⟨zq_RX5_239 X (zM_540 hw hm) (by decide) rfl rfl, (List.forall_mem_cons.mpr ⟨zq_RX5_239 X (zM_541 hw hm) (by decide) rfl rfl, (List.forall_mem_cons.mpr ⟨zq_RX5_239 X (zM_542 hw hm) (by decide) rfl rfl, (List.forall_mem_cons.mpr ⟨zq_RX5_239 X (zM_543 hw hm) (by decide) rfl rfl, (List.forall_mem_cons.mpr ⟨zq_RX5_239 X (zM_544 hw hm) (by decide) rfl rfl, (List.forall_mem_cons.mpr ⟨zq_RX5_239 X (zM_545 hw hm) (by decide) rfl rfl, (List.forall_mem_cons.mpr ⟨zq_RX5_239 X (zM_546 hw hm) (by decide) rfl rfl, (List.forall_mem_cons.mpr ⟨zq_RX5_239 X (zM_547 hw hm) (by decide) rfl rfl, (List.forall_mem_cons.mpr ⟨zq_RX5_239 X (zM_548 hw hm) (by decide) rfl rfl, (List.forall_mem_cons.mpr ⟨zq_RX5_239 X (zM_549 hw hm) (by decide) rfl rfl, (List.forall_mem_cons.mpr ⟨zq_RX5_239 X (zM_550 hw hm) (by decide) rfl rfl, (List.forall_mem_cons.mpr ⟨zq_RX5_239 X (zM_551 hw hm) (by decide) rfl rfl, (List.forall_mem_cons.mpr ⟨zq_RX5_239 X (zM_552 hw hm) (by decide) rfl rfl, (List.forall_mem_cons.mpr ⟨zq_RX5_239 X (zM_553 hw hm) (by decide) rfl rfl, (List.forall_mem_cons.mpr ⟨zq_RX5_239 X (zM_554 hw hm) (by decide) rfl rfl, (List.forall_mem_cons.mpr ⟨zq_RX5_239 X (zM_555 hw hm) (by decide) rfl rfl, (List.forall_mem_cons.mpr ⟨zq_RX5_239 X (zM_556 hw hm) (by decide) rfl rfl, (List.forall_mem_cons.mpr ⟨zq_RX5_239 X (zM_557 hw hm) (by decide) rfl rfl, (List.forall_mem_cons.mpr ⟨zq_RX5_239 X (zM_558 hw hm) (by decide) rfl rfl, (List.forall_mem_cons.mpr ⟨zq_RX5_239 X (zM_559 hw hm) (by decide) rfl rfl, (List.forall_mem_cons.mpr ⟨zq_RX5_239 X (zM_560 hw hm) (by decide) rfl rfl, (List.forall_mem_cons.mpr ⟨zq_RX5_239 X (zM_561 hw hm) (by decide) rfl rfl, (List.forall_mem_cons.mpr ⟨zq_RX5_239 X (zM_562 hw hm) (by decide) rfl rfl, (List.forall_mem_cons.mpr ⟨zq_RX5_239 X (zM_563 hw hm) (by decide) rfl rfl, (List.forall_mem_cons.mpr ⟨zq_RX5_239 X (zM_564 hw hm) (by decide) rfl rfl, (List.forall_mem_cons.mpr ⟨zq_RX5_239 X (zM_565 hw hm) (by decide) rfl rfl, (List.forall_mem_cons.mpr ⟨zq_RX5_239 X (zM_566 hw hm) (by decide) rfl rfl, (List.forall_mem_cons.mpr ⟨zq_RX5_239 X (zM_567 hw hm) (by decide) rfl rfl, (List.forall_mem_cons.mpr ⟨zq_RX5_239 X (zM_568 hw hm) (by decide) rfl rfl, (List.forall_mem_cons.mpr ⟨zq_RX5_239 X (zM_569 hw hm) (by decide) rfl rfl, (List.forall_mem_cons.mpr ⟨zq_RX5_239 X (zM_570 hw hm) (by decide) rfl rfl, (List.forall_mem_cons.mpr ⟨zq_RX5_239 X (zM_571 hw hm) (by decide) rfl rfl, (List.forall_mem_cons.mpr ⟨zq_RX5_239 X (zM_572 hw hm) (by decide) rfl rfl, (List.forall_mem_cons.mpr ⟨zq_RX5_239 X (zM_573 hw hm) (by decide) rfl rfl, (List.forall_mem_cons.mpr ⟨zq_RX5_239 X (zM_574 hw hm) (by decide) rfl rfl, (List.forall_mem_cons.mpr ⟨zq_RX5_239 X (zM_575 hw hm) (by decide) rfl rfl, (List.forall_mem_cons.mpr ⟨zq_RX5_239 X (zM_576 hw hm) (by decide) rfl rfl, (List.forall_mem_cons.mpr ⟨zq_RX5_239 X (zM_577 hw hm) (by decide) rfl rfl, (List.forall_mem_cons.mpr ⟨zq_RX5_239 X (zM_578 hw hm) (by decide) rfl rfl, (List.forall_mem_cons.mpr ⟨zq_RX5_239 X (zM_579 hw hm) (by decide) rfl rfl, (List.forall_mem_cons.mpr ⟨zq_RX5_239 X (zM_580 hw hm) (by decide) rfl rfl, (List.forall_mem_cons.mpr ⟨zq_RX5_239 X (zM_581 hw hm) (by decide) rfl rfl, (List.forall_mem_cons.mpr ⟨zq_RX5_239 X (zM_582 hw hm) (by decide) rfl rfl, (List.forall_mem_cons.mpr ⟨zq_RX5_239 X (zM_583 hw hm) (by decide) rfl rfl, (List.forall_mem_cons.mpr ⟨zq_RX5_239 X (zM_584 hw hm) (by decide) rfl rfl, (List.forall_mem_cons.mpr ⟨zq_RX5_239 X (zM_585 hw hm) (by decide) rfl rfl, (List.forall_mem_cons.mpr ⟨zq_RX5_239 X (zM_586 hw hm) (by decide) rfl rfl, (List.forall_mem_cons.mpr ⟨zq_RX5_239 X (zM_587 hw hm) (by decide) rfl rfl, (List.forall_mem_cons.mpr ⟨zq_RX5_239 X (zM_588 hw hm) (by decide) rfl rfl, (List.forall_mem_cons.mpr ⟨zq_RX5_239 X (zM_589 hw hm) (by decide) rfl rfl, (List.forall_mem_cons.mpr ⟨zq_RX5_239 X (zM_590 hw hm) (by decide) rfl rfl, (List.forall_mem_cons.mpr ⟨zq_RX5_239 X (zM_591 hw hm) (by decide) rfl rfl, (List.forall_mem_cons.mpr ⟨zq_RX5_239 X (zM_592 hw hm) (by decide) rfl rfl, (List.forall_mem_cons.mpr ⟨zq_RX5_239 X (zM_593 hw hm) (by decide) rfl rfl, (List.forall_mem_cons.mpr ⟨zq_RX5_239 X (zM_594 hw hm) (by decide) rfl rfl, (List.forall_mem_cons.mpr ⟨zq_RX5_239 X (zM_595 hw hm) (by decide) rfl rfl, (List.forall_mem_cons.mpr ⟨zq_RX5_250 X (zM_601 hw hm) (by decide) rfl rfl, nilz⟩)⟩)⟩)⟩)⟩)⟩)⟩)⟩)⟩)⟩)⟩)⟩)⟩)⟩)⟩)⟩)⟩)⟩)⟩)⟩)⟩)⟩)⟩)⟩)⟩)⟩)⟩)⟩)⟩)⟩)⟩)⟩)⟩)⟩)⟩)⟩)⟩)⟩)⟩)⟩)⟩)⟩)⟩)⟩)⟩)⟩)⟩)⟩)⟩)⟩)⟩)⟩)⟩)⟩)⟩)⟩)⟩)⟩)⟩)⟩)⟩)⟩)⟩)
set_option maxRecDepth 100000 in
theorem zk_810 : zmeth zKS zuq zNS zm_810 4000 = true := by decide +kernel
set_option maxRecDepth 100000 in
theorem zM_810 {l : Launch} {D : va_G} {cI cZ cB cJ cR : ClassId} {ks ad : List Nat} {Psi : va_W → Prop} (hw : zworld ks ad zuq zNS Psi) (hm : zMan l D cI cZ cB cJ cR ks ad Psi) : zMet l D cI cZ cB cJ cR zKS ks ad Psi yX5_swear (.code yX5_swear cX5_swear 3 (some .int)) 4 zc_810 :=
  zmet_of hw 4 (by decide) 4000 zk_810 (by decide) (by decide) (fun X => ⟨zg_RX5 X, zp_RX5 X, zl1_RX5 X, zl2_RX5 X, nilz, (List.forall_mem_cons.mpr ⟨zq_RX5_83 X (zM_303 hw hm) (by decide) rfl rfl, (List.forall_mem_cons.mpr ⟨zq_RX5_179 X (zM_302 hw hm) (by decide) rfl rfl, (List.forall_mem_cons.mpr ⟨zq_RX5_296 X (zM_323 hw hm) (by decide) rfl rfl, nilz⟩)⟩)⟩)⟩)
set_option maxRecDepth 100000 in
theorem zk_813 : zmeth zKS zuq zNS zm_813 4000 = true := by decide +kernel
set_option maxRecDepth 100000 in
theorem zM_813 {l : Launch} {D : va_G} {cI cZ cB cJ cR : ClassId} {ks ad : List Nat} {Psi : va_W → Prop} (hw : zworld ks ad zuq zNS Psi) (hm : zMan l D cI cZ cB cJ cR ks ad Psi) : zMet l D cI cZ cB cJ cR zKS ks ad Psi yX5_tell (.code yX5_tell cX5_tell 5 (some .int)) 4 zc_813 :=
  zmet_of hw 4 (by decide) 4000 zk_813 (by decide) (by decide) (fun X => ⟨zg_RX5 X, zp_RX5 X, zl1_RX5 X, zl2_RX5 X, (List.forall_mem_cons.mpr ⟨zs_low X lm_59_2, (List.forall_mem_cons.mpr ⟨zs_high X lm_59_3, nilz⟩)⟩), (List.forall_mem_cons.mpr ⟨zq_RX5_71 X (zM_760 hw hm) (by decide) rfl rfl, (List.forall_mem_cons.mpr ⟨zq_RX5_115 X (zM_287 hw hm) (by decide) rfl rfl, nilz⟩)⟩)⟩)
set_option maxRecDepth 100000 in
theorem zk_817 : zmeth zKS zuq zNS zm_817 4000 = true := by decide +kernel
set_option maxRecDepth 100000 in
theorem zM_817 {l : Launch} {D : va_G} {cI cZ cB cJ cR : ClassId} {ks ad : List Nat} {Psi : va_W → Prop} (hw : zworld ks ad zuq zNS Psi) (hm : zMan l D cI cZ cB cJ cR ks ad Psi) : zMet l D cI cZ cB cJ cR zKS ks ad Psi yX5_undo (.code yX5_undo cX5_undo 1 (some .int)) 4 zc_817 :=
  zmet_of hw 4 (by decide) 4000 zk_817 (by decide) (by decide) (fun X => ⟨zg_RX5 X, zp_RX5 X, zl1_RX5 X, zl2_RX5 X, nilz, (List.forall_mem_cons.mpr ⟨zq_RX5_71 X (zM_760 hw hm) (by decide) rfl rfl, (List.forall_mem_cons.mpr ⟨zq_RX5_115 X (zM_287 hw hm) (by decide) rfl rfl, (List.forall_mem_cons.mpr ⟨zq_RX5_302 X (zman_325 hm) (by decide) rfl rfl, nilz⟩)⟩)⟩)⟩)
set_option maxRecDepth 100000 in
theorem zk_824 : zmeth zKS zuq zNS zm_824 4000 = true := by decide +kernel
set_option maxRecDepth 100000 in
theorem zM_824 {l : Launch} {D : va_G} {cI cZ cB cJ cR : ClassId} {ks ad : List Nat} {Psi : va_W → Prop} (hw : zworld ks ad zuq zNS Psi) (hm : zMan l D cI cZ cB cJ cR ks ad Psi) : zMet l D cI cZ cB cJ cR zKS ks ad Psi yX5_worst (.code yX5_worst cX5_worst 5 (some .int)) 4 zc_824 :=
  zmet_of hw 4 (by decide) 4000 zk_824 (by decide) (by decide) (fun X => ⟨zg_RX5 X, zp_RX5 X, zl1_RX5 X, zl2_RX5 X, nilz, (List.forall_mem_cons.mpr ⟨zq_RX5_115 X (zM_287 hw hm) (by decide) rfl rfl, (List.forall_mem_cons.mpr ⟨zq_RX5_137 X (zM_288 hw hm) (by decide) rfl rfl, nilz⟩)⟩)⟩)
set_option maxRecDepth 100000 in
theorem zk_836 : zmeth zKS zuq zNS zm_836 4000 = true := by decide +kernel
set_option maxRecDepth 100000 in
theorem zM_836 {l : Launch} {D : va_G} {cI cZ cB cJ cR : ClassId} {ks ad : List Nat} {Psi : va_W → Prop} (hw : zworld ks ad zuq zNS Psi) (hm : zMan l D cI cZ cB cJ cR ks ad Psi) : zMet l D cI cZ cB cJ cR zKS ks ad Psi yX6_back (.code yX6_back cX6_back 2 (some .int)) 4 zc_836 :=
  zmet_of hw 4 (by decide) 4000 zk_836 (by decide) (by decide) (fun X => ⟨zg_RX6 X, zp_RX6 X, zl1_RX6 X, zl2_RX6 X, nilz, (List.forall_mem_cons.mpr ⟨zq_RX6_76 X (zM_904 hw hm) (by decide) rfl, (List.forall_mem_cons.mpr ⟨zq_RX6_220 X (zM_852 hw hm) (by decide) rfl rfl, nilz⟩)⟩)⟩)
set_option maxRecDepth 100000 in
theorem zk_899 : zmeth zKS zuq zNS zm_899 4000 = true := by decide +kernel
set_option maxRecDepth 100000 in
theorem zM_899 {l : Launch} {D : va_G} {cI cZ cB cJ cR : ClassId} {ks ad : List Nat} {Psi : va_W → Prop} (hw : zworld ks ad zuq zNS Psi) (hm : zMan l D cI cZ cB cJ cR ks ad Psi) : zMet l D cI cZ cB cJ cR zKS ks ad Psi yX6_image (.code yX6_image cX6_image 2 (some .int)) 4 zc_899 :=
  zmet_of hw 4 (by decide) 4000 zk_899 (by decide) (by decide) (fun X => ⟨zg_RX6 X, zp_RX6 X, zl1_RX6 X, zl2_RX6 X, nilz, (List.forall_mem_cons.mpr ⟨zq_RX6_76 X (zM_904 hw hm) (by decide) rfl, (List.forall_mem_cons.mpr ⟨zq_RX6_220 X (zM_852 hw hm) (by decide) rfl rfl, nilz⟩)⟩)⟩)
set_option maxRecDepth 100000 in
theorem zk_925 : zmeth zKS zuq zNS zm_925 4000 = true := by decide +kernel
set_option maxRecDepth 100000 in
theorem zM_925 {l : Launch} {D : va_G} {cI cZ cB cJ cR : ClassId} {ks ad : List Nat} {Psi : va_W → Prop} (hw : zworld ks ad zuq zNS Psi) (hm : zMan l D cI cZ cB cJ cR ks ad Psi) : zMet l D cI cZ cB cJ cR zKS ks ad Psi yX6_isGap (.code yX6_isGap cX6_isGap 5 (some .boolean)) 4 zc_925 :=
  zmet_of hw 4 (by decide) 4000 zk_925 (by decide) (by decide) (fun X => ⟨zg_RX6 X, zp_RX6 X, zl1_RX6 X, zl2_RX6 X, nilz, (List.forall_mem_cons.mpr ⟨zq_RX6_227 X (zM_1061 hw hm) (by decide) rfl rfl, (List.forall_mem_cons.mpr ⟨zq_RX6_253 X (zM_934 hw hm) (by decide) rfl rfl, nilz⟩)⟩)⟩)
set_option maxRecDepth 100000 in
theorem zk_1050 : zmeth zKS zuq zNS zm_1050 4000 = true := by decide +kernel
set_option maxRecDepth 100000 in
theorem zM_1050 {l : Launch} {D : va_G} {cI cZ cB cJ cR : ClassId} {ks ad : List Nat} {Psi : va_W → Prop} (hw : zworld ks ad zuq zNS Psi) (hm : zMan l D cI cZ cB cJ cR ks ad Psi) : zMet l D cI cZ cB cJ cR zKS ks ad Psi yX6_number_ (.code yX6_number_ cX6_number_ 5 (some .int)) 4 zc_1050 :=
  zmet_of hw 4 (by decide) 4000 zk_1050 (by decide) (by decide) (fun X => ⟨zg_RX6 X, zp_RX6 X, zl1_RX6 X, zl2_RX6 X, nilz, (List.forall_mem_cons.mpr ⟨zq_RX6_142 X (zM_834 hw hm) (by decide) rfl rfl, (List.forall_mem_cons.mpr ⟨zq_RX6_146 X (zM_1045 hw hm) (by decide) rfl rfl, nilz⟩)⟩)⟩)
set_option maxRecDepth 100000 in
theorem zk_1051 : zmeth zKS zuq zNS zm_1051 4000 = true := by decide +kernel
set_option maxRecDepth 100000 in
theorem zM_1051 {l : Launch} {D : va_G} {cI cZ cB cJ cR : ClassId} {ks ad : List Nat} {Psi : va_W → Prop} (hw : zworld ks ad zuq zNS Psi) (hm : zMan l D cI cZ cB cJ cR ks ad Psi) : zMet l D cI cZ cB cJ cR zKS ks ad Psi yX6_number_ (.code yX6_number_ cX6_number_ 5 (some .int)) 4 zc_1051 :=
  zmet_of hw 4 (by decide) 4000 zk_1051 (by decide) (by decide) (fun X => ⟨zg_RX6 X, zp_RX6 X, zl1_RX6 X, zl2_RX6 X, nilz, (List.forall_mem_cons.mpr ⟨zq_RX6_142 X (zM_834 hw hm) (by decide) rfl rfl, (List.forall_mem_cons.mpr ⟨zq_RX6_146 X (zM_1046 hw hm) (by decide) rfl rfl, nilz⟩)⟩)⟩)
set_option maxRecDepth 100000 in
theorem zk_1052 : zmeth zKS zuq zNS zm_1052 4000 = true := by decide +kernel
set_option maxRecDepth 100000 in
theorem zM_1052 {l : Launch} {D : va_G} {cI cZ cB cJ cR : ClassId} {ks ad : List Nat} {Psi : va_W → Prop} (hw : zworld ks ad zuq zNS Psi) (hm : zMan l D cI cZ cB cJ cR ks ad Psi) : zMet l D cI cZ cB cJ cR zKS ks ad Psi yX6_number_ (.code yX6_number_ cX6_number_ 5 (some .int)) 4 zc_1052 :=
  zmet_of hw 4 (by decide) 4000 zk_1052 (by decide) (by decide) (fun X => ⟨zg_RX6 X, zp_RX6 X, zl1_RX6 X, zl2_RX6 X, nilz, (List.forall_mem_cons.mpr ⟨zq_RX6_142 X (zM_834 hw hm) (by decide) rfl rfl, (List.forall_mem_cons.mpr ⟨zq_RX6_146 X (zM_1048 hw hm) (by decide) rfl rfl, nilz⟩)⟩)⟩)
set_option maxRecDepth 100000 in
theorem zk_1053 : zmeth zKS zuq zNS zm_1053 4000 = true := by decide +kernel
set_option maxRecDepth 100000 in
theorem zM_1053 {l : Launch} {D : va_G} {cI cZ cB cJ cR : ClassId} {ks ad : List Nat} {Psi : va_W → Prop} (hw : zworld ks ad zuq zNS Psi) (hm : zMan l D cI cZ cB cJ cR ks ad Psi) : zMet l D cI cZ cB cJ cR zKS ks ad Psi yX6_number_ (.code yX6_number_ cX6_number_ 5 (some .int)) 4 zc_1053 :=
  zmet_of hw 4 (by decide) 4000 zk_1053 (by decide) (by decide) (fun X => ⟨zg_RX6 X, zp_RX6 X, zl1_RX6 X, zl2_RX6 X, nilz, (List.forall_mem_cons.mpr ⟨zq_RX6_142 X (zM_834 hw hm) (by decide) rfl rfl, (List.forall_mem_cons.mpr ⟨zq_RX6_146 X (zM_1043 hw hm) (by decide) rfl rfl, nilz⟩)⟩)⟩)
set_option maxRecDepth 100000 in
theorem zk_1054 : zmeth zKS zuq zNS zm_1054 4000 = true := by decide +kernel
set_option maxRecDepth 100000 in
theorem zM_1054 {l : Launch} {D : va_G} {cI cZ cB cJ cR : ClassId} {ks ad : List Nat} {Psi : va_W → Prop} (hw : zworld ks ad zuq zNS Psi) (hm : zMan l D cI cZ cB cJ cR ks ad Psi) : zMet l D cI cZ cB cJ cR zKS ks ad Psi yX6_number_ (.code yX6_number_ cX6_number_ 5 (some .int)) 4 zc_1054 :=
  zmet_of hw 4 (by decide) 4000 zk_1054 (by decide) (by decide) (fun X => ⟨zg_RX6 X, zp_RX6 X, zl1_RX6 X, zl2_RX6 X, nilz, (List.forall_mem_cons.mpr ⟨zq_RX6_142 X (zM_834 hw hm) (by decide) rfl rfl, (List.forall_mem_cons.mpr ⟨zq_RX6_146 X (zM_1049 hw hm) (by decide) rfl rfl, nilz⟩)⟩)⟩)
set_option maxRecDepth 100000 in
theorem zk_1055 : zmeth zKS zuq zNS zm_1055 4000 = true := by decide +kernel
set_option maxRecDepth 100000 in
theorem zM_1055 {l : Launch} {D : va_G} {cI cZ cB cJ cR : ClassId} {ks ad : List Nat} {Psi : va_W → Prop} (hw : zworld ks ad zuq zNS Psi) (hm : zMan l D cI cZ cB cJ cR ks ad Psi) : zMet l D cI cZ cB cJ cR zKS ks ad Psi yX6_number_ (.code yX6_number_ cX6_number_ 5 (some .int)) 4 zc_1055 :=
  zmet_of hw 4 (by decide) 4000 zk_1055 (by decide) (by decide) (fun X => ⟨zg_RX6 X, zp_RX6 X, zl1_RX6 X, zl2_RX6 X, nilz, (List.forall_mem_cons.mpr ⟨zq_RX6_142 X (zM_834 hw hm) (by decide) rfl rfl, (List.forall_mem_cons.mpr ⟨zq_RX6_146 X (zM_1047 hw hm) (by decide) rfl rfl, nilz⟩)⟩)⟩)
set_option maxRecDepth 100000 in
theorem zk_1056 : zmeth zKS zuq zNS zm_1056 4000 = true := by decide +kernel
set_option maxRecDepth 100000 in
theorem zM_1056 {l : Launch} {D : va_G} {cI cZ cB cJ cR : ClassId} {ks ad : List Nat} {Psi : va_W → Prop} (hw : zworld ks ad zuq zNS Psi) (hm : zMan l D cI cZ cB cJ cR ks ad Psi) : zMet l D cI cZ cB cJ cR zKS ks ad Psi yX6_number_ (.code yX6_number_ cX6_number_ 5 (some .int)) 4 zc_1056 :=
  zmet_of hw 4 (by decide) 4000 zk_1056 (by decide) (by decide) (fun X => ⟨zg_RX6 X, zp_RX6 X, zl1_RX6 X, zl2_RX6 X, nilz, (List.forall_mem_cons.mpr ⟨zq_RX6_142 X (zM_834 hw hm) (by decide) rfl rfl, (List.forall_mem_cons.mpr ⟨zq_RX6_146 X (zM_1041 hw hm) (by decide) rfl rfl, nilz⟩)⟩)⟩)
set_option maxRecDepth 100000 in
theorem zk_1057 : zmeth zKS zuq zNS zm_1057 4000 = true := by decide +kernel
set_option maxRecDepth 100000 in
theorem zM_1057 {l : Launch} {D : va_G} {cI cZ cB cJ cR : ClassId} {ks ad : List Nat} {Psi : va_W → Prop} (hw : zworld ks ad zuq zNS Psi) (hm : zMan l D cI cZ cB cJ cR ks ad Psi) : zMet l D cI cZ cB cJ cR zKS ks ad Psi yX6_number_ (.code yX6_number_ cX6_number_ 5 (some .int)) 4 zc_1057 :=
  zmet_of hw 4 (by decide) 4000 zk_1057 (by decide) (by decide) (fun X => ⟨zg_RX6 X, zp_RX6 X, zl1_RX6 X, zl2_RX6 X, nilz, (List.forall_mem_cons.mpr ⟨zq_RX6_142 X (zM_834 hw hm) (by decide) rfl rfl, (List.forall_mem_cons.mpr ⟨zq_RX6_146 X (zM_1039 hw hm) (by decide) rfl rfl, nilz⟩)⟩)⟩)
set_option maxRecDepth 100000 in
theorem zk_636 : zmeth zKS zuq zNS zm_636 4000 = true := by decide +kernel
set_option maxRecDepth 100000 in
theorem zM_636 {l : Launch} {D : va_G} {cI cZ cB cJ cR : ClassId} {ks ad : List Nat} {Psi : va_W → Prop} (hw : zworld ks ad zuq zNS Psi) (hm : zMan l D cI cZ cB cJ cR ks ad Psi) : zMet l D cI cZ cB cJ cR zKS ks ad Psi yX5_bestAsked (.code yX5_bestAsked cX5_bestAsked 7 (some .int)) 5 zc_636 :=
  zmet_of hw 5 (by decide) 4000 zk_636 (by decide) (by decide) (fun X => ⟨zg_RX5 X, zp_RX5 X, zl1_RX5 X, zl2_RX5 X, nilz, (List.forall_mem_cons.mpr ⟨zq_RX5_149 X (zM_0 hw hm) (by decide) rfl, (List.forall_mem_cons.mpr ⟨zq_RX5_233 X (zM_806 hw hm) (by decide) rfl rfl, (List.forall_mem_cons.mpr ⟨zq_RX5_239 X (zM_356 hw hm) (by decide) rfl rfl, (List.forall_mem_cons.mpr ⟨zq_RX5_243 X (zM_755 hw hm) (by decide) rfl rfl, (List.forall_mem_cons.mpr ⟨zq_RX5_250 X (zM_597 hw hm) (by decide) rfl rfl, nilz⟩)⟩)⟩)⟩)⟩)⟩)
set_option maxRecDepth 100000 in
theorem zk_637 : zmeth zKS zuq zNS zm_637 4000 = true := by decide +kernel
set_option maxRecDepth 100000 in
theorem zM_637 {l : Launch} {D : va_G} {cI cZ cB cJ cR : ClassId} {ks ad : List Nat} {Psi : va_W → Prop} (hw : zworld ks ad zuq zNS Psi) (hm : zMan l D cI cZ cB cJ cR ks ad Psi) : zMet l D cI cZ cB cJ cR zKS ks ad Psi yX5_bestAsked (.code yX5_bestAsked cX5_bestAsked 7 (some .int)) 5 zc_637 :=
  zmet_of hw 5 (by decide) 4000 zk_637 (by decide) (by decide) (fun X => ⟨zg_RX5 X, zp_RX5 X, zl1_RX5 X, zl2_RX5 X, nilz, (List.forall_mem_cons.mpr ⟨zq_RX5_149 X (zM_0 hw hm) (by decide) rfl, (List.forall_mem_cons.mpr ⟨zq_RX5_233 X (zM_807 hw hm) (by decide) rfl rfl, (List.forall_mem_cons.mpr ⟨zq_RX5_239 X (zM_416 hw hm) (by decide) rfl rfl, (List.forall_mem_cons.mpr ⟨zq_RX5_243 X (zM_755 hw hm) (by decide) rfl rfl, (List.forall_mem_cons.mpr ⟨zq_RX5_250 X (zM_599 hw hm) (by decide) rfl rfl, nilz⟩)⟩)⟩)⟩)⟩)⟩)
set_option maxRecDepth 100000 in
theorem zk_638 : zmeth zKS zuq zNS zm_638 4000 = true := by decide +kernel
set_option maxRecDepth 100000 in
theorem zM_638 {l : Launch} {D : va_G} {cI cZ cB cJ cR : ClassId} {ks ad : List Nat} {Psi : va_W → Prop} (hw : zworld ks ad zuq zNS Psi) (hm : zMan l D cI cZ cB cJ cR ks ad Psi) : zMet l D cI cZ cB cJ cR zKS ks ad Psi yX5_bestAsked (.code yX5_bestAsked cX5_bestAsked 7 (some .int)) 5 zc_638 :=
  zmet_of hw 5 (by decide) 4000 zk_638 (by decide) (by decide) (fun X => ⟨zg_RX5 X, zp_RX5 X, zl1_RX5 X, zl2_RX5 X, nilz, (List.forall_mem_cons.mpr ⟨zq_RX5_149 X (zM_0 hw hm) (by decide) rfl, (List.forall_mem_cons.mpr ⟨zq_RX5_233 X (zM_808 hw hm) (by decide) rfl rfl, (List.forall_mem_cons.mpr ⟨zq_RX5_239 X (zM_476 hw hm) (by decide) rfl rfl, (List.forall_mem_cons.mpr ⟨zq_RX5_243 X (zM_755 hw hm) (by decide) rfl rfl, (List.forall_mem_cons.mpr ⟨zq_RX5_250 X (zM_600 hw hm) (by decide) rfl rfl, nilz⟩)⟩)⟩)⟩)⟩)⟩)
set_option maxRecDepth 100000 in
theorem zk_639 : zmeth zKS zuq zNS zm_639 4000 = true := by decide +kernel
set_option maxRecDepth 100000 in
theorem zM_639 {l : Launch} {D : va_G} {cI cZ cB cJ cR : ClassId} {ks ad : List Nat} {Psi : va_W → Prop} (hw : zworld ks ad zuq zNS Psi) (hm : zMan l D cI cZ cB cJ cR ks ad Psi) : zMet l D cI cZ cB cJ cR zKS ks ad Psi yX5_bestAsked (.code yX5_bestAsked cX5_bestAsked 7 (some .int)) 5 zc_639 :=
  zmet_of hw 5 (by decide) 4000 zk_639 (by decide) (by decide) (fun X => ⟨zg_RX5 X, zp_RX5 X, zl1_RX5 X, zl2_RX5 X, nilz, (List.forall_mem_cons.mpr ⟨zq_RX5_149 X (zM_0 hw hm) (by decide) rfl, (List.forall_mem_cons.mpr ⟨zq_RX5_233 X (zM_809 hw hm) (by decide) rfl rfl, (List.forall_mem_cons.mpr ⟨zq_RX5_239 X (zM_536 hw hm) (by decide) rfl rfl, (List.forall_mem_cons.mpr ⟨zq_RX5_243 X (zM_755 hw hm) (by decide) rfl rfl, (List.forall_mem_cons.mpr ⟨zq_RX5_250 X (zM_601 hw hm) (by decide) rfl rfl, nilz⟩)⟩)⟩)⟩)⟩)⟩)
