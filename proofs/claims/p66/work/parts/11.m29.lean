set_option maxRecDepth 100000 in
theorem zk_808_0 : zm1 zKS zuq zNS zm_808 4000 zt_808_0 = true := by decide +kernel
set_option maxRecDepth 100000 in
theorem zk_808_1 : zm1 zKS zuq zNS zm_808 4000 zt_808_1 = true := by decide +kernel
set_option maxRecDepth 100000 in
theorem zk_808_2 : zm1 zKS zuq zNS zm_808 4000 zt_808_2 = true := by decide +kernel
set_option maxRecDepth 100000 in
theorem zk_808_3 : zm1 zKS zuq zNS zm_808 4000 zt_808_3 = true := by decide +kernel
set_option maxRecDepth 100000 in
theorem zk_808_4 : zm1 zKS zuq zNS zm_808 4000 zt_808_4 = true := by decide +kernel
set_option maxRecDepth 100000 in
theorem zk_808_5 : zm1 zKS zuq zNS zm_808 4000 zt_808_5 = true := by decide +kernel
set_option maxRecDepth 100000 in
theorem zk_808_6 : zm1 zKS zuq zNS zm_808 4000 zt_808_6 = true := by decide +kernel
set_option maxRecDepth 100000 in
theorem zk_808_7 : zm1 zKS zuq zNS zm_808 4000 zt_808_7 = true := by decide +kernel
set_option maxRecDepth 100000 in
theorem zk_808_8 : zm1 zKS zuq zNS zm_808 4000 zt_808_8 = true := by decide +kernel
set_option maxRecDepth 100000 in
theorem zk_808_9 : zm1 zKS zuq zNS zm_808 4000 zt_808_9 = true := by decide +kernel
set_option maxRecDepth 100000 in
theorem zk_808_10 : zm1 zKS zuq zNS zm_808 4000 zt_808_10 = true := by decide +kernel
set_option maxRecDepth 100000 in
theorem zk_808_11 : zm1 zKS zuq zNS zm_808 4000 zt_808_11 = true := by decide +kernel
set_option maxRecDepth 100000 in
theorem zk_808_12 : zm1 zKS zuq zNS zm_808 4000 zt_808_12 = true := by decide +kernel
set_option maxRecDepth 100000 in
theorem zk_808_13 : zm1 zKS zuq zNS zm_808 4000 zt_808_13 = true := by decide +kernel
set_option maxRecDepth 100000 in
theorem zk_808_14 : zm1 zKS zuq zNS zm_808 4000 zt_808_14 = true := by decide +kernel
set_option maxRecDepth 100000 in
theorem zk_808_15 : zm1 zKS zuq zNS zm_808 4000 zt_808_15 = true := by decide +kernel
set_option maxRecDepth 100000 in
theorem zk_808_16 : zm1 zKS zuq zNS zm_808 4000 zt_808_16 = true := by decide +kernel
set_option maxRecDepth 100000 in
theorem zk_808_17 : zm1 zKS zuq zNS zm_808 4000 zt_808_17 = true := by decide +kernel
set_option maxRecDepth 100000 in
theorem zk_808_18 : zm1 zKS zuq zNS zm_808 4000 zt_808_18 = true := by decide +kernel
set_option maxRecDepth 100000 in
theorem zk_808_19 : zm1 zKS zuq zNS zm_808 4000 zt_808_19 = true := by decide +kernel
set_option maxRecDepth 100000 in
theorem zk_808_20 : zm1 zKS zuq zNS zm_808 4000 zt_808_20 = true := by decide +kernel
set_option maxRecDepth 100000 in
theorem zk_808_21 : zm1 zKS zuq zNS zm_808 4000 zt_808_21 = true := by decide +kernel
set_option maxRecDepth 100000 in
theorem zk_808_22 : zm1 zKS zuq zNS zm_808 4000 zt_808_22 = true := by decide +kernel
set_option maxRecDepth 100000 in
theorem zk_808_23 : zm1 zKS zuq zNS zm_808 4000 zt_808_23 = true := by decide +kernel
set_option maxRecDepth 100000 in
theorem zk_808_24 : zm1 zKS zuq zNS zm_808 4000 zt_808_24 = true := by decide +kernel
set_option maxRecDepth 100000 in
theorem zk_808_25 : zm1 zKS zuq zNS zm_808 4000 zt_808_25 = true := by decide +kernel
set_option maxRecDepth 100000 in
theorem zk_808_26 : zm1 zKS zuq zNS zm_808 4000 zt_808_26 = true := by decide +kernel
set_option maxRecDepth 100000 in
theorem zk_808_27 : zm1 zKS zuq zNS zm_808 4000 zt_808_27 = true := by decide +kernel
set_option maxRecDepth 100000 in
theorem zk_808_28 : zm1 zKS zuq zNS zm_808 4000 zt_808_28 = true := by decide +kernel
set_option maxRecDepth 100000 in
theorem zk_808_29 : zm1 zKS zuq zNS zm_808 4000 zt_808_29 = true := by decide +kernel
set_option maxRecDepth 100000 in
theorem zk_808_30 : zm1 zKS zuq zNS zm_808 4000 zt_808_30 = true := by decide +kernel
set_option maxRecDepth 100000 in
theorem zk_808_s : zm0 zKS zuq zNS zm_808 4000 = true := by decide +kernel
theorem zk_808 : zmeth zKS zuq zNS zm_808 4000 = true := zmeth_by zk_808_s (List.forall_mem_cons.mpr ⟨zk_808_0, (List.forall_mem_cons.mpr ⟨zk_808_1, (List.forall_mem_cons.mpr ⟨zk_808_2, (List.forall_mem_cons.mpr ⟨zk_808_3, (List.forall_mem_cons.mpr ⟨zk_808_4, (List.forall_mem_cons.mpr ⟨zk_808_5, (List.forall_mem_cons.mpr ⟨zk_808_6, (List.forall_mem_cons.mpr ⟨zk_808_7, (List.forall_mem_cons.mpr ⟨zk_808_8, (List.forall_mem_cons.mpr ⟨zk_808_9, (List.forall_mem_cons.mpr ⟨zk_808_10, (List.forall_mem_cons.mpr ⟨zk_808_11, (List.forall_mem_cons.mpr ⟨zk_808_12, (List.forall_mem_cons.mpr ⟨zk_808_13, (List.forall_mem_cons.mpr ⟨zk_808_14, (List.forall_mem_cons.mpr ⟨zk_808_15, (List.forall_mem_cons.mpr ⟨zk_808_16, (List.forall_mem_cons.mpr ⟨zk_808_17, (List.forall_mem_cons.mpr ⟨zk_808_18, (List.forall_mem_cons.mpr ⟨zk_808_19, (List.forall_mem_cons.mpr ⟨zk_808_20, (List.forall_mem_cons.mpr ⟨zk_808_21, (List.forall_mem_cons.mpr ⟨zk_808_22, (List.forall_mem_cons.mpr ⟨zk_808_23, (List.forall_mem_cons.mpr ⟨zk_808_24, (List.forall_mem_cons.mpr ⟨zk_808_25, (List.forall_mem_cons.mpr ⟨zk_808_26, (List.forall_mem_cons.mpr ⟨zk_808_27, (List.forall_mem_cons.mpr ⟨zk_808_28, (List.forall_mem_cons.mpr ⟨zk_808_29, (List.forall_mem_cons.mpr ⟨zk_808_30, nilz⟩)⟩)⟩)⟩)⟩)⟩)⟩)⟩)⟩)⟩)⟩)⟩)⟩)⟩)⟩)⟩)⟩)⟩)⟩)⟩)⟩)⟩)⟩)⟩)⟩)⟩)⟩)⟩)⟩)⟩)⟩)
set_option maxRecDepth 100000 in
theorem zM_808 {l : Launch} {D : va_G} {cI cZ cB cJ cR : ClassId} {ks ad : List Nat} {Psi : va_W → Prop} (hw : zworld ks ad zuq zNS Psi) (hm : zMan l D cI cZ cB cJ cR ks ad Psi) : zMet l D cI cZ cB cJ cR zKS ks ad Psi yX5_suspects (.code yX5_suspects cX5_suspects 4 (some .int)) 4 zc_808 :=
  zmet_of hw 4 (by decide) 4000 zk_808 (by decide) (by decide) (fun X => ⟨zg_RX5 X, zp_RX5 X, zl1_RX5 X, zl2_RX5 X, nilz, (List.forall_mem_cons.mpr ⟨zq_RX5_220 X (zM_285 hw hm) (by decide) rfl rfl, (List.forall_mem_cons.mpr ⟨zq_RX5_239 X (zM_476 hw hm) (by decide) rfl rfl, (List.forall_mem_cons.mpr ⟨zq_RX5_239 X (zM_477 hw hm) (by decide) rfl rfl, (List.forall_mem_cons.mpr ⟨zq_RX5_239 X (zM_478 hw hm) (by decide) rfl rfl, (List.forall_mem_cons.mpr ⟨zq_RX5_239 X (zM_479 hw hm) (by decide) rfl rfl, (List.forall_mem_cons.mpr ⟨zq_RX5_239 X (zM_480 hw hm) (by decide) rfl rfl, (List.forall_mem_cons.mpr ⟨zq_RX5_239 X (zM_481 hw hm) (by decide) rfl rfl, (List.forall_mem_cons.mpr ⟨zq_RX5_239 X (zM_482 hw hm) (by decide) rfl rfl, (List.forall_mem_cons.mpr ⟨zq_RX5_239 X (zM_483 hw hm) (by decide) rfl rfl, (List.forall_mem_cons.mpr ⟨zq_RX5_239 X (zM_484 hw hm) (by decide) rfl rfl, (List.forall_mem_cons.mpr ⟨zq_RX5_239 X (zM_485 hw hm) (by decide) rfl rfl, (List.forall_mem_cons.mpr ⟨zq_RX5_239 X (zM_486 hw hm) (by decide) rfl rfl, (List.forall_mem_cons.mpr ⟨zq_RX5_239 X (zM_487 hw hm) (by decide) rfl rfl, (List.forall_mem_cons.mpr ⟨zq_RX5_239 X (zM_488 hw hm) (by decide) rfl rfl, (List.forall_mem_cons.mpr ⟨zq_RX5_239 X (zM_489 hw hm) (by decide) rfl rfl, (List.forall_mem_cons.mpr ⟨zq_RX5_239 X (zM_490 hw hm) (by decide) rfl rfl, (List.forall_mem_cons.mpr ⟨zq_RX5_239 X (zM_491 hw hm) (by decide) rfl rfl, (List.forall_mem_cons.mpr ⟨zq_RX5_239 X (zM_492 hw hm) (by decide) rfl rfl, (List.forall_mem_cons.mpr ⟨zq_RX5_239 X (zM_493 hw hm) (by decide) rfl rfl, (List.forall_mem_cons.mpr ⟨zq_RX5_239 X (zM_494 hw hm) (by decide) rfl rfl, (List.forall_mem_cons.mpr ⟨zq_RX5_239 X (zM_495 hw hm) (by decide) rfl rfl, (List.forall_mem_cons.mpr ⟨zq_RX5_239 X (zM_496 hw hm) (by decide) rfl rfl, (List.forall_mem_cons.mpr ⟨zq_RX5_239 X (zM_497 hw hm) (by decide) rfl rfl, (List.forall_mem_cons.mpr ⟨zq_RX5_239 X (zM_498 hw hm) (by decide) rfl rfl, (List.forall_mem_cons.mpr ⟨zq_RX5_239 X (zM_499 hw hm) (by decide) rfl rfl, (List.forall_mem_cons.mpr ⟨zq_RX5_239 X (zM_500 hw hm) (by decide) rfl rfl, (List.forall_mem_cons.mpr ⟨zq_RX5_239 X (zM_501 hw hm) (by decide) rfl rfl, (List.forall_mem_cons.mpr ⟨zq_RX5_239 X (zM_502 hw hm) (by decide) rfl rfl, (List.forall_mem_cons.mpr ⟨zq_RX5_239 X (zM_503 hw hm) (by decide) rfl rfl, (List.forall_mem_cons.mpr ⟨zq_RX5_239 X (zM_504 hw hm) (by decide) rfl rfl, (List.forall_mem_cons.mpr ⟨zq_RX5_239 X (zM_505 hw hm) (by decide) rfl rfl, (List.forall_mem_cons.mpr ⟨zq_RX5_239 X (zM_506 hw hm) (by decide) rfl rfl, (List.forall_mem_cons.mpr ⟨zq_RX5_239 X (zM_507 hw hm) (by decide) rfl rfl, (List.forall_mem_cons.mpr ⟨zq_RX5_239 X (zM_508 hw hm) (by decide) rfl rfl, (List.forall_mem_cons.mpr ⟨zq_RX5_239 X (zM_509 hw hm) (by decide) rfl rfl, (List.forall_mem_cons.mpr ⟨zq_RX5_239 X (zM_510 hw hm) (by decide) rfl rfl, (List.forall_mem_cons.mpr ⟨zq_RX5_239 X (zM_511 hw hm) (by decide) rfl rfl, (List.forall_mem_cons.mpr ⟨zq_RX5_239 X (zM_512 hw hm) (by decide) rfl rfl, (List.forall_mem_cons.mpr ⟨zq_RX5_239 X (zM_513 hw hm) (by decide) rfl rfl, (List.forall_mem_cons.mpr ⟨zq_RX5_239 X (zM_514 hw hm) (by decide) rfl rfl, (List.forall_mem_cons.mpr ⟨zq_RX5_239 X (zM_515 hw hm) (by decide) rfl rfl, (List.forall_mem_cons.mpr ⟨zq_RX5_239 X (zM_516 hw hm) (by decide) rfl rfl, (List.forall_mem_cons.mpr ⟨zq_RX5_239 X (zM_517 hw hm) (by decide) rfl rfl, (List.forall_mem_cons.mpr ⟨zq_RX5_239 X (zM_518 hw hm) (by decide) rfl rfl, (List.forall_mem_cons.mpr ⟨zq_RX5_239 X (zM_519 hw hm) (by decide) rfl rfl, (List.forall_mem_cons.mpr ⟨zq_RX5_239 X (zM_520 hw hm) (by decide) rfl rfl, (List.forall_mem_cons.mpr ⟨zq_RX5_239 X (zM_521 hw hm) (by decide) rfl rfl, (List.forall_mem_cons.mpr ⟨zq_RX5_239 X (zM_522 hw hm) (by decide) rfl rfl, (List.forall_mem_cons.mpr ⟨zq_RX5_239 X (zM_523 hw hm) (by decide) rfl rfl, (List.forall_mem_cons.mpr ⟨zq_RX5_239 X (zM_524 hw hm) (by decide) rfl rfl, (List.forall_mem_cons.mpr ⟨zq_RX5_239 X (zM_525 hw hm) (by decide) rfl rfl, (List.forall_mem_cons.mpr ⟨zq_RX5_239 X (zM_526 hw hm) (by decide) rfl rfl, (List.forall_mem_cons.mpr ⟨zq_RX5_239 X (zM_527 hw hm) (by decide) rfl rfl, (List.forall_mem_cons.mpr ⟨zq_RX5_239 X (zM_528 hw hm) (by decide) rfl rfl, (List.forall_mem_cons.mpr ⟨zq_RX5_239 X (zM_529 hw hm) (by decide) rfl rfl, (List.forall_mem_cons.mpr ⟨zq_RX5_239 X (zM_530 hw hm) (by decide) rfl rfl, (List.forall_mem_cons.mpr ⟨zq_RX5_239 X (zM_531 hw hm) (by decide) rfl rfl, (List.forall_mem_cons.mpr ⟨zq_RX5_239 X (zM_532 hw hm) (by decide) rfl rfl, (List.forall_mem_cons.mpr ⟨zq_RX5_239 X (zM_533 hw hm) (by decide) rfl rfl, (List.forall_mem_cons.mpr ⟨zq_RX5_239 X (zM_534 hw hm) (by decide) rfl rfl, (List.forall_mem_cons.mpr ⟨zq_RX5_239 X (zM_535 hw hm) (by decide) rfl rfl, (List.forall_mem_cons.mpr ⟨zq_RX5_250 X (zM_600 hw hm) (by decide) rfl rfl, nilz⟩)⟩)⟩)⟩)⟩)⟩)⟩)⟩)⟩)⟩)⟩)⟩)⟩)⟩)⟩)⟩)⟩)⟩)⟩)⟩)⟩)⟩)⟩)⟩)⟩)⟩)⟩)⟩)⟩)⟩)⟩)⟩)⟩)⟩)⟩)⟩)⟩)⟩)⟩)⟩)⟩)⟩)⟩)⟩)⟩)⟩)⟩)⟩)⟩)⟩)⟩)⟩)⟩)⟩)⟩)⟩)⟩)⟩)⟩)⟩)⟩)⟩)⟩)
