set_option maxRecDepth 100000 in
theorem zk_812_0 : zm1 zKS zuq zNS zm_812 4000 zt_812_0 = true := z1F (zdt_X5_suspects) (by decide +kernel)
set_option maxRecDepth 100000 in
theorem zk_812_1 : zm1 zKS zuq zNS zm_812 4000 zt_812_1 = true := z1F (zdt_X5_suspects) (by decide +kernel)
set_option maxRecDepth 100000 in
theorem zk_812_2 : zm1 zKS zuq zNS zm_812 4000 zt_812_2 = true := z1F (zdt_X5_suspects) (by decide +kernel)
set_option maxRecDepth 100000 in
theorem zk_812_3 : zm1 zKS zuq zNS zm_812 4000 zt_812_3 = true := z1F (zdt_X5_suspects) (by decide +kernel)
set_option maxRecDepth 100000 in
theorem zk_812_4 : zm1 zKS zuq zNS zm_812 4000 zt_812_4 = true := z1F (zdt_X5_suspects) (by decide +kernel)
set_option maxRecDepth 100000 in
theorem zk_812_5 : zm1 zKS zuq zNS zm_812 4000 zt_812_5 = true := z1F (zdt_X5_suspects) (by decide +kernel)
set_option maxRecDepth 100000 in
theorem zk_812_6 : zm1 zKS zuq zNS zm_812 4000 zt_812_6 = true := z1F (zdt_X5_suspects) (by decide +kernel)
set_option maxRecDepth 100000 in
theorem zk_812_7 : zm1 zKS zuq zNS zm_812 4000 zt_812_7 = true := z1F (zdt_X5_suspects) (by decide +kernel)
set_option maxRecDepth 100000 in
theorem zk_812_8 : zm1 zKS zuq zNS zm_812 4000 zt_812_8 = true := z1F (zdt_X5_suspects) (by decide +kernel)
set_option maxRecDepth 100000 in
theorem zk_812_9 : zm1 zKS zuq zNS zm_812 4000 zt_812_9 = true := z1F (zdt_X5_suspects) (by decide +kernel)
set_option maxRecDepth 100000 in
theorem zk_812_10 : zm1 zKS zuq zNS zm_812 4000 zt_812_10 = true := z1F (zdt_X5_suspects) (by decide +kernel)
set_option maxRecDepth 100000 in
theorem zk_812_11 : zm1 zKS zuq zNS zm_812 4000 zt_812_11 = true := z1F (zdt_X5_suspects) (by decide +kernel)
set_option maxRecDepth 100000 in
theorem zk_812_12 : zm1 zKS zuq zNS zm_812 4000 zt_812_12 = true := z1F (zdt_X5_suspects) (by decide +kernel)
set_option maxRecDepth 100000 in
theorem zk_812_13 : zm1 zKS zuq zNS zm_812 4000 zt_812_13 = true := z1F (zdt_X5_suspects) (by decide +kernel)
set_option maxRecDepth 100000 in
theorem zk_812_14 : zm1 zKS zuq zNS zm_812 4000 zt_812_14 = true := z1F (zdt_X5_suspects) (by decide +kernel)
set_option maxRecDepth 100000 in
theorem zk_812_15 : zm1 zKS zuq zNS zm_812 4000 zt_812_15 = true := z1F (zdt_X5_suspects) (by decide +kernel)
set_option maxRecDepth 100000 in
theorem zk_812_16 : zm1 zKS zuq zNS zm_812 4000 zt_812_16 = true := z1F (zdt_X5_suspects) (by decide +kernel)
set_option maxRecDepth 100000 in
theorem zk_812_17 : zm1 zKS zuq zNS zm_812 4000 zt_812_17 = true := z1F (zdt_X5_suspects) (by decide +kernel)
set_option maxRecDepth 100000 in
theorem zk_812_18 : zm1 zKS zuq zNS zm_812 4000 zt_812_18 = true := z1F (zdt_X5_suspects) (by decide +kernel)
set_option maxRecDepth 100000 in
theorem zk_812_19 : zm1 zKS zuq zNS zm_812 4000 zt_812_19 = true := z1F (zdt_X5_suspects) (by decide +kernel)
set_option maxRecDepth 100000 in
theorem zk_812_20 : zm1 zKS zuq zNS zm_812 4000 zt_812_20 = true := z1F (zdt_X5_suspects) (by decide +kernel)
set_option maxRecDepth 100000 in
theorem zk_812_21 : zm1 zKS zuq zNS zm_812 4000 zt_812_21 = true := z1F (zdt_X5_suspects) (by decide +kernel)
set_option maxRecDepth 100000 in
theorem zk_812_22 : zm1 zKS zuq zNS zm_812 4000 zt_812_22 = true := z1F (zdt_X5_suspects) (by decide +kernel)
set_option maxRecDepth 100000 in
theorem zk_812_23 : zm1 zKS zuq zNS zm_812 4000 zt_812_23 = true := z1F (zdt_X5_suspects) (by decide +kernel)
set_option maxRecDepth 100000 in
theorem zk_812_24 : zm1 zKS zuq zNS zm_812 4000 zt_812_24 = true := z1F (zdt_X5_suspects) (by decide +kernel)
set_option maxRecDepth 100000 in
theorem zk_812_25 : zm1 zKS zuq zNS zm_812 4000 zt_812_25 = true := z1F (zdt_X5_suspects) (by decide +kernel)
set_option maxRecDepth 100000 in
theorem zk_812_26 : zm1 zKS zuq zNS zm_812 4000 zt_812_26 = true := z1F (zdt_X5_suspects) (by decide +kernel)
set_option maxRecDepth 100000 in
theorem zk_812_27 : zm1 zKS zuq zNS zm_812 4000 zt_812_27 = true := z1F (zdt_X5_suspects) (by decide +kernel)
set_option maxRecDepth 100000 in
theorem zk_812_28 : zm1 zKS zuq zNS zm_812 4000 zt_812_28 = true := z1F (zdt_X5_suspects) (by decide +kernel)
set_option maxRecDepth 100000 in
theorem zk_812_29 : zm1 zKS zuq zNS zm_812 4000 zt_812_29 = true := z1F (zdt_X5_suspects) (by decide +kernel)
set_option maxRecDepth 100000 in
theorem zk_812_30 : zm1 zKS zuq zNS zm_812 4000 zt_812_30 = true := z1F (zdt_X5_suspects) (by decide +kernel)
set_option maxRecDepth 100000 in
theorem zk_812_s : zm0 zKS zuq zNS zm_812 4000 = true := z0F (zdt_X5_suspects) (by decide +kernel)
set_option maxRecDepth 100000 in
theorem zk_812 : zmeth zKS zuq zNS zm_812 4000 = true := zmeth_by zk_812_s (List.forall_mem_cons.mpr ⟨zk_812_0, (List.forall_mem_cons.mpr ⟨zk_812_1, (List.forall_mem_cons.mpr ⟨zk_812_2, (List.forall_mem_cons.mpr ⟨zk_812_3, (List.forall_mem_cons.mpr ⟨zk_812_4, (List.forall_mem_cons.mpr ⟨zk_812_5, (List.forall_mem_cons.mpr ⟨zk_812_6, (List.forall_mem_cons.mpr ⟨zk_812_7, (List.forall_mem_cons.mpr ⟨zk_812_8, (List.forall_mem_cons.mpr ⟨zk_812_9, (List.forall_mem_cons.mpr ⟨zk_812_10, (List.forall_mem_cons.mpr ⟨zk_812_11, (List.forall_mem_cons.mpr ⟨zk_812_12, (List.forall_mem_cons.mpr ⟨zk_812_13, (List.forall_mem_cons.mpr ⟨zk_812_14, (List.forall_mem_cons.mpr ⟨zk_812_15, (List.forall_mem_cons.mpr ⟨zk_812_16, (List.forall_mem_cons.mpr ⟨zk_812_17, (List.forall_mem_cons.mpr ⟨zk_812_18, (List.forall_mem_cons.mpr ⟨zk_812_19, (List.forall_mem_cons.mpr ⟨zk_812_20, (List.forall_mem_cons.mpr ⟨zk_812_21, (List.forall_mem_cons.mpr ⟨zk_812_22, (List.forall_mem_cons.mpr ⟨zk_812_23, (List.forall_mem_cons.mpr ⟨zk_812_24, (List.forall_mem_cons.mpr ⟨zk_812_25, (List.forall_mem_cons.mpr ⟨zk_812_26, (List.forall_mem_cons.mpr ⟨zk_812_27, (List.forall_mem_cons.mpr ⟨zk_812_28, (List.forall_mem_cons.mpr ⟨zk_812_29, (List.forall_mem_cons.mpr ⟨zk_812_30, nilz⟩)⟩)⟩)⟩)⟩)⟩)⟩)⟩)⟩)⟩)⟩)⟩)⟩)⟩)⟩)⟩)⟩)⟩)⟩)⟩)⟩)⟩)⟩)⟩)⟩)⟩)⟩)⟩)⟩)⟩)⟩)
set_option maxRecDepth 100000 in
theorem zM_812 {l : Launch} {D : va_G} {cI cZ cB cJ cR : ClassId} {ks ad : List Nat} {Psi : va_W → Prop} (hw : zworld ks ad zuq zNS Psi) (hm : zMan l D cI cZ cB cJ cR ks ad Psi) : zMet l D cI cZ cB cJ cR zKS ks ad Psi yX5_suspects (.code yX5_suspects cX5_suspects 4 (some .int)) 4 zc_812 :=
  zmet_of hw 4 (by decide) 4000 zk_812 (by decide) (by decide) (fun X => ⟨zg_RX5 X, zp_RX5 X, zl1_RX5 X, zl2_RX5 X, nilz, (List.forall_mem_cons.mpr ⟨zq_RX5_220 X (zM_285 hw hm) (by decide) rfl rfl, (List.forall_mem_cons.mpr ⟨zq_RX5_239 X (zM_480 hw hm) (by decide) rfl rfl, (List.forall_mem_cons.mpr ⟨zq_RX5_239 X (zM_481 hw hm) (by decide) rfl rfl, (List.forall_mem_cons.mpr ⟨zq_RX5_239 X (zM_482 hw hm) (by decide) rfl rfl, (List.forall_mem_cons.mpr ⟨zq_RX5_239 X (zM_483 hw hm) (by decide) rfl rfl, (List.forall_mem_cons.mpr ⟨zq_RX5_239 X (zM_484 hw hm) (by decide) rfl rfl, (List.forall_mem_cons.mpr ⟨zq_RX5_239 X (zM_485 hw hm) (by decide) rfl rfl, (List.forall_mem_cons.mpr ⟨zq_RX5_239 X (zM_486 hw hm) (by decide) rfl rfl, (List.forall_mem_cons.mpr ⟨zq_RX5_239 X (zM_487 hw hm) (by decide) rfl rfl, (List.forall_mem_cons.mpr ⟨zq_RX5_239 X (zM_488 hw hm) (by decide) rfl rfl, (List.forall_mem_cons.mpr ⟨zq_RX5_239 X (zM_489 hw hm) (by decide) rfl rfl, (List.forall_mem_cons.mpr ⟨zq_RX5_239 X (zM_490 hw hm) (by decide) rfl rfl, (List.forall_mem_cons.mpr ⟨zq_RX5_239 X (zM_491 hw hm) (by decide) rfl rfl, (List.forall_mem_cons.mpr ⟨zq_RX5_239 X (zM_492 hw hm) (by decide) rfl rfl, (List.forall_mem_cons.mpr ⟨zq_RX5_239 X (zM_493 hw hm) (by decide) rfl rfl, (List.forall_mem_cons.mpr ⟨zq_RX5_239 X (zM_494 hw hm) (by decide) rfl rfl, (List.forall_mem_cons.mpr ⟨zq_RX5_239 X (zM_495 hw hm) (by decide) rfl rfl, (List.forall_mem_cons.mpr ⟨zq_RX5_239 X (zM_496 hw hm) (by decide) rfl rfl, (List.forall_mem_cons.mpr ⟨zq_RX5_239 X (zM_497 hw hm) (by decide) rfl rfl, (List.forall_mem_cons.mpr ⟨zq_RX5_239 X (zM_498 hw hm) (by decide) rfl rfl, (List.forall_mem_cons.mpr ⟨zq_RX5_239 X (zM_499 hw hm) (by decide) rfl rfl, (List.forall_mem_cons.mpr ⟨zq_RX5_239 X (zM_500 hw hm) (by decide) rfl rfl, (List.forall_mem_cons.mpr ⟨zq_RX5_239 X (zM_501 hw hm) (by decide) rfl rfl, (List.forall_mem_cons.mpr ⟨zq_RX5_239 X (zM_502 hw hm) (by decide) rfl rfl, (List.forall_mem_cons.mpr ⟨zq_RX5_239 X (zM_503 hw hm) (by decide) rfl rfl, (List.forall_mem_cons.mpr ⟨zq_RX5_239 X (zM_504 hw hm) (by decide) rfl rfl, (List.forall_mem_cons.mpr ⟨zq_RX5_239 X (zM_505 hw hm) (by decide) rfl rfl, (List.forall_mem_cons.mpr ⟨zq_RX5_239 X (zM_506 hw hm) (by decide) rfl rfl, (List.forall_mem_cons.mpr ⟨zq_RX5_239 X (zM_507 hw hm) (by decide) rfl rfl, (List.forall_mem_cons.mpr ⟨zq_RX5_239 X (zM_508 hw hm) (by decide) rfl rfl, (List.forall_mem_cons.mpr ⟨zq_RX5_239 X (zM_509 hw hm) (by decide) rfl rfl, (List.forall_mem_cons.mpr ⟨zq_RX5_239 X (zM_510 hw hm) (by decide) rfl rfl, (List.forall_mem_cons.mpr ⟨zq_RX5_239 X (zM_511 hw hm) (by decide) rfl rfl, (List.forall_mem_cons.mpr ⟨zq_RX5_239 X (zM_512 hw hm) (by decide) rfl rfl, (List.forall_mem_cons.mpr ⟨zq_RX5_239 X (zM_513 hw hm) (by decide) rfl rfl, (List.forall_mem_cons.mpr ⟨zq_RX5_239 X (zM_514 hw hm) (by decide) rfl rfl, (List.forall_mem_cons.mpr ⟨zq_RX5_239 X (zM_515 hw hm) (by decide) rfl rfl, (List.forall_mem_cons.mpr ⟨zq_RX5_239 X (zM_516 hw hm) (by decide) rfl rfl, (List.forall_mem_cons.mpr ⟨zq_RX5_239 X (zM_517 hw hm) (by decide) rfl rfl, (List.forall_mem_cons.mpr ⟨zq_RX5_239 X (zM_518 hw hm) (by decide) rfl rfl, (List.forall_mem_cons.mpr ⟨zq_RX5_239 X (zM_519 hw hm) (by decide) rfl rfl, (List.forall_mem_cons.mpr ⟨zq_RX5_239 X (zM_520 hw hm) (by decide) rfl rfl, (List.forall_mem_cons.mpr ⟨zq_RX5_239 X (zM_521 hw hm) (by decide) rfl rfl, (List.forall_mem_cons.mpr ⟨zq_RX5_239 X (zM_522 hw hm) (by decide) rfl rfl, (List.forall_mem_cons.mpr ⟨zq_RX5_239 X (zM_523 hw hm) (by decide) rfl rfl, (List.forall_mem_cons.mpr ⟨zq_RX5_239 X (zM_524 hw hm) (by decide) rfl rfl, (List.forall_mem_cons.mpr ⟨zq_RX5_239 X (zM_525 hw hm) (by decide) rfl rfl, (List.forall_mem_cons.mpr ⟨zq_RX5_239 X (zM_526 hw hm) (by decide) rfl rfl, (List.forall_mem_cons.mpr ⟨zq_RX5_239 X (zM_527 hw hm) (by decide) rfl rfl, (List.forall_mem_cons.mpr ⟨zq_RX5_239 X (zM_528 hw hm) (by decide) rfl rfl, (List.forall_mem_cons.mpr ⟨zq_RX5_239 X (zM_529 hw hm) (by decide) rfl rfl, (List.forall_mem_cons.mpr ⟨zq_RX5_239 X (zM_530 hw hm) (by decide) rfl rfl, (List.forall_mem_cons.mpr ⟨zq_RX5_239 X (zM_531 hw hm) (by decide) rfl rfl, (List.forall_mem_cons.mpr ⟨zq_RX5_239 X (zM_532 hw hm) (by decide) rfl rfl, (List.forall_mem_cons.mpr ⟨zq_RX5_239 X (zM_533 hw hm) (by decide) rfl rfl, (List.forall_mem_cons.mpr ⟨zq_RX5_239 X (zM_534 hw hm) (by decide) rfl rfl, (List.forall_mem_cons.mpr ⟨zq_RX5_239 X (zM_535 hw hm) (by decide) rfl rfl, (List.forall_mem_cons.mpr ⟨zq_RX5_239 X (zM_536 hw hm) (by decide) rfl rfl, (List.forall_mem_cons.mpr ⟨zq_RX5_239 X (zM_537 hw hm) (by decide) rfl rfl, (List.forall_mem_cons.mpr ⟨zq_RX5_239 X (zM_538 hw hm) (by decide) rfl rfl, (List.forall_mem_cons.mpr ⟨zq_RX5_239 X (zM_539 hw hm) (by decide) rfl rfl, (List.forall_mem_cons.mpr ⟨zq_RX5_250 X (zM_604 hw hm) (by decide) rfl rfl, nilz⟩)⟩)⟩)⟩)⟩)⟩)⟩)⟩)⟩)⟩)⟩)⟩)⟩)⟩)⟩)⟩)⟩)⟩)⟩)⟩)⟩)⟩)⟩)⟩)⟩)⟩)⟩)⟩)⟩)⟩)⟩)⟩)⟩)⟩)⟩)⟩)⟩)⟩)⟩)⟩)⟩)⟩)⟩)⟩)⟩)⟩)⟩)⟩)⟩)⟩)⟩)⟩)⟩)⟩)⟩)⟩)⟩)⟩)⟩)⟩)⟩)⟩)⟩)
set_option maxRecDepth 100000 in
theorem zk_813_0 : zm1 zKS zuq zNS zm_813 4000 zt_813_0 = true := z1F (zdt_X5_suspects) (by decide +kernel)
set_option maxRecDepth 100000 in
theorem zk_813_1 : zm1 zKS zuq zNS zm_813 4000 zt_813_1 = true := z1F (zdt_X5_suspects) (by decide +kernel)
set_option maxRecDepth 100000 in
theorem zk_813_2 : zm1 zKS zuq zNS zm_813 4000 zt_813_2 = true := z1F (zdt_X5_suspects) (by decide +kernel)
set_option maxRecDepth 100000 in
theorem zk_813_3 : zm1 zKS zuq zNS zm_813 4000 zt_813_3 = true := z1F (zdt_X5_suspects) (by decide +kernel)
set_option maxRecDepth 100000 in
theorem zk_813_4 : zm1 zKS zuq zNS zm_813 4000 zt_813_4 = true := z1F (zdt_X5_suspects) (by decide +kernel)
set_option maxRecDepth 100000 in
theorem zk_813_5 : zm1 zKS zuq zNS zm_813 4000 zt_813_5 = true := z1F (zdt_X5_suspects) (by decide +kernel)
set_option maxRecDepth 100000 in
theorem zk_813_6 : zm1 zKS zuq zNS zm_813 4000 zt_813_6 = true := z1F (zdt_X5_suspects) (by decide +kernel)
set_option maxRecDepth 100000 in
theorem zk_813_7 : zm1 zKS zuq zNS zm_813 4000 zt_813_7 = true := z1F (zdt_X5_suspects) (by decide +kernel)
set_option maxRecDepth 100000 in
theorem zk_813_8 : zm1 zKS zuq zNS zm_813 4000 zt_813_8 = true := z1F (zdt_X5_suspects) (by decide +kernel)
set_option maxRecDepth 100000 in
theorem zk_813_9 : zm1 zKS zuq zNS zm_813 4000 zt_813_9 = true := z1F (zdt_X5_suspects) (by decide +kernel)
set_option maxRecDepth 100000 in
theorem zk_813_10 : zm1 zKS zuq zNS zm_813 4000 zt_813_10 = true := z1F (zdt_X5_suspects) (by decide +kernel)
set_option maxRecDepth 100000 in
theorem zk_813_11 : zm1 zKS zuq zNS zm_813 4000 zt_813_11 = true := z1F (zdt_X5_suspects) (by decide +kernel)
set_option maxRecDepth 100000 in
theorem zk_813_12 : zm1 zKS zuq zNS zm_813 4000 zt_813_12 = true := z1F (zdt_X5_suspects) (by decide +kernel)
set_option maxRecDepth 100000 in
theorem zk_813_13 : zm1 zKS zuq zNS zm_813 4000 zt_813_13 = true := z1F (zdt_X5_suspects) (by decide +kernel)
set_option maxRecDepth 100000 in
theorem zk_813_14 : zm1 zKS zuq zNS zm_813 4000 zt_813_14 = true := z1F (zdt_X5_suspects) (by decide +kernel)
set_option maxRecDepth 100000 in
theorem zk_813_15 : zm1 zKS zuq zNS zm_813 4000 zt_813_15 = true := z1F (zdt_X5_suspects) (by decide +kernel)
set_option maxRecDepth 100000 in
theorem zk_813_16 : zm1 zKS zuq zNS zm_813 4000 zt_813_16 = true := z1F (zdt_X5_suspects) (by decide +kernel)
set_option maxRecDepth 100000 in
theorem zk_813_17 : zm1 zKS zuq zNS zm_813 4000 zt_813_17 = true := z1F (zdt_X5_suspects) (by decide +kernel)
set_option maxRecDepth 100000 in
theorem zk_813_18 : zm1 zKS zuq zNS zm_813 4000 zt_813_18 = true := z1F (zdt_X5_suspects) (by decide +kernel)
set_option maxRecDepth 100000 in
theorem zk_813_19 : zm1 zKS zuq zNS zm_813 4000 zt_813_19 = true := z1F (zdt_X5_suspects) (by decide +kernel)
set_option maxRecDepth 100000 in
theorem zk_813_20 : zm1 zKS zuq zNS zm_813 4000 zt_813_20 = true := z1F (zdt_X5_suspects) (by decide +kernel)
set_option maxRecDepth 100000 in
theorem zk_813_21 : zm1 zKS zuq zNS zm_813 4000 zt_813_21 = true := z1F (zdt_X5_suspects) (by decide +kernel)
set_option maxRecDepth 100000 in
theorem zk_813_22 : zm1 zKS zuq zNS zm_813 4000 zt_813_22 = true := z1F (zdt_X5_suspects) (by decide +kernel)
set_option maxRecDepth 100000 in
theorem zk_813_23 : zm1 zKS zuq zNS zm_813 4000 zt_813_23 = true := z1F (zdt_X5_suspects) (by decide +kernel)
set_option maxRecDepth 100000 in
theorem zk_813_24 : zm1 zKS zuq zNS zm_813 4000 zt_813_24 = true := z1F (zdt_X5_suspects) (by decide +kernel)
set_option maxRecDepth 100000 in
theorem zk_813_25 : zm1 zKS zuq zNS zm_813 4000 zt_813_25 = true := z1F (zdt_X5_suspects) (by decide +kernel)
set_option maxRecDepth 100000 in
theorem zk_813_26 : zm1 zKS zuq zNS zm_813 4000 zt_813_26 = true := z1F (zdt_X5_suspects) (by decide +kernel)
set_option maxRecDepth 100000 in
theorem zk_813_27 : zm1 zKS zuq zNS zm_813 4000 zt_813_27 = true := z1F (zdt_X5_suspects) (by decide +kernel)
set_option maxRecDepth 100000 in
theorem zk_813_28 : zm1 zKS zuq zNS zm_813 4000 zt_813_28 = true := z1F (zdt_X5_suspects) (by decide +kernel)
set_option maxRecDepth 100000 in
theorem zk_813_29 : zm1 zKS zuq zNS zm_813 4000 zt_813_29 = true := z1F (zdt_X5_suspects) (by decide +kernel)
set_option maxRecDepth 100000 in
theorem zk_813_30 : zm1 zKS zuq zNS zm_813 4000 zt_813_30 = true := z1F (zdt_X5_suspects) (by decide +kernel)
set_option maxRecDepth 100000 in
theorem zk_813_s : zm0 zKS zuq zNS zm_813 4000 = true := z0F (zdt_X5_suspects) (by decide +kernel)
set_option maxRecDepth 100000 in
theorem zk_813 : zmeth zKS zuq zNS zm_813 4000 = true := zmeth_by zk_813_s (List.forall_mem_cons.mpr ⟨zk_813_0, (List.forall_mem_cons.mpr ⟨zk_813_1, (List.forall_mem_cons.mpr ⟨zk_813_2, (List.forall_mem_cons.mpr ⟨zk_813_3, (List.forall_mem_cons.mpr ⟨zk_813_4, (List.forall_mem_cons.mpr ⟨zk_813_5, (List.forall_mem_cons.mpr ⟨zk_813_6, (List.forall_mem_cons.mpr ⟨zk_813_7, (List.forall_mem_cons.mpr ⟨zk_813_8, (List.forall_mem_cons.mpr ⟨zk_813_9, (List.forall_mem_cons.mpr ⟨zk_813_10, (List.forall_mem_cons.mpr ⟨zk_813_11, (List.forall_mem_cons.mpr ⟨zk_813_12, (List.forall_mem_cons.mpr ⟨zk_813_13, (List.forall_mem_cons.mpr ⟨zk_813_14, (List.forall_mem_cons.mpr ⟨zk_813_15, (List.forall_mem_cons.mpr ⟨zk_813_16, (List.forall_mem_cons.mpr ⟨zk_813_17, (List.forall_mem_cons.mpr ⟨zk_813_18, (List.forall_mem_cons.mpr ⟨zk_813_19, (List.forall_mem_cons.mpr ⟨zk_813_20, (List.forall_mem_cons.mpr ⟨zk_813_21, (List.forall_mem_cons.mpr ⟨zk_813_22, (List.forall_mem_cons.mpr ⟨zk_813_23, (List.forall_mem_cons.mpr ⟨zk_813_24, (List.forall_mem_cons.mpr ⟨zk_813_25, (List.forall_mem_cons.mpr ⟨zk_813_26, (List.forall_mem_cons.mpr ⟨zk_813_27, (List.forall_mem_cons.mpr ⟨zk_813_28, (List.forall_mem_cons.mpr ⟨zk_813_29, (List.forall_mem_cons.mpr ⟨zk_813_30, nilz⟩)⟩)⟩)⟩)⟩)⟩)⟩)⟩)⟩)⟩)⟩)⟩)⟩)⟩)⟩)⟩)⟩)⟩)⟩)⟩)⟩)⟩)⟩)⟩)⟩)⟩)⟩)⟩)⟩)⟩)⟩)
set_option maxRecDepth 100000 in
theorem zM_813 {l : Launch} {D : va_G} {cI cZ cB cJ cR : ClassId} {ks ad : List Nat} {Psi : va_W → Prop} (hw : zworld ks ad zuq zNS Psi) (hm : zMan l D cI cZ cB cJ cR ks ad Psi) : zMet l D cI cZ cB cJ cR zKS ks ad Psi yX5_suspects (.code yX5_suspects cX5_suspects 4 (some .int)) 4 zc_813 :=
  zmet_of hw 4 (by decide) 4000 zk_813 (by decide) (by decide) (fun X => ⟨zg_RX5 X, zp_RX5 X, zl1_RX5 X, zl2_RX5 X, nilz, (List.forall_mem_cons.mpr ⟨zq_RX5_220 X (zM_285 hw hm) (by decide) rfl rfl, (List.forall_mem_cons.mpr ⟨zq_RX5_239 X (zM_540 hw hm) (by decide) rfl rfl, (List.forall_mem_cons.mpr ⟨zq_RX5_239 X (zM_541 hw hm) (by decide) rfl rfl, (List.forall_mem_cons.mpr ⟨zq_RX5_239 X (zM_542 hw hm) (by decide) rfl rfl, (List.forall_mem_cons.mpr ⟨zq_RX5_239 X (zM_543 hw hm) (by decide) rfl rfl, (List.forall_mem_cons.mpr ⟨zq_RX5_239 X (zM_544 hw hm) (by decide) rfl rfl, (List.forall_mem_cons.mpr ⟨zq_RX5_239 X (zM_545 hw hm) (by decide) rfl rfl, (List.forall_mem_cons.mpr ⟨zq_RX5_239 X (zM_546 hw hm) (by decide) rfl rfl, (List.forall_mem_cons.mpr ⟨zq_RX5_239 X (zM_547 hw hm) (by decide) rfl rfl, (List.forall_mem_cons.mpr ⟨zq_RX5_239 X (zM_548 hw hm) (by decide) rfl rfl, (List.forall_mem_cons.mpr ⟨zq_RX5_239 X (zM_549 hw hm) (by decide) rfl rfl, (List.forall_mem_cons.mpr ⟨zq_RX5_239 X (zM_550 hw hm) (by decide) rfl rfl, (List.forall_mem_cons.mpr ⟨zq_RX5_239 X (zM_551 hw hm) (by decide) rfl rfl, (List.forall_mem_cons.mpr ⟨zq_RX5_239 X (zM_552 hw hm) (by decide) rfl rfl, (List.forall_mem_cons.mpr ⟨zq_RX5_239 X (zM_553 hw hm) (by decide) rfl rfl, (List.forall_mem_cons.mpr ⟨zq_RX5_239 X (zM_554 hw hm) (by decide) rfl rfl, (List.forall_mem_cons.mpr ⟨zq_RX5_239 X (zM_555 hw hm) (by decide) rfl rfl, (List.forall_mem_cons.mpr ⟨zq_RX5_239 X (zM_556 hw hm) (by decide) rfl rfl, (List.forall_mem_cons.mpr ⟨zq_RX5_239 X (zM_557 hw hm) (by decide) rfl rfl, (List.forall_mem_cons.mpr ⟨zq_RX5_239 X (zM_558 hw hm) (by decide) rfl rfl, (List.forall_mem_cons.mpr ⟨zq_RX5_239 X (zM_559 hw hm) (by decide) rfl rfl, (List.forall_mem_cons.mpr ⟨zq_RX5_239 X (zM_560 hw hm) (by decide) rfl rfl, (List.forall_mem_cons.mpr ⟨zq_RX5_239 X (zM_561 hw hm) (by decide) rfl rfl, (List.forall_mem_cons.mpr ⟨zq_RX5_239 X (zM_562 hw hm) (by decide) rfl rfl, (List.forall_mem_cons.mpr ⟨zq_RX5_239 X (zM_563 hw hm) (by decide) rfl rfl, (List.forall_mem_cons.mpr ⟨zq_RX5_239 X (zM_564 hw hm) (by decide) rfl rfl, (List.forall_mem_cons.mpr ⟨zq_RX5_239 X (zM_565 hw hm) (by decide) rfl rfl, (List.forall_mem_cons.mpr ⟨zq_RX5_239 X (zM_566 hw hm) (by decide) rfl rfl, (List.forall_mem_cons.mpr ⟨zq_RX5_239 X (zM_567 hw hm) (by decide) rfl rfl, (List.forall_mem_cons.mpr ⟨zq_RX5_239 X (zM_568 hw hm) (by decide) rfl rfl, (List.forall_mem_cons.mpr ⟨zq_RX5_239 X (zM_569 hw hm) (by decide) rfl rfl, (List.forall_mem_cons.mpr ⟨zq_RX5_239 X (zM_570 hw hm) (by decide) rfl rfl, (List.forall_mem_cons.mpr ⟨zq_RX5_239 X (zM_571 hw hm) (by decide) rfl rfl, (List.forall_mem_cons.mpr ⟨zq_RX5_239 X (zM_572 hw hm) (by decide) rfl rfl, (List.forall_mem_cons.mpr ⟨zq_RX5_239 X (zM_573 hw hm) (by decide) rfl rfl, (List.forall_mem_cons.mpr ⟨zq_RX5_239 X (zM_574 hw hm) (by decide) rfl rfl, (List.forall_mem_cons.mpr ⟨zq_RX5_239 X (zM_575 hw hm) (by decide) rfl rfl, (List.forall_mem_cons.mpr ⟨zq_RX5_239 X (zM_576 hw hm) (by decide) rfl rfl, (List.forall_mem_cons.mpr ⟨zq_RX5_239 X (zM_577 hw hm) (by decide) rfl rfl, (List.forall_mem_cons.mpr ⟨zq_RX5_239 X (zM_578 hw hm) (by decide) rfl rfl, (List.forall_mem_cons.mpr ⟨zq_RX5_239 X (zM_579 hw hm) (by decide) rfl rfl, (List.forall_mem_cons.mpr ⟨zq_RX5_239 X (zM_580 hw hm) (by decide) rfl rfl, (List.forall_mem_cons.mpr ⟨zq_RX5_239 X (zM_581 hw hm) (by decide) rfl rfl, (List.forall_mem_cons.mpr ⟨zq_RX5_239 X (zM_582 hw hm) (by decide) rfl rfl, (List.forall_mem_cons.mpr ⟨zq_RX5_239 X (zM_583 hw hm) (by decide) rfl rfl, (List.forall_mem_cons.mpr ⟨zq_RX5_239 X (zM_584 hw hm) (by decide) rfl rfl, (List.forall_mem_cons.mpr ⟨zq_RX5_239 X (zM_585 hw hm) (by decide) rfl rfl, (List.forall_mem_cons.mpr ⟨zq_RX5_239 X (zM_586 hw hm) (by decide) rfl rfl, (List.forall_mem_cons.mpr ⟨zq_RX5_239 X (zM_587 hw hm) (by decide) rfl rfl, (List.forall_mem_cons.mpr ⟨zq_RX5_239 X (zM_588 hw hm) (by decide) rfl rfl, (List.forall_mem_cons.mpr ⟨zq_RX5_239 X (zM_589 hw hm) (by decide) rfl rfl, (List.forall_mem_cons.mpr ⟨zq_RX5_239 X (zM_590 hw hm) (by decide) rfl rfl, (List.forall_mem_cons.mpr ⟨zq_RX5_239 X (zM_591 hw hm) (by decide) rfl rfl, (List.forall_mem_cons.mpr ⟨zq_RX5_239 X (zM_592 hw hm) (by decide) rfl rfl, (List.forall_mem_cons.mpr ⟨zq_RX5_239 X (zM_593 hw hm) (by decide) rfl rfl, (List.forall_mem_cons.mpr ⟨zq_RX5_239 X (zM_594 hw hm) (by decide) rfl rfl, (List.forall_mem_cons.mpr ⟨zq_RX5_239 X (zM_595 hw hm) (by decide) rfl rfl, (List.forall_mem_cons.mpr ⟨zq_RX5_239 X (zM_596 hw hm) (by decide) rfl rfl, (List.forall_mem_cons.mpr ⟨zq_RX5_239 X (zM_597 hw hm) (by decide) rfl rfl, (List.forall_mem_cons.mpr ⟨zq_RX5_239 X (zM_598 hw hm) (by decide) rfl rfl, (List.forall_mem_cons.mpr ⟨zq_RX5_239 X (zM_599 hw hm) (by decide) rfl rfl, (List.forall_mem_cons.mpr ⟨zq_RX5_250 X (zM_605 hw hm) (by decide) rfl rfl, nilz⟩)⟩)⟩)⟩)⟩)⟩)⟩)⟩)⟩)⟩)⟩)⟩)⟩)⟩)⟩)⟩)⟩)⟩)⟩)⟩)⟩)⟩)⟩)⟩)⟩)⟩)⟩)⟩)⟩)⟩)⟩)⟩)⟩)⟩)⟩)⟩)⟩)⟩)⟩)⟩)⟩)⟩)⟩)⟩)⟩)⟩)⟩)⟩)⟩)⟩)⟩)⟩)⟩)⟩)⟩)⟩)⟩)⟩)⟩)⟩)⟩)⟩)⟩)
set_option maxRecDepth 100000 in
theorem zk_814 : zmeth zKS zuq zNS zm_814 4000 = true := zqF (zdt0 _) (by decide +kernel)
theorem zM_814 {l : Launch} {D : va_G} {cI cZ cB cJ cR : ClassId} {ks ad : List Nat} {Psi : va_W → Prop} (hw : zworld ks ad zuq zNS Psi) (hm : zMan l D cI cZ cB cJ cR ks ad Psi) : zMet l D cI cZ cB cJ cR zKS ks ad Psi yX5_swear (.code yX5_swear cX5_swear 3 (some .int)) 4 zc_814 :=
  zmet_of hw 4 (by decide) 4000 zk_814 (by decide) (by decide) (fun X => ⟨zg_RX5 X, zp_RX5 X, zl1_RX5 X, zl2_RX5 X, nilz, (List.forall_mem_cons.mpr ⟨zq_RX5_83 X (zM_303 hw hm) (by decide) rfl rfl, (List.forall_mem_cons.mpr ⟨zq_RX5_179 X (zM_302 hw hm) (by decide) rfl rfl, (List.forall_mem_cons.mpr ⟨zq_RX5_296 X (zM_323 hw hm) (by decide) rfl rfl, nilz⟩)⟩)⟩)⟩)
set_option maxRecDepth 100000 in
theorem zk_817 : zmeth zKS zuq zNS zm_817 4000 = true := zqF (zdt0 _) (by decide +kernel)
theorem zM_817 {l : Launch} {D : va_G} {cI cZ cB cJ cR : ClassId} {ks ad : List Nat} {Psi : va_W → Prop} (hw : zworld ks ad zuq zNS Psi) (hm : zMan l D cI cZ cB cJ cR ks ad Psi) : zMet l D cI cZ cB cJ cR zKS ks ad Psi yX5_tell (.code yX5_tell cX5_tell 5 (some .int)) 4 zc_817 :=
  zmet_of hw 4 (by decide) 4000 zk_817 (by decide) (by decide) (fun X => ⟨zg_RX5 X, zp_RX5 X, zl1_RX5 X, zl2_RX5 X, (List.forall_mem_cons.mpr ⟨zs_low X lm_59_2, (List.forall_mem_cons.mpr ⟨zs_high X lm_59_3, nilz⟩)⟩), (List.forall_mem_cons.mpr ⟨zq_RX5_71 X (zM_764 hw hm) (by decide) rfl rfl, (List.forall_mem_cons.mpr ⟨zq_RX5_115 X (zM_287 hw hm) (by decide) rfl rfl, nilz⟩)⟩)⟩)
set_option maxRecDepth 100000 in
theorem zk_821 : zmeth zKS zuq zNS zm_821 4000 = true := zqF (zdt0 _) (by decide +kernel)
theorem zM_821 {l : Launch} {D : va_G} {cI cZ cB cJ cR : ClassId} {ks ad : List Nat} {Psi : va_W → Prop} (hw : zworld ks ad zuq zNS Psi) (hm : zMan l D cI cZ cB cJ cR ks ad Psi) : zMet l D cI cZ cB cJ cR zKS ks ad Psi yX5_undo (.code yX5_undo cX5_undo 1 (some .int)) 4 zc_821 :=
  zmet_of hw 4 (by decide) 4000 zk_821 (by decide) (by decide) (fun X => ⟨zg_RX5 X, zp_RX5 X, zl1_RX5 X, zl2_RX5 X, nilz, (List.forall_mem_cons.mpr ⟨zq_RX5_71 X (zM_764 hw hm) (by decide) rfl rfl, (List.forall_mem_cons.mpr ⟨zq_RX5_115 X (zM_287 hw hm) (by decide) rfl rfl, (List.forall_mem_cons.mpr ⟨zq_RX5_302 X (zman_325 hm) (by decide) rfl rfl, nilz⟩)⟩)⟩)⟩)
set_option maxRecDepth 100000 in
theorem zk_828 : zmeth zKS zuq zNS zm_828 4000 = true := zqF (zdt0 _) (by decide +kernel)
theorem zM_828 {l : Launch} {D : va_G} {cI cZ cB cJ cR : ClassId} {ks ad : List Nat} {Psi : va_W → Prop} (hw : zworld ks ad zuq zNS Psi) (hm : zMan l D cI cZ cB cJ cR ks ad Psi) : zMet l D cI cZ cB cJ cR zKS ks ad Psi yX5_worst (.code yX5_worst cX5_worst 5 (some .int)) 4 zc_828 :=
  zmet_of hw 4 (by decide) 4000 zk_828 (by decide) (by decide) (fun X => ⟨zg_RX5 X, zp_RX5 X, zl1_RX5 X, zl2_RX5 X, nilz, (List.forall_mem_cons.mpr ⟨zq_RX5_115 X (zM_287 hw hm) (by decide) rfl rfl, (List.forall_mem_cons.mpr ⟨zq_RX5_137 X (zM_288 hw hm) (by decide) rfl rfl, nilz⟩)⟩)⟩)
