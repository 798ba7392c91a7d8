set_option maxRecDepth 100000 in
theorem zk_657_0 : zm1 zKS zuq zNS zm_657 4000 zt_657_0 = true := z1F (by decide +kernel)
set_option maxRecDepth 100000 in
theorem zk_657_1 : zm1 zKS zuq zNS zm_657 4000 zt_657_1 = true := z1F (by decide +kernel)
set_option maxRecDepth 100000 in
theorem zk_657_2 : zm1 zKS zuq zNS zm_657 4000 zt_657_2 = true := z1F (by decide +kernel)
set_option maxRecDepth 100000 in
theorem zk_657_3 : zm1 zKS zuq zNS zm_657 4000 zt_657_3 = true := z1F (by decide +kernel)
set_option maxRecDepth 100000 in
theorem zk_657_4 : zm1 zKS zuq zNS zm_657 4000 zt_657_4 = true := z1F (by decide +kernel)
set_option maxRecDepth 100000 in
theorem zk_657_5 : zm1 zKS zuq zNS zm_657 4000 zt_657_5 = true := z1F (by decide +kernel)
set_option maxRecDepth 100000 in
theorem zk_657_6 : zm1 zKS zuq zNS zm_657 4000 zt_657_6 = true := z1F (by decide +kernel)
set_option maxRecDepth 100000 in
theorem zk_657_7 : zm1 zKS zuq zNS zm_657 4000 zt_657_7 = true := z1F (by decide +kernel)
set_option maxRecDepth 100000 in
theorem zk_657_8 : zm1 zKS zuq zNS zm_657 4000 zt_657_8 = true := z1F (by decide +kernel)
set_option maxRecDepth 100000 in
theorem zk_657_9 : zm1 zKS zuq zNS zm_657 4000 zt_657_9 = true := z1F (by decide +kernel)
set_option maxRecDepth 100000 in
theorem zk_657_10 : zm1 zKS zuq zNS zm_657 4000 zt_657_10 = true := z1F (by decide +kernel)
set_option maxRecDepth 100000 in
theorem zk_657_11 : zm1 zKS zuq zNS zm_657 4000 zt_657_11 = true := z1F (by decide +kernel)
set_option maxRecDepth 100000 in
theorem zk_657_12 : zm1 zKS zuq zNS zm_657 4000 zt_657_12 = true := z1F (by decide +kernel)
set_option maxRecDepth 100000 in
theorem zk_657_13 : zm1 zKS zuq zNS zm_657 4000 zt_657_13 = true := z1F (by decide +kernel)
set_option maxRecDepth 100000 in
theorem zk_657_14 : zm1 zKS zuq zNS zm_657 4000 zt_657_14 = true := z1F (by decide +kernel)
set_option maxRecDepth 100000 in
theorem zk_657_15 : zm1 zKS zuq zNS zm_657 4000 zt_657_15 = true := z1F (by decide +kernel)
set_option maxRecDepth 100000 in
theorem zk_657_16 : zm1 zKS zuq zNS zm_657 4000 zt_657_16 = true := z1F (by decide +kernel)
set_option maxRecDepth 100000 in
theorem zk_657_17 : zm1 zKS zuq zNS zm_657 4000 zt_657_17 = true := z1F (by decide +kernel)
set_option maxRecDepth 100000 in
theorem zk_657_18 : zm1 zKS zuq zNS zm_657 4000 zt_657_18 = true := z1F (by decide +kernel)
set_option maxRecDepth 100000 in
theorem zk_657_19 : zm1 zKS zuq zNS zm_657 4000 zt_657_19 = true := z1F (by decide +kernel)
set_option maxRecDepth 100000 in
theorem zk_657_20 : zm1 zKS zuq zNS zm_657 4000 zt_657_20 = true := z1F (by decide +kernel)
set_option maxRecDepth 100000 in
theorem zk_657_s : zm0 zKS zuq zNS zm_657 4000 = true := z0F (by decide +kernel)
set_option maxRecDepth 100000 in
theorem zk_657 : zmeth zKS zuq zNS zm_657 4000 = true := zmeth_by zk_657_s (List.forall_mem_cons.mpr ⟨zk_657_0, (List.forall_mem_cons.mpr ⟨zk_657_1, (List.forall_mem_cons.mpr ⟨zk_657_2, (List.forall_mem_cons.mpr ⟨zk_657_3, (List.forall_mem_cons.mpr ⟨zk_657_4, (List.forall_mem_cons.mpr ⟨zk_657_5, (List.forall_mem_cons.mpr ⟨zk_657_6, (List.forall_mem_cons.mpr ⟨zk_657_7, (List.forall_mem_cons.mpr ⟨zk_657_8, (List.forall_mem_cons.mpr ⟨zk_657_9, (List.forall_mem_cons.mpr ⟨zk_657_10, (List.forall_mem_cons.mpr ⟨zk_657_11, (List.forall_mem_cons.mpr ⟨zk_657_12, (List.forall_mem_cons.mpr ⟨zk_657_13, (List.forall_mem_cons.mpr ⟨zk_657_14, (List.forall_mem_cons.mpr ⟨zk_657_15, (List.forall_mem_cons.mpr ⟨zk_657_16, (List.forall_mem_cons.mpr ⟨zk_657_17, (List.forall_mem_cons.mpr ⟨zk_657_18, (List.forall_mem_cons.mpr ⟨zk_657_19, (List.forall_mem_cons.mpr ⟨zk_657_20, nilz⟩)⟩)⟩)⟩)⟩)⟩)⟩)⟩)⟩)⟩)⟩)⟩)⟩)⟩)⟩)⟩)⟩)⟩)⟩)⟩)⟩)
set_option maxRecDepth 100000 in
theorem zM_657 {l : Launch} {D : va_G} {cI cZ cB cJ cR : ClassId} {ks ad : List Nat} {Psi : va_W → Prop} (hw : zworld ks ad zuq zNS Psi) (hm : zMan l D cI cZ cB cJ cR ks ad Psi) : zMet l D cI cZ cB cJ cR zKS ks ad Psi yX5_explain (.code yX5_explain cX5_explain 3 none) 5 zc_657 :=
  zmet_of hw 5 (by decide) 4000 zk_657 (by decide) (by decide) (fun X => ⟨zg_RX5 X, zp_RX5 X, zl1_RX5 X, zl2_RX5 X, nilz, (List.forall_mem_cons.mpr ⟨zq_RX5_239 X (zM_476 hw hm) (by decide) rfl rfl, (List.forall_mem_cons.mpr ⟨zq_RX5_239 X (zM_477 hw hm) (by decide) rfl rfl, (List.forall_mem_cons.mpr ⟨zq_RX5_239 X (zM_478 hw hm) (by decide) rfl rfl, (List.forall_mem_cons.mpr ⟨zq_RX5_239 X (zM_479 hw hm) (by decide) rfl rfl, (List.forall_mem_cons.mpr ⟨zq_RX5_239 X (zM_480 hw hm) (by decide) rfl rfl, (List.forall_mem_cons.mpr ⟨zq_RX5_239 X (zM_481 hw hm) (by decide) rfl rfl, (List.forall_mem_cons.mpr ⟨zq_RX5_239 X (zM_482 hw hm) (by decide) rfl rfl, (List.forall_mem_cons.mpr ⟨zq_RX5_239 X (zM_483 hw hm) (by decide) rfl rfl, (List.forall_mem_cons.mpr ⟨zq_RX5_239 X (zM_484 hw hm) (by decide) rfl rfl, (List.forall_mem_cons.mpr ⟨zq_RX5_239 X (zM_485 hw hm) (by decide) rfl rfl, (List.forall_mem_cons.mpr ⟨zq_RX5_239 X (zM_486 hw hm) (by decide) rfl rfl, (List.forall_mem_cons.mpr ⟨zq_RX5_239 X (zM_487 hw hm) (by decide) rfl rfl, (List.forall_mem_cons.mpr ⟨zq_RX5_239 X (zM_488 hw hm) (by decide) rfl rfl, (List.forall_mem_cons.mpr ⟨zq_RX5_239 X (zM_489 hw hm) (by decide) rfl rfl, (List.forall_mem_cons.mpr ⟨zq_RX5_239 X (zM_490 hw hm) (by decide) rfl rfl, (List.forall_mem_cons.mpr ⟨zq_RX5_239 X (zM_491 hw hm) (by decide) rfl rfl, (List.forall_mem_cons.mpr ⟨zq_RX5_239 X (zM_492 hw hm) (by decide) rfl rfl, (List.forall_mem_cons.mpr ⟨zq_RX5_239 X (zM_493 hw hm) (by decide) rfl rfl, (List.forall_mem_cons.mpr ⟨zq_RX5_239 X (zM_494 hw hm) (by decide) rfl rfl, (List.forall_mem_cons.mpr ⟨zq_RX5_239 X (zM_495 hw hm) (by decide) rfl rfl, (List.forall_mem_cons.mpr ⟨zq_RX5_239 X (zM_496 hw hm) (by decide) rfl rfl, (List.forall_mem_cons.mpr ⟨zq_RX5_239 X (zM_497 hw hm) (by decide) rfl rfl, (List.forall_mem_cons.mpr ⟨zq_RX5_239 X (zM_498 hw hm) (by decide) rfl rfl, (List.forall_mem_cons.mpr ⟨zq_RX5_239 X (zM_499 hw hm) (by decide) rfl rfl, (List.forall_mem_cons.mpr ⟨zq_RX5_239 X (zM_500 hw hm) (by decide) rfl rfl, (List.forall_mem_cons.mpr ⟨zq_RX5_239 X (zM_501 hw hm) (by decide) rfl rfl, (List.forall_mem_cons.mpr ⟨zq_RX5_239 X (zM_502 hw hm) (by decide) rfl rfl, (List.forall_mem_cons.mpr ⟨zq_RX5_239 X (zM_503 hw hm) (by decide) rfl rfl, (List.forall_mem_cons.mpr ⟨zq_RX5_239 X (zM_504 hw hm) (by decide) rfl rfl, (List.forall_mem_cons.mpr ⟨zq_RX5_239 X (zM_505 hw hm) (by decide) rfl rfl, (List.forall_mem_cons.mpr ⟨zq_RX5_239 X (zM_506 hw hm) (by decide) rfl rfl, (List.forall_mem_cons.mpr ⟨zq_RX5_239 X (zM_507 hw hm) (by decide) rfl rfl, (List.forall_mem_cons.mpr ⟨zq_RX5_239 X (zM_508 hw hm) (by decide) rfl rfl, (List.forall_mem_cons.mpr ⟨zq_RX5_239 X (zM_509 hw hm) (by decide) rfl rfl, (List.forall_mem_cons.mpr ⟨zq_RX5_239 X (zM_510 hw hm) (by decide) rfl rfl, (List.forall_mem_cons.mpr ⟨zq_RX5_239 X (zM_511 hw hm) (by decide) rfl rfl, (List.forall_mem_cons.mpr ⟨zq_RX5_239 X (zM_512 hw hm) (by decide) rfl rfl, (List.forall_mem_cons.mpr ⟨zq_RX5_239 X (zM_513 hw hm) (by decide) rfl rfl, (List.forall_mem_cons.mpr ⟨zq_RX5_239 X (zM_514 hw hm) (by decide) rfl rfl, (List.forall_mem_cons.mpr ⟨zq_RX5_239 X (zM_515 hw hm) (by decide) rfl rfl, (List.forall_mem_cons.mpr ⟨zq_RX5_239 X (zM_516 hw hm) (by decide) rfl rfl, (List.forall_mem_cons.mpr ⟨zq_RX5_239 X (zM_517 hw hm) (by decide) rfl rfl, (List.forall_mem_cons.mpr ⟨zq_RX5_239 X (zM_518 hw hm) (by decide) rfl rfl, (List.forall_mem_cons.mpr ⟨zq_RX5_239 X (zM_519 hw hm) (by decide) rfl rfl, (List.forall_mem_cons.mpr ⟨zq_RX5_239 X (zM_520 hw hm) (by decide) rfl rfl, (List.forall_mem_cons.mpr ⟨zq_RX5_239 X (zM_521 hw hm) (by decide) rfl rfl, (List.forall_mem_cons.mpr ⟨zq_RX5_239 X (zM_522 hw hm) (by decide) rfl rfl, (List.forall_mem_cons.mpr ⟨zq_RX5_239 X (zM_523 hw hm) (by decide) rfl rfl, (List.forall_mem_cons.mpr ⟨zq_RX5_239 X (zM_524 hw hm) (by decide) rfl rfl, (List.forall_mem_cons.mpr ⟨zq_RX5_239 X (zM_525 hw hm) (by decide) rfl rfl, (List.forall_mem_cons.mpr ⟨zq_RX5_239 X (zM_526 hw hm) (by decide) rfl rfl, (List.forall_mem_cons.mpr ⟨zq_RX5_239 X (zM_527 hw hm) (by decide) rfl rfl, (List.forall_mem_cons.mpr ⟨zq_RX5_239 X (zM_528 hw hm) (by decide) rfl rfl, (List.forall_mem_cons.mpr ⟨zq_RX5_239 X (zM_529 hw hm) (by decide) rfl rfl, (List.forall_mem_cons.mpr ⟨zq_RX5_239 X (zM_530 hw hm) (by decide) rfl rfl, (List.forall_mem_cons.mpr ⟨zq_RX5_239 X (zM_531 hw hm) (by decide) rfl rfl, (List.forall_mem_cons.mpr ⟨zq_RX5_239 X (zM_532 hw hm) (by decide) rfl rfl, (List.forall_mem_cons.mpr ⟨zq_RX5_239 X (zM_533 hw hm) (by decide) rfl rfl, (List.forall_mem_cons.mpr ⟨zq_RX5_239 X (zM_534 hw hm) (by decide) rfl rfl, (List.forall_mem_cons.mpr ⟨zq_RX5_239 X (zM_535 hw hm) (by decide) rfl rfl, (List.forall_mem_cons.mpr ⟨zq_RX5_250 X (zM_600 hw hm) (by decide) rfl rfl, (List.forall_mem_cons.mpr ⟨zq_RX5_358 X (zM_344 hw hm) (by decide) rfl rfl, (List.forall_mem_cons.mpr ⟨zq_RX5_361 X (zM_343 hw hm) (by decide) rfl rfl, (List.forall_mem_cons.mpr ⟨zq_RX5_365 X (zM_345 hw hm) (by decide) rfl rfl, nilz⟩)⟩)⟩)⟩)⟩)⟩)⟩)⟩)⟩)⟩)⟩)⟩)⟩)⟩)⟩)⟩)⟩)⟩)⟩)⟩)⟩)⟩)⟩)⟩)⟩)⟩)⟩)⟩)⟩)⟩)⟩)⟩)⟩)⟩)⟩)⟩)⟩)⟩)⟩)⟩)⟩)⟩)⟩)⟩)⟩)⟩)⟩)⟩)⟩)⟩)⟩)⟩)⟩)⟩)⟩)⟩)⟩)⟩)⟩)⟩)⟩)⟩)⟩)⟩)⟩)
set_option maxRecDepth 100000 in
theorem zk_658_0 : zm1 zKS zuq zNS zm_658 4000 zt_658_0 = true := z1F (by decide +kernel)
set_option maxRecDepth 100000 in
theorem zk_658_1 : zm1 zKS zuq zNS zm_658 4000 zt_658_1 = true := z1F (by decide +kernel)
set_option maxRecDepth 100000 in
theorem zk_658_2 : zm1 zKS zuq zNS zm_658 4000 zt_658_2 = true := z1F (by decide +kernel)
set_option maxRecDepth 100000 in
theorem zk_658_3 : zm1 zKS zuq zNS zm_658 4000 zt_658_3 = true := z1F (by decide +kernel)
set_option maxRecDepth 100000 in
theorem zk_658_4 : zm1 zKS zuq zNS zm_658 4000 zt_658_4 = true := z1F (by decide +kernel)
set_option maxRecDepth 100000 in
theorem zk_658_5 : zm1 zKS zuq zNS zm_658 4000 zt_658_5 = true := z1F (by decide +kernel)
set_option maxRecDepth 100000 in
theorem zk_658_6 : zm1 zKS zuq zNS zm_658 4000 zt_658_6 = true := z1F (by decide +kernel)
set_option maxRecDepth 100000 in
theorem zk_658_7 : zm1 zKS zuq zNS zm_658 4000 zt_658_7 = true := z1F (by decide +kernel)
set_option maxRecDepth 100000 in
theorem zk_658_8 : zm1 zKS zuq zNS zm_658 4000 zt_658_8 = true := z1F (by decide +kernel)
set_option maxRecDepth 100000 in
theorem zk_658_9 : zm1 zKS zuq zNS zm_658 4000 zt_658_9 = true := z1F (by decide +kernel)
set_option maxRecDepth 100000 in
theorem zk_658_10 : zm1 zKS zuq zNS zm_658 4000 zt_658_10 = true := z1F (by decide +kernel)
set_option maxRecDepth 100000 in
theorem zk_658_11 : zm1 zKS zuq zNS zm_658 4000 zt_658_11 = true := z1F (by decide +kernel)
set_option maxRecDepth 100000 in
theorem zk_658_12 : zm1 zKS zuq zNS zm_658 4000 zt_658_12 = true := z1F (by decide +kernel)
set_option maxRecDepth 100000 in
theorem zk_658_13 : zm1 zKS zuq zNS zm_658 4000 zt_658_13 = true := z1F (by decide +kernel)
set_option maxRecDepth 100000 in
theorem zk_658_14 : zm1 zKS zuq zNS zm_658 4000 zt_658_14 = true := z1F (by decide +kernel)
set_option maxRecDepth 100000 in
theorem zk_658_15 : zm1 zKS zuq zNS zm_658 4000 zt_658_15 = true := z1F (by decide +kernel)
set_option maxRecDepth 100000 in
theorem zk_658_16 : zm1 zKS zuq zNS zm_658 4000 zt_658_16 = true := z1F (by decide +kernel)
set_option maxRecDepth 100000 in
theorem zk_658_17 : zm1 zKS zuq zNS zm_658 4000 zt_658_17 = true := z1F (by decide +kernel)
set_option maxRecDepth 100000 in
theorem zk_658_18 : zm1 zKS zuq zNS zm_658 4000 zt_658_18 = true := z1F (by decide +kernel)
set_option maxRecDepth 100000 in
theorem zk_658_19 : zm1 zKS zuq zNS zm_658 4000 zt_658_19 = true := z1F (by decide +kernel)
set_option maxRecDepth 100000 in
theorem zk_658_20 : zm1 zKS zuq zNS zm_658 4000 zt_658_20 = true := z1F (by decide +kernel)
set_option maxRecDepth 100000 in
theorem zk_658_s : zm0 zKS zuq zNS zm_658 4000 = true := z0F (by decide +kernel)
set_option maxRecDepth 100000 in
theorem zk_658 : zmeth zKS zuq zNS zm_658 4000 = true := zmeth_by zk_658_s (List.forall_mem_cons.mpr ⟨zk_658_0, (List.forall_mem_cons.mpr ⟨zk_658_1, (List.forall_mem_cons.mpr ⟨zk_658_2, (List.forall_mem_cons.mpr ⟨zk_658_3, (List.forall_mem_cons.mpr ⟨zk_658_4, (List.forall_mem_cons.mpr ⟨zk_658_5, (List.forall_mem_cons.mpr ⟨zk_658_6, (List.forall_mem_cons.mpr ⟨zk_658_7, (List.forall_mem_cons.mpr ⟨zk_658_8, (List.forall_mem_cons.mpr ⟨zk_658_9, (List.forall_mem_cons.mpr ⟨zk_658_10, (List.forall_mem_cons.mpr ⟨zk_658_11, (List.forall_mem_cons.mpr ⟨zk_658_12, (List.forall_mem_cons.mpr ⟨zk_658_13, (List.forall_mem_cons.mpr ⟨zk_658_14, (List.forall_mem_cons.mpr ⟨zk_658_15, (List.forall_mem_cons.mpr ⟨zk_658_16, (List.forall_mem_cons.mpr ⟨zk_658_17, (List.forall_mem_cons.mpr ⟨zk_658_18, (List.forall_mem_cons.mpr ⟨zk_658_19, (List.forall_mem_cons.mpr ⟨zk_658_20, nilz⟩)⟩)⟩)⟩)⟩)⟩)⟩)⟩)⟩)⟩)⟩)⟩)⟩)⟩)⟩)⟩)⟩)⟩)⟩)⟩)⟩)
set_option maxRecDepth 100000 in
theorem zM_658 {l : Launch} {D : va_G} {cI cZ cB cJ cR : ClassId} {ks ad : List Nat} {Psi : va_W → Prop} (hw : zworld ks ad zuq zNS Psi) (hm : zMan l D cI cZ cB cJ cR ks ad Psi) : zMet l D cI cZ cB cJ cR zKS ks ad Psi yX5_explain (.code yX5_explain cX5_explain 3 none) 5 zc_658 :=
  zmet_of hw 5 (by decide) 4000 zk_658 (by decide) (by decide) (fun X => ⟨zg_RX5 X, zp_RX5 X, zl1_RX5 X, zl2_RX5 X, nilz, (List.forall_mem_cons.mpr ⟨zq_RX5_239 X (zM_536 hw hm) (by decide) rfl rfl, (List.forall_mem_cons.mpr ⟨zq_RX5_239 X (zM_537 hw hm) (by decide) rfl rfl, (List.forall_mem_cons.mpr ⟨zq_RX5_239 X (zM_538 hw hm) (by decide) rfl rfl, (List.forall_mem_cons.mpr ⟨zq_RX5_239 X (zM_539 hw hm) (by decide) rfl rfl, (List.forall_mem_cons.mpr ⟨zq_RX5_239 X (zM_540 hw hm) (by decide) rfl rfl, (List.forall_mem_cons.mpr ⟨zq_RX5_239 X (zM_541 hw hm) (by decide) rfl rfl, (List.forall_mem_cons.mpr ⟨zq_RX5_239 X (zM_542 hw hm) (by decide) rfl rfl, (List.forall_mem_cons.mpr ⟨zq_RX5_239 X (zM_543 hw hm) (by decide) rfl rfl, (List.forall_mem_cons.mpr ⟨zq_RX5_239 X (zM_544 hw hm) (by decide) rfl rfl, (List.forall_mem_cons.mpr ⟨zq_RX5_239 X (zM_545 hw hm) (by decide) rfl rfl, (List.forall_mem_cons.mpr ⟨zq_RX5_239 X (zM_546 hw hm) (by decide) rfl rfl, (List.forall_mem_cons.mpr ⟨zq_RX5_239 X (zM_547 hw hm) (by decide) rfl rfl, (List.forall_mem_cons.mpr ⟨zq_RX5_239 X (zM_548 hw hm) (by decide) rfl rfl, (List.forall_mem_cons.mpr ⟨zq_RX5_239 X (zM_549 hw hm) (by decide) rfl rfl, (List.forall_mem_cons.mpr ⟨zq_RX5_239 X (zM_550 hw hm) (by decide) rfl rfl, (List.forall_mem_cons.mpr ⟨zq_RX5_239 X (zM_551 hw hm) (by decide) rfl rfl, (List.forall_mem_cons.mpr ⟨zq_RX5_239 X (zM_552 hw hm) (by decide) rfl rfl, (List.forall_mem_cons.mpr ⟨zq_RX5_239 X (zM_553 hw hm) (by decide) rfl rfl, (List.forall_mem_cons.mpr ⟨zq_RX5_239 X (zM_554 hw hm) (by decide) rfl rfl, (List.forall_mem_cons.mpr ⟨zq_RX5_239 X (zM_555 hw hm) (by decide) rfl rfl, (List.forall_mem_cons.mpr ⟨zq_RX5_239 X (zM_556 hw hm) (by decide) rfl rfl, (List.forall_mem_cons.mpr ⟨zq_RX5_239 X (zM_557 hw hm) (by decide) rfl rfl, (List.forall_mem_cons.mpr ⟨zq_RX5_239 X (zM_558 hw hm) (by decide) rfl rfl, (List.forall_mem_cons.mpr ⟨zq_RX5_239 X (zM_559 hw hm) (by decide) rfl rfl, (List.forall_mem_cons.mpr ⟨zq_RX5_239 X (zM_560 hw hm) (by decide) rfl rfl, (List.forall_mem_cons.mpr ⟨zq_RX5_239 X (zM_561 hw hm) (by decide) rfl rfl, (List.forall_mem_cons.mpr ⟨zq_RX5_239 X (zM_562 hw hm) (by decide) rfl rfl, (List.forall_mem_cons.mpr ⟨zq_RX5_239 X (zM_563 hw hm) (by decide) rfl rfl, (List.forall_mem_cons.mpr ⟨zq_RX5_239 X (zM_564 hw hm) (by decide) rfl rfl, (List.forall_mem_cons.mpr ⟨zq_RX5_239 X (zM_565 hw hm) (by decide) rfl rfl, (List.forall_mem_cons.mpr ⟨zq_RX5_239 X (zM_566 hw hm) (by decide) rfl rfl, (List.forall_mem_cons.mpr ⟨zq_RX5_239 X (zM_567 hw hm) (by decide) rfl rfl, (List.forall_mem_cons.mpr ⟨zq_RX5_239 X (zM_568 hw hm) (by decide) rfl rfl, (List.forall_mem_cons.mpr ⟨zq_RX5_239 X (zM_569 hw hm) (by decide) rfl rfl, (List.forall_mem_cons.mpr ⟨zq_RX5_239 X (zM_570 hw hm) (by decide) rfl rfl, (List.forall_mem_cons.mpr ⟨zq_RX5_239 X (zM_571 hw hm) (by decide) rfl rfl, (List.forall_mem_cons.mpr ⟨zq_RX5_239 X (zM_572 hw hm) (by decide) rfl rfl, (List.forall_mem_cons.mpr ⟨zq_RX5_239 X (zM_573 hw hm) (by decide) rfl rfl, (List.forall_mem_cons.mpr ⟨zq_RX5_239 X (zM_574 hw hm) (by decide) rfl rfl, (List.forall_mem_cons.mpr ⟨zq_RX5_239 X (zM_575 hw hm) (by decide) rfl rfl, (List.forall_mem_cons.mpr ⟨zq_RX5_239 X (zM_576 hw hm) (by decide) rfl rfl, (List.forall_mem_cons.mpr ⟨zq_RX5_239 X (zM_577 hw hm) (by decide) rfl rfl, (List.forall_mem_cons.mpr ⟨zq_RX5_239 X (zM_578 hw hm) (by decide) rfl rfl, (List.forall_mem_cons.mpr ⟨zq_RX5_239 X (zM_579 hw hm) (by decide) rfl rfl, (List.forall_mem_cons.mpr ⟨zq_RX5_239 X (zM_580 hw hm) (by decide) rfl rfl, (List.forall_mem_cons.mpr ⟨zq_RX5_239 X (zM_581 hw hm) (by decide) rfl rfl, (List.forall_mem_cons.mpr ⟨zq_RX5_239 X (zM_582 hw hm) (by decide) rfl rfl, (List.forall_mem_cons.mpr ⟨zq_RX5_239 X (zM_583 hw hm) (by decide) rfl rfl, (List.forall_mem_cons.mpr ⟨zq_RX5_239 X (zM_584 hw hm) (by decide) rfl rfl, (List.forall_mem_cons.mpr ⟨zq_RX5_239 X (zM_585 hw hm) (by decide) rfl rfl, (List.forall_mem_cons.mpr ⟨zq_RX5_239 X (zM_586 hw hm) (by decide) rfl rfl, (List.forall_mem_cons.mpr ⟨zq_RX5_239 X (zM_587 hw hm) (by decide) rfl rfl, (List.forall_mem_cons.mpr ⟨zq_RX5_239 X (zM_588 hw hm) (by decide) rfl rfl, (List.forall_mem_cons.mpr ⟨zq_RX5_239 X (zM_589 hw hm) (by decide) rfl rfl, (List.forall_mem_cons.mpr ⟨zq_RX5_239 X (zM_590 hw hm) (by decide) rfl rfl, (List.forall_mem_cons.mpr ⟨zq_RX5_239 X (zM_591 hw hm) (by decide) rfl rfl, (List.forall_mem_cons.mpr ⟨zq_RX5_239 X (zM_592 hw hm) (by decide) rfl rfl, (List.forall_mem_cons.mpr ⟨zq_RX5_239 X (zM_593 hw hm) (by decide) rfl rfl, (List.forall_mem_cons.mpr ⟨zq_RX5_239 X (zM_594 hw hm) (by decide) rfl rfl, (List.forall_mem_cons.mpr ⟨zq_RX5_239 X (zM_595 hw hm) (by decide) rfl rfl, (List.forall_mem_cons.mpr ⟨zq_RX5_250 X (zM_601 hw hm) (by decide) rfl rfl, (List.forall_mem_cons.mpr ⟨zq_RX5_358 X (zM_344 hw hm) (by decide) rfl rfl, (List.forall_mem_cons.mpr ⟨zq_RX5_361 X (zM_343 hw hm) (by decide) rfl rfl, (List.forall_mem_cons.mpr ⟨zq_RX5_365 X (zM_345 hw hm) (by decide) rfl rfl, nilz⟩)⟩)⟩)⟩)⟩)⟩)⟩)⟩)⟩)⟩)⟩)⟩)⟩)⟩)⟩)⟩)⟩)⟩)⟩)⟩)⟩)⟩)⟩)⟩)⟩)⟩)⟩)⟩)⟩)⟩)⟩)⟩)⟩)⟩)⟩)⟩)⟩)⟩)⟩)⟩)⟩)⟩)⟩)⟩)⟩)⟩)⟩)⟩)⟩)⟩)⟩)⟩)⟩)⟩)⟩)⟩)⟩)⟩)⟩)⟩)⟩)⟩)⟩)⟩)⟩)
set_option maxRecDepth 100000 in
theorem zk_805 : zmeth zKS zuq zNS zm_805 4000 = true := zqF (by decide +kernel)
theorem zM_805 {l : Launch} {D : va_G} {cI cZ cB cJ cR : ClassId} {ks ad : List Nat} {Psi : va_W → Prop} (hw : zworld ks ad zuq zNS Psi) (hm : zMan l D cI cZ cB cJ cR ks ad Psi) : zMet l D cI cZ cB cJ cR zKS ks ad Psi yX5_surveyed (.code yX5_surveyed cX5_surveyed 1 (some (.object "AlibiRota$Rotas"))) 5 zc_805 :=
  zmet_of hw 5 (by decide) 4000 zk_805 (by decide) (by decide) (fun X => ⟨zg_RX5 X, zp_RX5 X, zl1_RX5 X, zl2_RX5 X, nilz, (List.forall_mem_cons.mpr ⟨zq_RX5_352 X (zM_349 hw hm) (by decide) rfl rfl, nilz⟩)⟩)
set_option maxRecDepth 100000 in
theorem zk_816 : zmeth zKS zuq zNS zm_816 4000 = true := zqF (by decide +kernel)
theorem zM_816 {l : Launch} {D : va_G} {cI cZ cB cJ cR : ClassId} {ks ad : List Nat} {Psi : va_W → Prop} (hw : zworld ks ad zuq zNS Psi) (hm : zMan l D cI cZ cB cJ cR ks ad Psi) : zMet l D cI cZ cB cJ cR zKS ks ad Psi yX5_trade (.code yX5_trade cX5_trade 6 (some .int)) 5 zc_816 :=
  zmet_of hw 5 (by decide) 4000 zk_816 (by decide) (by decide) (fun X => ⟨zg_RX5 X, zp_RX5 X, zl1_RX5 X, zl2_RX5 X, nilz, (List.forall_mem_cons.mpr ⟨zq_RX5_115 X (zM_287 hw hm) (by decide) rfl rfl, (List.forall_mem_cons.mpr ⟨zq_RX5_118 X (zM_280 hw hm) (by decide) rfl rfl, (List.forall_mem_cons.mpr ⟨zq_RX5_122 X (zM_296 hw hm) (by decide) rfl rfl, (List.forall_mem_cons.mpr ⟨zq_RX5_173 X (zM_295 hw hm) (by decide) rfl rfl, nilz⟩)⟩)⟩)⟩)⟩)
set_option maxRecDepth 100000 in
theorem zk_820 : zmeth zKS zuq zNS zm_820 4000 = true := zqF (by decide +kernel)
theorem zM_820 {l : Launch} {D : va_G} {cI cZ cB cJ cR : ClassId} {ks ad : List Nat} {Psi : va_W → Prop} (hw : zworld ks ad zuq zNS Psi) (hm : zMan l D cI cZ cB cJ cR ks ad Psi) : zMet l D cI cZ cB cJ cR zKS ks ad Psi yX5_who (.code yX5_who cX5_who 3 (some .int)) 5 zc_820 :=
  zmet_of hw 5 (by decide) 4000 zk_820 (by decide) (by decide) (fun X => ⟨zg_RX5 X, zp_RX5 X, zl1_RX5 X, zl2_RX5 X, nilz, (List.forall_mem_cons.mpr ⟨zq_RX5_230 X (zM_767 hw hm) (by decide) rfl rfl, (List.forall_mem_cons.mpr ⟨zq_RX5_230 X (zM_768 hw hm) (by decide) rfl rfl, (List.forall_mem_cons.mpr ⟨zq_RX5_230 X (zM_769 hw hm) (by decide) rfl rfl, (List.forall_mem_cons.mpr ⟨zq_RX5_230 X (zM_770 hw hm) (by decide) rfl rfl, (List.forall_mem_cons.mpr ⟨zq_RX5_230 X (zM_771 hw hm) (by decide) rfl rfl, (List.forall_mem_cons.mpr ⟨zq_RX5_230 X (zM_766 hw hm) (by decide) rfl rfl, (List.forall_mem_cons.mpr ⟨zq_RX5_233 X (zM_806 hw hm) (by decide) rfl rfl, (List.forall_mem_cons.mpr ⟨zq_RX5_233 X (zM_807 hw hm) (by decide) rfl rfl, (List.forall_mem_cons.mpr ⟨zq_RX5_233 X (zM_808 hw hm) (by decide) rfl rfl, (List.forall_mem_cons.mpr ⟨zq_RX5_233 X (zM_809 hw hm) (by decide) rfl rfl, nilz⟩)⟩)⟩)⟩)⟩)⟩)⟩)⟩)⟩)⟩)⟩)
set_option maxRecDepth 100000 in
theorem zk_830 : zmeth zKS zuq zNS zm_830 4000 = true := zqF (by decide +kernel)
theorem zM_830 {l : Launch} {D : va_G} {cI cZ cB cJ cR : ClassId} {ks ad : List Nat} {Psi : va_W → Prop} (hw : zworld ks ad zuq zNS Psi) (hm : zMan l D cI cZ cB cJ cR ks ad Psi) : zMet l D cI cZ cB cJ cR zKS ks ad Psi yX6_alone (.code yX6_alone cX6_alone 4 (some .int)) 5 zc_830 :=
  zmet_of hw 5 (by decide) 4000 zk_830 (by decide) (by decide) (fun X => ⟨zg_RX6 X, zp_RX6 X, zl1_RX6 X, zl2_RX6 X, nilz, (List.forall_mem_cons.mpr ⟨zq_RX6_227 X (zM_1061 hw hm) (by decide) rfl rfl, (List.forall_mem_cons.mpr ⟨zq_RX6_257 X (zM_925 hw hm) (by decide) rfl rfl, (List.forall_mem_cons.mpr ⟨zq_RX6_267 X (zM_928 hw hm) (by decide) rfl rfl, (List.forall_mem_cons.mpr ⟨zq_RX6_270 X (zman_1017 hm) (by decide) rfl rfl, nilz⟩)⟩)⟩)⟩)⟩)
set_option maxRecDepth 100000 in
theorem zk_835 : zmeth zKS zuq zNS zm_835 4000 = true := zqF (by decide +kernel)
theorem zM_835 {l : Launch} {D : va_G} {cI cZ cB cJ cR : ClassId} {ks ad : List Nat} {Psi : va_W → Prop} (hw : zworld ks ad zuq zNS Psi) (hm : zMan l D cI cZ cB cJ cR ks ad Psi) : zMet l D cI cZ cB cJ cR zKS ks ad Psi yX6_at (.code yX6_at cX6_at 3 (some .int)) 5 zc_835 :=
  zmet_of hw 5 (by decide) 4000 zk_835 (by decide) (by decide) (fun X => ⟨zg_RX6 X, zp_RX6 X, zl1_RX6 X, zl2_RX6 X, nilz, (List.forall_mem_cons.mpr ⟨zq_RX6_234 X (zM_930 hw hm) (by decide) rfl rfl, (List.forall_mem_cons.mpr ⟨zq_RX6_244 X (zM_1063 hw hm) (by decide) rfl rfl, (List.forall_mem_cons.mpr ⟨zq_RX6_267 X (zM_928 hw hm) (by decide) rfl rfl, (List.forall_mem_cons.mpr ⟨zq_RX6_270 X (zman_1017 hm) (by decide) rfl rfl, nilz⟩)⟩)⟩)⟩)⟩)
set_option maxRecDepth 100000 in
theorem zk_840 : zmeth zKS zuq zNS zm_840 4000 = true := zqF (by decide +kernel)
theorem zM_840 {l : Launch} {D : va_G} {cI cZ cB cJ cR : ClassId} {ks ad : List Nat} {Psi : va_W → Prop} (hw : zworld ks ad zuq zNS Psi) (hm : zMan l D cI cZ cB cJ cR ks ad Psi) : zMet l D cI cZ cB cJ cR zKS ks ad Psi yX6_busiest (.code yX6_busiest cX6_busiest 6 (some .int)) 5 zc_840 :=
  zmet_of hw 5 (by decide) 4000 zk_840 (by decide) (by decide) (fun X => ⟨zg_RX6 X, zp_RX6 X, zl1_RX6 X, zl2_RX6 X, nilz, (List.forall_mem_cons.mpr ⟨zq_RX6_227 X (zM_1061 hw hm) (by decide) rfl rfl, (List.forall_mem_cons.mpr ⟨zq_RX6_231 X (zM_898 hw hm) (by decide) rfl rfl, (List.forall_mem_cons.mpr ⟨zq_RX6_257 X (zM_925 hw hm) (by decide) rfl rfl, (List.forall_mem_cons.mpr ⟨zq_RX6_270 X (zman_1017 hm) (by decide) rfl rfl, (List.forall_mem_cons.mpr ⟨zq_RX6_276 X (zM_923 hw hm) (by decide) rfl rfl, nilz⟩)⟩)⟩)⟩)⟩)⟩)
set_option maxRecDepth 100000 in
theorem zk_842 : zmeth zKS zuq zNS zm_842 4000 = true := zqF (by decide +kernel)
theorem zM_842 {l : Launch} {D : va_G} {cI cZ cB cJ cR : ClassId} {ks ad : List Nat} {Psi : va_W → Prop} (hw : zworld ks ad zuq zNS Psi) (hm : zMan l D cI cZ cB cJ cR ks ad Psi) : zMet l D cI cZ cB cJ cR zKS ks ad Psi yX6_canDo (.code yX6_canDo cX6_canDo 4 (some .boolean)) 5 zc_842 :=
  zmet_of hw 5 (by decide) 4000 zk_842 (by decide) (by decide) (fun X => ⟨zg_RX6 X, zp_RX6 X, zl1_RX6 X, zl2_RX6 X, nilz, (List.forall_mem_cons.mpr ⟨zq_RX6_237 X (zM_878 hw hm) (by decide) rfl, (List.forall_mem_cons.mpr ⟨zq_RX6_244 X (zM_1063 hw hm) (by decide) rfl rfl, (List.forall_mem_cons.mpr ⟨zq_RX6_257 X (zM_925 hw hm) (by decide) rfl rfl, nilz⟩)⟩)⟩)⟩)
set_option maxRecDepth 100000 in
theorem zk_847 : zmeth zKS zuq zNS zm_847 4000 = true := zqF (by decide +kernel)
theorem zM_847 {l : Launch} {D : va_G} {cI cZ cB cJ cR : ClassId} {ks ad : List Nat} {Psi : va_W → Prop} (hw : zworld ks ad zuq zNS Psi) (hm : zMan l D cI cZ cB cJ cR ks ad Psi) : zMet l D cI cZ cB cJ cR zKS ks ad Psi yX6_cityLine (.code yX6_cityLine cX6_cityLine 1 none) 5 zc_847 :=
  zmet_of hw 5 (by decide) 4000 zk_847 (by decide) (by decide) (fun X => ⟨zg_RX6 X, zp_RX6 X, zl1_RX6 X, zl2_RX6 X, nilz, (List.forall_mem_cons.mpr ⟨zq_RX6_142 X (zM_834 hw hm) (by decide) rfl rfl, (List.forall_mem_cons.mpr ⟨zq_RX6_159 X (zM_1051 hw hm) (by decide) rfl rfl, (List.forall_mem_cons.mpr ⟨zq_RX6_159 X (zM_1052 hw hm) (by decide) rfl rfl, (List.forall_mem_cons.mpr ⟨zq_RX6_159 X (zM_1053 hw hm) (by decide) rfl rfl, (List.forall_mem_cons.mpr ⟨zq_RX6_159 X (zM_1054 hw hm) (by decide) rfl rfl, (List.forall_mem_cons.mpr ⟨zq_RX6_159 X (zM_1055 hw hm) (by decide) rfl rfl, (List.forall_mem_cons.mpr ⟨zq_RX6_159 X (zM_1050 hw hm) (by decide) rfl rfl, (List.forall_mem_cons.mpr ⟨zq_RX6_164 X (zM_1145 hw hm) (by decide) rfl rfl, (List.forall_mem_cons.mpr ⟨zq_RX6_164 X (zM_1129 hw hm) (by decide) rfl rfl, (List.forall_mem_cons.mpr ⟨zq_RX6_164 X (zM_1142 hw hm) (by decide) rfl rfl, (List.forall_mem_cons.mpr ⟨zq_RX6_164 X (zM_1143 hw hm) (by decide) rfl rfl, (List.forall_mem_cons.mpr ⟨zq_RX6_164 X (zM_1147 hw hm) (by decide) rfl rfl, (List.forall_mem_cons.mpr ⟨zq_RX6_164 X (zM_1141 hw hm) (by decide) rfl rfl, (List.forall_mem_cons.mpr ⟨zq_RX6_164 X (zM_1144 hw hm) (by decide) rfl rfl, nilz⟩)⟩)⟩)⟩)⟩)⟩)⟩)⟩)⟩)⟩)⟩)⟩)⟩)⟩)⟩)
set_option maxRecDepth 100000 in
theorem zk_864 : zmeth zKS zuq zNS zm_864 4000 = true := zqF (by decide +kernel)
theorem zM_864 {l : Launch} {D : va_G} {cI cZ cB cJ cR : ClassId} {ks ad : List Nat} {Psi : va_W → Prop} (hw : zworld ks ad zuq zNS Psi) (hm : zMan l D cI cZ cB cJ cR ks ad Psi) : zMet l D cI cZ cB cJ cR zKS ks ad Psi yX6_crowd (.code yX6_crowd cX6_crowd 7 (some .int)) 5 zc_864 :=
  zmet_of hw 5 (by decide) 4000 zk_864 (by decide) (by decide) (fun X => ⟨zg_RX6 X, zp_RX6 X, zl1_RX6 X, zl2_RX6 X, nilz, (List.forall_mem_cons.mpr ⟨zq_RX6_227 X (zM_1061 hw hm) (by decide) rfl rfl, (List.forall_mem_cons.mpr ⟨zq_RX6_244 X (zM_1063 hw hm) (by decide) rfl rfl, (List.forall_mem_cons.mpr ⟨zq_RX6_267 X (zM_928 hw hm) (by decide) rfl rfl, (List.forall_mem_cons.mpr ⟨zq_RX6_270 X (zman_1017 hm) (by decide) rfl rfl, nilz⟩)⟩)⟩)⟩)⟩)
set_option maxRecDepth 100000 in
theorem zk_866 : zmeth zKS zuq zNS zm_866 4000 = true := zqF (by decide +kernel)
theorem zM_866 {l : Launch} {D : va_G} {cI cZ cB cJ cR : ClassId} {ks ad : List Nat} {Psi : va_W → Prop} (hw : zworld ks ad zuq zNS Psi) (hm : zMan l D cI cZ cB cJ cR ks ad Psi) : zMet l D cI cZ cB cJ cR zKS ks ad Psi yX6_dark (.code yX6_dark cX6_dark 4 (some .int)) 5 zc_866 :=
  zmet_of hw 5 (by decide) 4000 zk_866 (by decide) (by decide) (fun X => ⟨zg_RX6 X, zp_RX6 X, zl1_RX6 X, zl2_RX6 X, nilz, (List.forall_mem_cons.mpr ⟨zq_RX6_267 X (zM_928 hw hm) (by decide) rfl rfl, (List.forall_mem_cons.mpr ⟨zq_RX6_270 X (zman_1017 hm) (by decide) rfl rfl, (List.forall_mem_cons.mpr ⟨zq_RX6_325 X (zM_1186 hw hm) (by decide) rfl rfl, nilz⟩)⟩)⟩)⟩)
