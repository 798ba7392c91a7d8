set_option maxRecDepth 100000 in
theorem zk_774_0 : zm1 zKS zuq zNS zm_774 4000 zt_774_0 = true := by decide +kernel
set_option maxRecDepth 100000 in
theorem zk_774_1 : zm1 zKS zuq zNS zm_774 4000 zt_774_1 = true := by decide +kernel
set_option maxRecDepth 100000 in
theorem zk_774_2 : zm1 zKS zuq zNS zm_774 4000 zt_774_2 = true := by decide +kernel
set_option maxRecDepth 100000 in
theorem zk_774_3 : zm1 zKS zuq zNS zm_774 4000 zt_774_3 = true := by decide +kernel
set_option maxRecDepth 100000 in
theorem zk_774_4 : zm1 zKS zuq zNS zm_774 4000 zt_774_4 = true := by decide +kernel
set_option maxRecDepth 100000 in
theorem zk_774_5 : zm1 zKS zuq zNS zm_774 4000 zt_774_5 = true := by decide +kernel
set_option maxRecDepth 100000 in
theorem zk_774_6 : zm1 zKS zuq zNS zm_774 4000 zt_774_6 = true := by decide +kernel
set_option maxRecDepth 100000 in
theorem zk_774_7 : zm1 zKS zuq zNS zm_774 4000 zt_774_7 = true := by decide +kernel
set_option maxRecDepth 100000 in
theorem zk_774_8 : zm1 zKS zuq zNS zm_774 4000 zt_774_8 = true := by decide +kernel
set_option maxRecDepth 100000 in
theorem zk_774_9 : zm1 zKS zuq zNS zm_774 4000 zt_774_9 = true := by decide +kernel
set_option maxRecDepth 100000 in
theorem zk_774_10 : zm1 zKS zuq zNS zm_774 4000 zt_774_10 = true := by decide +kernel
set_option maxRecDepth 100000 in
theorem zk_774_11 : zm1 zKS zuq zNS zm_774 4000 zt_774_11 = true := by decide +kernel
set_option maxRecDepth 100000 in
theorem zk_774_12 : zm1 zKS zuq zNS zm_774 4000 zt_774_12 = true := by decide +kernel
set_option maxRecDepth 100000 in
theorem zk_774_13 : zm1 zKS zuq zNS zm_774 4000 zt_774_13 = true := by decide +kernel
set_option maxRecDepth 100000 in
theorem zk_774_14 : zm1 zKS zuq zNS zm_774 4000 zt_774_14 = true := by decide +kernel
set_option maxRecDepth 100000 in
theorem zk_774_15 : zm1 zKS zuq zNS zm_774 4000 zt_774_15 = true := by decide +kernel
set_option maxRecDepth 100000 in
theorem zk_774_16 : zm1 zKS zuq zNS zm_774 4000 zt_774_16 = true := by decide +kernel
set_option maxRecDepth 100000 in
theorem zk_774_17 : zm1 zKS zuq zNS zm_774 4000 zt_774_17 = true := by decide +kernel
set_option maxRecDepth 100000 in
theorem zk_774_18 : zm1 zKS zuq zNS zm_774 4000 zt_774_18 = true := by decide +kernel
set_option maxRecDepth 100000 in
theorem zk_774_19 : zm1 zKS zuq zNS zm_774 4000 zt_774_19 = true := by decide +kernel
set_option maxRecDepth 100000 in
theorem zk_774_20 : zm1 zKS zuq zNS zm_774 4000 zt_774_20 = true := by decide +kernel
set_option maxRecDepth 100000 in
theorem zk_774_s : zm0 zKS zuq zNS zm_774 4000 = true := by decide +kernel
theorem zk_774 : zmeth zKS zuq zNS zm_774 4000 = true := zmeth_by zk_774_s (List.forall_mem_cons.mpr ⟨zk_774_0, (List.forall_mem_cons.mpr ⟨zk_774_1, (List.forall_mem_cons.mpr ⟨zk_774_2, (List.forall_mem_cons.mpr ⟨zk_774_3, (List.forall_mem_cons.mpr ⟨zk_774_4, (List.forall_mem_cons.mpr ⟨zk_774_5, (List.forall_mem_cons.mpr ⟨zk_774_6, (List.forall_mem_cons.mpr ⟨zk_774_7, (List.forall_mem_cons.mpr ⟨zk_774_8, (List.forall_mem_cons.mpr ⟨zk_774_9, (List.forall_mem_cons.mpr ⟨zk_774_10, (List.forall_mem_cons.mpr ⟨zk_774_11, (List.forall_mem_cons.mpr ⟨zk_774_12, (List.forall_mem_cons.mpr ⟨zk_774_13, (List.forall_mem_cons.mpr ⟨zk_774_14, (List.forall_mem_cons.mpr ⟨zk_774_15, (List.forall_mem_cons.mpr ⟨zk_774_16, (List.forall_mem_cons.mpr ⟨zk_774_17, (List.forall_mem_cons.mpr ⟨zk_774_18, (List.forall_mem_cons.mpr ⟨zk_774_19, (List.forall_mem_cons.mpr ⟨zk_774_20, nilz⟩)⟩)⟩)⟩)⟩)⟩)⟩)⟩)⟩)⟩)⟩)⟩)⟩)⟩)⟩)⟩)⟩)⟩)⟩)⟩)⟩)
theorem zM_774 {l : Launch} {D : va_G} {cI cZ cB cJ cR : ClassId} {ks ad : List Nat} {Psi : va_W → Prop} (hw : zworld ks ad zuq zNS Psi) (hm : zMan l D cI cZ cB cJ cR ks ad Psi) : zMet l D cI cZ cB cJ cR zKS ks ad Psi yX5_refuseOaths (.code yX5_refuseOaths cX5_refuseOaths 4 (some .int)) 2 zc_774 :=
  zmet_of hw 2 (by decide) 4000 zk_774 (by decide) (by decide) (fun X => ⟨zg_RX5 X, zp_RX5 X, zl1_RX5 X, zl2_RX5 X, nilz, (List.forall_mem_cons.mpr ⟨zq_RX5_87 X (zM_301 hw hm) (by decide) rfl rfl, (List.forall_mem_cons.mpr ⟨zq_RX5_179 X (zM_302 hw hm) (by decide) rfl rfl, (List.forall_mem_cons.mpr ⟨zq_RX5_239 X (zM_416 hw hm) (by decide) rfl rfl, (List.forall_mem_cons.mpr ⟨zq_RX5_239 X (zM_417 hw hm) (by decide) rfl rfl, (List.forall_mem_cons.mpr ⟨zq_RX5_239 X (zM_418 hw hm) (by decide) rfl rfl, (List.forall_mem_cons.mpr ⟨zq_RX5_239 X (zM_419 hw hm) (by decide) rfl rfl, (List.forall_mem_cons.mpr ⟨zq_RX5_239 X (zM_420 hw hm) (by decide) rfl rfl, (List.forall_mem_cons.mpr ⟨zq_RX5_239 X (zM_421 hw hm) (by decide) rfl rfl, (List.forall_mem_cons.mpr ⟨zq_RX5_239 X (zM_422 hw hm) (by decide) rfl rfl, (List.forall_mem_cons.mpr ⟨zq_RX5_239 X (zM_423 hw hm) (by decide) rfl rfl, (List.forall_mem_cons.mpr ⟨zq_RX5_239 X (zM_424 hw hm) (by decide) rfl rfl, (List.forall_mem_cons.mpr ⟨zq_RX5_239 X (zM_425 hw hm) (by decide) rfl rfl, (List.forall_mem_cons.mpr ⟨zq_RX5_239 X (zM_426 hw hm) (by decide) rfl rfl, (List.forall_mem_cons.mpr ⟨zq_RX5_239 X (zM_427 hw hm) (by decide) rfl rfl, (List.forall_mem_cons.mpr ⟨zq_RX5_239 X (zM_428 hw hm) (by decide) rfl rfl, (List.forall_mem_cons.mpr ⟨zq_RX5_239 X (zM_429 hw hm) (by decide) rfl rfl, (List.forall_mem_cons.mpr ⟨zq_RX5_239 X (zM_430 hw hm) (by decide) rfl rfl, (List.forall_mem_cons.mpr ⟨zq_RX5_239 X (zM_431 hw hm) (by decide) rfl rfl, (List.forall_mem_cons.mpr ⟨zq_RX5_239 X (zM_432 hw hm) (by decide) rfl rfl, (List.forall_mem_cons.mpr ⟨zq_RX5_239 X (zM_433 hw hm) (by decide) rfl rfl, (List.forall_mem_cons.mpr ⟨zq_RX5_239 X (zM_434 hw hm) (by decide) rfl rfl, (List.forall_mem_cons.mpr ⟨zq_RX5_239 X (zM_435 hw hm) (by decide) rfl rfl, (List.forall_mem_cons.mpr ⟨zq_RX5_239 X (zM_436 hw hm) (by decide) rfl rfl, (List.forall_mem_cons.mpr ⟨zq_RX5_239 X (zM_437 hw hm) (by decide) rfl rfl, (List.forall_mem_cons.mpr ⟨zq_RX5_239 X (zM_438 hw hm) (by decide) rfl rfl, (List.forall_mem_cons.mpr ⟨zq_RX5_239 X (zM_439 hw hm) (by decide) rfl rfl, (List.forall_mem_cons.mpr ⟨zq_RX5_239 X (zM_440 hw hm) (by decide) rfl rfl, (List.forall_mem_cons.mpr ⟨zq_RX5_239 X (zM_441 hw hm) (by decide) rfl rfl, (List.forall_mem_cons.mpr ⟨zq_RX5_239 X (zM_442 hw hm) (by decide) rfl rfl, (List.forall_mem_cons.mpr ⟨zq_RX5_239 X (zM_443 hw hm) (by decide) rfl rfl, (List.forall_mem_cons.mpr ⟨zq_RX5_239 X (zM_444 hw hm) (by decide) rfl rfl, (List.forall_mem_cons.mpr ⟨zq_RX5_239 X (zM_445 hw hm) (by decide) rfl rfl, (List.forall_mem_cons.mpr ⟨zq_RX5_239 X (zM_446 hw hm) (by decide) rfl rfl, (List.forall_mem_cons.mpr ⟨zq_RX5_239 X (zM_447 hw hm) (by decide) rfl rfl, (List.forall_mem_cons.mpr ⟨zq_RX5_239 X (zM_448 hw hm) (by decide) rfl rfl, (List.forall_mem_cons.mpr ⟨zq_RX5_239 X (zM_449 hw hm) (by decide) rfl rfl, (List.forall_mem_cons.mpr ⟨zq_RX5_239 X (zM_450 hw hm) (by decide) rfl rfl, (List.forall_mem_cons.mpr ⟨zq_RX5_239 X (zM_451 hw hm) (by decide) rfl rfl, (List.forall_mem_cons.mpr ⟨zq_RX5_239 X (zM_452 hw hm) (by decide) rfl rfl, (List.forall_mem_cons.mpr ⟨zq_RX5_239 X (zM_453 hw hm) (by decide) rfl rfl, (List.forall_mem_cons.mpr ⟨zq_RX5_239 X (zM_454 hw hm) (by decide) rfl rfl, (List.forall_mem_cons.mpr ⟨zq_RX5_239 X (zM_455 hw hm) (by decide) rfl rfl, (List.forall_mem_cons.mpr ⟨zq_RX5_239 X (zM_456 hw hm) (by decide) rfl rfl, (List.forall_mem_cons.mpr ⟨zq_RX5_239 X (zM_457 hw hm) (by decide) rfl rfl, (List.forall_mem_cons.mpr ⟨zq_RX5_239 X (zM_458 hw hm) (by decide) rfl rfl, (List.forall_mem_cons.mpr ⟨zq_RX5_239 X (zM_459 hw hm) (by decide) rfl rfl, (List.forall_mem_cons.mpr ⟨zq_RX5_239 X (zM_460 hw hm) (by decide) rfl rfl, (List.forall_mem_cons.mpr ⟨zq_RX5_239 X (zM_461 hw hm) (by decide) rfl rfl, (List.forall_mem_cons.mpr ⟨zq_RX5_239 X (zM_462 hw hm) (by decide) rfl rfl, (List.forall_mem_cons.mpr ⟨zq_RX5_239 X (zM_463 hw hm) (by decide) rfl rfl, (List.forall_mem_cons.mpr ⟨zq_RX5_239 X (zM_464 hw hm) (by decide) rfl rfl, (List.forall_mem_cons.mpr ⟨zq_RX5_239 X (zM_465 hw hm) (by decide) rfl rfl, (List.forall_mem_cons.mpr ⟨zq_RX5_239 X (zM_466 hw hm) (by decide) rfl rfl, (List.forall_mem_cons.mpr ⟨zq_RX5_239 X (zM_467 hw hm) (by decide) rfl rfl, (List.forall_mem_cons.mpr ⟨zq_RX5_239 X (zM_468 hw hm) (by decide) rfl rfl, (List.forall_mem_cons.mpr ⟨zq_RX5_239 X (zM_469 hw hm) (by decide) rfl rfl, (List.forall_mem_cons.mpr ⟨zq_RX5_239 X (zM_470 hw hm) (by decide) rfl rfl, (List.forall_mem_cons.mpr ⟨zq_RX5_239 X (zM_471 hw hm) (by decide) rfl rfl, (List.forall_mem_cons.mpr ⟨zq_RX5_239 X (zM_472 hw hm) (by decide) rfl rfl, (List.forall_mem_cons.mpr ⟨zq_RX5_239 X (zM_473 hw hm) (by decide) rfl rfl, (List.forall_mem_cons.mpr ⟨zq_RX5_239 X (zM_474 hw hm) (by decide) rfl rfl, (List.forall_mem_cons.mpr ⟨zq_RX5_239 X (zM_475 hw hm) (by decide) rfl rfl, (List.forall_mem_cons.mpr ⟨zq_RX5_250 X (zM_599 hw hm) (by decide) rfl rfl, (List.forall_mem_cons.mpr ⟨zq_RX5_355 X (zM_783 hw hm) (by decide) rfl rfl, nilz⟩)⟩)⟩)⟩)⟩)⟩)⟩)⟩)⟩)⟩)⟩)⟩)⟩)⟩)⟩)⟩)⟩)⟩)⟩)⟩)⟩)⟩)⟩)⟩)⟩)⟩)⟩)⟩)⟩)⟩)⟩)⟩)⟩)⟩)⟩)⟩)⟩)⟩)⟩)⟩)⟩)⟩)⟩)⟩)⟩)⟩)⟩)⟩)⟩)⟩)⟩)⟩)⟩)⟩)⟩)⟩)⟩)⟩)⟩)⟩)⟩)⟩)⟩)⟩)⟩)
set_option maxRecDepth 100000 in
theorem zk_775_0 : zm1 zKS zuq zNS zm_775 4000 zt_775_0 = true := by decide +kernel
set_option maxRecDepth 100000 in
theorem zk_775_1 : zm1 zKS zuq zNS zm_775 4000 zt_775_1 = true := by decide +kernel
set_option maxRecDepth 100000 in
theorem zk_775_2 : zm1 zKS zuq zNS zm_775 4000 zt_775_2 = true := by decide +kernel
set_option maxRecDepth 100000 in
theorem zk_775_3 : zm1 zKS zuq zNS zm_775 4000 zt_775_3 = true := by decide +kernel
set_option maxRecDepth 100000 in
theorem zk_775_4 : zm1 zKS zuq zNS zm_775 4000 zt_775_4 = true := by decide +kernel
set_option maxRecDepth 100000 in
theorem zk_775_5 : zm1 zKS zuq zNS zm_775 4000 zt_775_5 = true := by decide +kernel
set_option maxRecDepth 100000 in
theorem zk_775_6 : zm1 zKS zuq zNS zm_775 4000 zt_775_6 = true := by decide +kernel
set_option maxRecDepth 100000 in
theorem zk_775_7 : zm1 zKS zuq zNS zm_775 4000 zt_775_7 = true := by decide +kernel
set_option maxRecDepth 100000 in
theorem zk_775_8 : zm1 zKS zuq zNS zm_775 4000 zt_775_8 = true := by decide +kernel
set_option maxRecDepth 100000 in
theorem zk_775_9 : zm1 zKS zuq zNS zm_775 4000 zt_775_9 = true := by decide +kernel
set_option maxRecDepth 100000 in
theorem zk_775_10 : zm1 zKS zuq zNS zm_775 4000 zt_775_10 = true := by decide +kernel
set_option maxRecDepth 100000 in
theorem zk_775_11 : zm1 zKS zuq zNS zm_775 4000 zt_775_11 = true := by decide +kernel
set_option maxRecDepth 100000 in
theorem zk_775_12 : zm1 zKS zuq zNS zm_775 4000 zt_775_12 = true := by decide +kernel
set_option maxRecDepth 100000 in
theorem zk_775_13 : zm1 zKS zuq zNS zm_775 4000 zt_775_13 = true := by decide +kernel
set_option maxRecDepth 100000 in
theorem zk_775_14 : zm1 zKS zuq zNS zm_775 4000 zt_775_14 = true := by decide +kernel
set_option maxRecDepth 100000 in
theorem zk_775_15 : zm1 zKS zuq zNS zm_775 4000 zt_775_15 = true := by decide +kernel
set_option maxRecDepth 100000 in
theorem zk_775_16 : zm1 zKS zuq zNS zm_775 4000 zt_775_16 = true := by decide +kernel
set_option maxRecDepth 100000 in
theorem zk_775_17 : zm1 zKS zuq zNS zm_775 4000 zt_775_17 = true := by decide +kernel
set_option maxRecDepth 100000 in
theorem zk_775_18 : zm1 zKS zuq zNS zm_775 4000 zt_775_18 = true := by decide +kernel
set_option maxRecDepth 100000 in
theorem zk_775_19 : zm1 zKS zuq zNS zm_775 4000 zt_775_19 = true := by decide +kernel
set_option maxRecDepth 100000 in
theorem zk_775_20 : zm1 zKS zuq zNS zm_775 4000 zt_775_20 = true := by decide +kernel
set_option maxRecDepth 100000 in
theorem zk_775_s : zm0 zKS zuq zNS zm_775 4000 = true := by decide +kernel
theorem zk_775 : zmeth zKS zuq zNS zm_775 4000 = true := zmeth_by zk_775_s (List.forall_mem_cons.mpr ⟨zk_775_0, (List.forall_mem_cons.mpr ⟨zk_775_1, (List.forall_mem_cons.mpr ⟨zk_775_2, (List.forall_mem_cons.mpr ⟨zk_775_3, (List.forall_mem_cons.mpr ⟨zk_775_4, (List.forall_mem_cons.mpr ⟨zk_775_5, (List.forall_mem_cons.mpr ⟨zk_775_6, (List.forall_mem_cons.mpr ⟨zk_775_7, (List.forall_mem_cons.mpr ⟨zk_775_8, (List.forall_mem_cons.mpr ⟨zk_775_9, (List.forall_mem_cons.mpr ⟨zk_775_10, (List.forall_mem_cons.mpr ⟨zk_775_11, (List.forall_mem_cons.mpr ⟨zk_775_12, (List.forall_mem_cons.mpr ⟨zk_775_13, (List.forall_mem_cons.mpr ⟨zk_775_14, (List.forall_mem_cons.mpr ⟨zk_775_15, (List.forall_mem_cons.mpr ⟨zk_775_16, (List.forall_mem_cons.mpr ⟨zk_775_17, (List.forall_mem_cons.mpr ⟨zk_775_18, (List.forall_mem_cons.mpr ⟨zk_775_19, (List.forall_mem_cons.mpr ⟨zk_775_20, nilz⟩)⟩)⟩)⟩)⟩)⟩)⟩)⟩)⟩)⟩)⟩)⟩)⟩)⟩)⟩)⟩)⟩)⟩)⟩)⟩)⟩)
theorem zM_775 {l : Launch} {D : va_G} {cI cZ cB cJ cR : ClassId} {ks ad : List Nat} {Psi : va_W → Prop} (hw : zworld ks ad zuq zNS Psi) (hm : zMan l D cI cZ cB cJ cR ks ad Psi) : zMet l D cI cZ cB cJ cR zKS ks ad Psi yX5_refuseOaths (.code yX5_refuseOaths cX5_refuseOaths 4 (some .int)) 2 zc_775 :=
  zmet_of hw 2 (by decide) 4000 zk_775 (by decide) (by decide) (fun X => ⟨zg_RX5 X, zp_RX5 X, zl1_RX5 X, zl2_RX5 X, nilz, (List.forall_mem_cons.mpr ⟨zq_RX5_87 X (zM_301 hw hm) (by decide) rfl rfl, (List.forall_mem_cons.mpr ⟨zq_RX5_179 X (zM_302 hw hm) (by decide) rfl rfl, (List.forall_mem_cons.mpr ⟨zq_RX5_239 X (zM_476 hw hm) (by decide) rfl rfl, (List.forall_mem_cons.mpr ⟨zq_RX5_239 X (zM_477 hw hm) (by decide) rfl rfl, (List.forall_mem_cons.mpr ⟨zq_RX5_239 X (zM_478 hw hm) (by decide) rfl rfl, (List.forall_mem_cons.mpr ⟨zq_RX5_239 X (zM_479 hw hm) (by decide) rfl rfl, (List.forall_mem_cons.mpr ⟨zq_RX5_239 X (zM_480 hw hm) (by decide) rfl rfl, (List.forall_mem_cons.mpr ⟨zq_RX5_239 X (zM_481 hw hm) (by decide) rfl rfl, (List.forall_mem_cons.mpr ⟨zq_RX5_239 X (zM_482 hw hm) (by decide) rfl rfl, (List.forall_mem_cons.mpr ⟨zq_RX5_239 X (zM_483 hw hm) (by decide) rfl rfl, (List.forall_mem_cons.mpr ⟨zq_RX5_239 X (zM_484 hw hm) (by decide) rfl rfl, (List.forall_mem_cons.mpr ⟨zq_RX5_239 X (zM_485 hw hm) (by decide) rfl rfl, (List.forall_mem_cons.mpr ⟨zq_RX5_239 X (zM_486 hw hm) (by decide) rfl rfl, (List.forall_mem_cons.mpr ⟨zq_RX5_239 X (zM_487 hw hm) (by decide) rfl rfl, (List.forall_mem_cons.mpr ⟨zq_RX5_239 X (zM_488 hw hm) (by decide) rfl rfl, (List.forall_mem_cons.mpr ⟨zq_RX5_239 X (zM_489 hw hm) (by decide) rfl rfl, (List.forall_mem_cons.mpr ⟨zq_RX5_239 X (zM_490 hw hm) (by decide) rfl rfl, (List.forall_mem_cons.mpr ⟨zq_RX5_239 X (zM_491 hw hm) (by decide) rfl rfl, (List.forall_mem_cons.mpr ⟨zq_RX5_239 X (zM_492 hw hm) (by decide) rfl rfl, (List.forall_mem_cons.mpr ⟨zq_RX5_239 X (zM_493 hw hm) (by decide) rfl rfl, (List.forall_mem_cons.mpr ⟨zq_RX5_239 X (zM_494 hw hm) (by decide) rfl rfl, (List.forall_mem_cons.mpr ⟨zq_RX5_239 X (zM_495 hw hm) (by decide) rfl rfl, (List.forall_mem_cons.mpr ⟨zq_RX5_239 X (zM_496 hw hm) (by decide) rfl rfl, (List.forall_mem_cons.mpr ⟨zq_RX5_239 X (zM_497 hw hm) (by decide) rfl rfl, (List.forall_mem_cons.mpr ⟨zq_RX5_239 X (zM_498 hw hm) (by decide) rfl rfl, (List.forall_mem_cons.mpr ⟨zq_RX5_239 X (zM_499 hw hm) (by decide) rfl rfl, (List.forall_mem_cons.mpr ⟨zq_RX5_239 X (zM_500 hw hm) (by decide) rfl rfl, (List.forall_mem_cons.mpr ⟨zq_RX5_239 X (zM_501 hw hm) (by decide) rfl rfl, (List.forall_mem_cons.mpr ⟨zq_RX5_239 X (zM_502 hw hm) (by decide) rfl rfl, (List.forall_mem_cons.mpr ⟨zq_RX5_239 X (zM_503 hw hm) (by decide) rfl rfl, (List.forall_mem_cons.mpr ⟨zq_RX5_239 X (zM_504 hw hm) (by decide) rfl rfl, (List.forall_mem_cons.mpr ⟨zq_RX5_239 X (zM_505 hw hm) (by decide) rfl rfl, (List.forall_mem_cons.mpr ⟨zq_RX5_239 X (zM_506 hw hm) (by decide) rfl rfl, (List.forall_mem_cons.mpr ⟨zq_RX5_239 X (zM_507 hw hm) (by decide) rfl rfl, (List.forall_mem_cons.mpr ⟨zq_RX5_239 X (zM_508 hw hm) (by decide) rfl rfl, (List.forall_mem_cons.mpr ⟨zq_RX5_239 X (zM_509 hw hm) (by decide) rfl rfl, (List.forall_mem_cons.mpr ⟨zq_RX5_239 X (zM_510 hw hm) (by decide) rfl rfl, (List.forall_mem_cons.mpr ⟨zq_RX5_239 X (zM_511 hw hm) (by decide) rfl rfl, (List.forall_mem_cons.mpr ⟨zq_RX5_239 X (zM_512 hw hm) (by decide) rfl rfl, (List.forall_mem_cons.mpr ⟨zq_RX5_239 X (zM_513 hw hm) (by decide) rfl rfl, (List.forall_mem_cons.mpr ⟨zq_RX5_239 X (zM_514 hw hm) (by decide) rfl rfl, (List.forall_mem_cons.mpr ⟨zq_RX5_239 X (zM_515 hw hm) (by decide) rfl rfl, (List.forall_mem_cons.mpr ⟨zq_RX5_239 X (zM_516 hw hm) (by decide) rfl rfl, (List.forall_mem_cons.mpr ⟨zq_RX5_239 X (zM_517 hw hm) (by decide) rfl rfl, (List.forall_mem_cons.mpr ⟨zq_RX5_239 X (zM_518 hw hm) (by decide) rfl rfl, (List.forall_mem_cons.mpr ⟨zq_RX5_239 X (zM_519 hw hm) (by decide) rfl rfl, (List.forall_mem_cons.mpr ⟨zq_RX5_239 X (zM_520 hw hm) (by decide) rfl rfl, (List.forall_mem_cons.mpr ⟨zq_RX5_239 X (zM_521 hw hm) (by decide) rfl rfl, (List.forall_mem_cons.mpr ⟨zq_RX5_239 X (zM_522 hw hm) (by decide) rfl rfl, (List.forall_mem_cons.mpr ⟨zq_RX5_239 X (zM_523 hw hm) (by decide) rfl rfl, (List.forall_mem_cons.mpr ⟨zq_RX5_239 X (zM_524 hw hm) (by decide) rfl rfl, (List.forall_mem_cons.mpr ⟨zq_RX5_239 X (zM_525 hw hm) (by decide) rfl rfl, (List.forall_mem_cons.mpr ⟨zq_RX5_239 X (zM_526 hw hm) (by decide) rfl rfl, (List.forall_mem_cons.mpr ⟨zq_RX5_239 X (zM_527 hw hm) (by decide) rfl rfl, (List.forall_mem_cons.mpr ⟨zq_RX5_239 X (zM_528 hw hm) (by decide) rfl rfl, (List.forall_mem_cons.mpr ⟨zq_RX5_239 X (zM_529 hw hm) (by decide) rfl rfl, (List.forall_mem_cons.mpr ⟨zq_RX5_239 X (zM_530 hw hm) (by decide) rfl rfl, (List.forall_mem_cons.mpr ⟨zq_RX5_239 X (zM_531 hw hm) (by decide) rfl rfl, (List.forall_mem_cons.mpr ⟨zq_RX5_239 X (zM_532 hw hm) (by decide) rfl rfl, (List.forall_mem_cons.mpr ⟨zq_RX5_239 X (zM_533 hw hm) (by decide) rfl rfl, (List.forall_mem_cons.mpr ⟨zq_RX5_239 X (zM_534 hw hm) (by decide) rfl rfl, (List.forall_mem_cons.mpr ⟨zq_RX5_239 X (zM_535 hw hm) (by decide) rfl rfl, (List.forall_mem_cons.mpr ⟨zq_RX5_250 X (zM_600 hw hm) (by decide) rfl rfl, (List.forall_mem_cons.mpr ⟨zq_RX5_355 X (zM_785 hw hm) (by decide) rfl rfl, nilz⟩)⟩)⟩)⟩)⟩)⟩)⟩)⟩)⟩)⟩)⟩)⟩)⟩)⟩)⟩)⟩)⟩)⟩)⟩)⟩)⟩)⟩)⟩)⟩)⟩)⟩)⟩)⟩)⟩)⟩)⟩)⟩)⟩)⟩)⟩)⟩)⟩)⟩)⟩)⟩)⟩)⟩)⟩)⟩)⟩)⟩)⟩)⟩)⟩)⟩)⟩)⟩)⟩)⟩)⟩)⟩)⟩)⟩)⟩)⟩)⟩)⟩)⟩)⟩)⟩)
set_option maxRecDepth 100000 in
theorem zk_776_0 : zm1 zKS zuq zNS zm_776 4000 zt_776_0 = true := by decide +kernel
set_option maxRecDepth 100000 in
theorem zk_776_1 : zm1 zKS zuq zNS zm_776 4000 zt_776_1 = true := by decide +kernel
set_option maxRecDepth 100000 in
theorem zk_776_2 : zm1 zKS zuq zNS zm_776 4000 zt_776_2 = true := by decide +kernel
set_option maxRecDepth 100000 in
theorem zk_776_3 : zm1 zKS zuq zNS zm_776 4000 zt_776_3 = true := by decide +kernel
set_option maxRecDepth 100000 in
theorem zk_776_4 : zm1 zKS zuq zNS zm_776 4000 zt_776_4 = true := by decide +kernel
set_option maxRecDepth 100000 in
theorem zk_776_5 : zm1 zKS zuq zNS zm_776 4000 zt_776_5 = true := by decide +kernel
set_option maxRecDepth 100000 in
theorem zk_776_6 : zm1 zKS zuq zNS zm_776 4000 zt_776_6 = true := by decide +kernel
set_option maxRecDepth 100000 in
theorem zk_776_7 : zm1 zKS zuq zNS zm_776 4000 zt_776_7 = true := by decide +kernel
set_option maxRecDepth 100000 in
theorem zk_776_8 : zm1 zKS zuq zNS zm_776 4000 zt_776_8 = true := by decide +kernel
set_option maxRecDepth 100000 in
theorem zk_776_9 : zm1 zKS zuq zNS zm_776 4000 zt_776_9 = true := by decide +kernel
set_option maxRecDepth 100000 in
theorem zk_776_10 : zm1 zKS zuq zNS zm_776 4000 zt_776_10 = true := by decide +kernel
set_option maxRecDepth 100000 in
theorem zk_776_11 : zm1 zKS zuq zNS zm_776 4000 zt_776_11 = true := by decide +kernel
set_option maxRecDepth 100000 in
theorem zk_776_12 : zm1 zKS zuq zNS zm_776 4000 zt_776_12 = true := by decide +kernel
set_option maxRecDepth 100000 in
theorem zk_776_13 : zm1 zKS zuq zNS zm_776 4000 zt_776_13 = true := by decide +kernel
set_option maxRecDepth 100000 in
theorem zk_776_14 : zm1 zKS zuq zNS zm_776 4000 zt_776_14 = true := by decide +kernel
set_option maxRecDepth 100000 in
theorem zk_776_15 : zm1 zKS zuq zNS zm_776 4000 zt_776_15 = true := by decide +kernel
set_option maxRecDepth 100000 in
theorem zk_776_16 : zm1 zKS zuq zNS zm_776 4000 zt_776_16 = true := by decide +kernel
set_option maxRecDepth 100000 in
theorem zk_776_17 : zm1 zKS zuq zNS zm_776 4000 zt_776_17 = true := by decide +kernel
set_option maxRecDepth 100000 in
theorem zk_776_18 : zm1 zKS zuq zNS zm_776 4000 zt_776_18 = true := by decide +kernel
set_option maxRecDepth 100000 in
theorem zk_776_19 : zm1 zKS zuq zNS zm_776 4000 zt_776_19 = true := by decide +kernel
set_option maxRecDepth 100000 in
theorem zk_776_20 : zm1 zKS zuq zNS zm_776 4000 zt_776_20 = true := by decide +kernel
set_option maxRecDepth 100000 in
theorem zk_776_s : zm0 zKS zuq zNS zm_776 4000 = true := by decide +kernel
theorem zk_776 : zmeth zKS zuq zNS zm_776 4000 = true := zmeth_by zk_776_s (List.forall_mem_cons.mpr ⟨zk_776_0, (List.forall_mem_cons.mpr ⟨zk_776_1, (List.forall_mem_cons.mpr ⟨zk_776_2, (List.forall_mem_cons.mpr ⟨zk_776_3, (List.forall_mem_cons.mpr ⟨zk_776_4, (List.forall_mem_cons.mpr ⟨zk_776_5, (List.forall_mem_cons.mpr ⟨zk_776_6, (List.forall_mem_cons.mpr ⟨zk_776_7, (List.forall_mem_cons.mpr ⟨zk_776_8, (List.forall_mem_cons.mpr ⟨zk_776_9, (List.forall_mem_cons.mpr ⟨zk_776_10, (List.forall_mem_cons.mpr ⟨zk_776_11, (List.forall_mem_cons.mpr ⟨zk_776_12, (List.forall_mem_cons.mpr ⟨zk_776_13, (List.forall_mem_cons.mpr ⟨zk_776_14, (List.forall_mem_cons.mpr ⟨zk_776_15, (List.forall_mem_cons.mpr ⟨zk_776_16, (List.forall_mem_cons.mpr ⟨zk_776_17, (List.forall_mem_cons.mpr ⟨zk_776_18, (List.forall_mem_cons.mpr ⟨zk_776_19, (List.forall_mem_cons.mpr ⟨zk_776_20, nilz⟩)⟩)⟩)⟩)⟩)⟩)⟩)⟩)⟩)⟩)⟩)⟩)⟩)⟩)⟩)⟩)⟩)⟩)⟩)⟩)⟩)
theorem zM_776 {l : Launch} {D : va_G} {cI cZ cB cJ cR : ClassId} {ks ad : List Nat} {Psi : va_W → Prop} (hw : zworld ks ad zuq zNS Psi) (hm : zMan l D cI cZ cB cJ cR ks ad Psi) : zMet l D cI cZ cB cJ cR zKS ks ad Psi yX5_refuseOaths (.code yX5_refuseOaths cX5_refuseOaths 4 (some .int)) 2 zc_776 :=
  zmet_of hw 2 (by decide) 4000 zk_776 (by decide) (by decide) (fun X => ⟨zg_RX5 X, zp_RX5 X, zl1_RX5 X, zl2_RX5 X, nilz, (List.forall_mem_cons.mpr ⟨zq_RX5_87 X (zM_301 hw hm) (by decide) rfl rfl, (List.forall_mem_cons.mpr ⟨zq_RX5_179 X (zM_302 hw hm) (by decide) rfl rfl, (List.forall_mem_cons.mpr ⟨zq_RX5_239 X (zM_536 hw hm) (by decide) rfl rfl, (List.forall_mem_cons.mpr ⟨zq_RX5_239 X (zM_537 hw hm) (by decide) rfl rfl, (List.forall_mem_cons.mpr ⟨zq_RX5_239 X (zM_538 hw hm) (by decide) rfl rfl, (List.forall_mem_cons.mpr ⟨zq_RX5_239 X (zM_539 hw hm) (by decide) rfl rfl, (List.forall_mem_cons.mpr ⟨zq_RX5_239 X (zM_540 hw hm) (by decide) rfl rfl, (List.forall_mem_cons.mpr ⟨zq_RX5_239 X (zM_541 hw hm) (by decide) rfl rfl, (List.forall_mem_cons.mpr ⟨zq_RX5_239 X (zM_542 hw hm) (by decide) rfl rfl, (List.forall_mem_cons.mpr ⟨zq_RX5_239 X (zM_543 hw hm) (by decide) rfl rfl, (List.forall_mem_cons.mpr ⟨zq_RX5_239 X (zM_544 hw hm) (by decide) rfl rfl, (List.forall_mem_cons.mpr ⟨zq_RX5_239 X (zM_545 hw hm) (by decide) rfl rfl, (List.forall_mem_cons.mpr ⟨zq_RX5_239 X (zM_546 hw hm) (by decide) rfl rfl, (List.forall_mem_cons.mpr ⟨zq_RX5_239 X (zM_547 hw hm) (by decide) rfl rfl, (List.forall_mem_cons.mpr ⟨zq_RX5_239 X (zM_548 hw hm) (by decide) rfl rfl, (List.forall_mem_cons.mpr ⟨zq_RX5_239 X (zM_549 hw hm) (by decide) rfl rfl, (List.forall_mem_cons.mpr ⟨zq_RX5_239 X (zM_550 hw hm) (by decide) rfl rfl, (List.forall_mem_cons.mpr ⟨zq_RX5_239 X (zM_551 hw hm) (by decide) rfl rfl, (List.forall_mem_cons.mpr ⟨zq_RX5_239 X (zM_552 hw hm) (by decide) rfl rfl, (List.forall_mem_cons.mpr ⟨zq_RX5_239 X (zM_553 hw hm) (by decide) rfl rfl, (List.forall_mem_cons.mpr ⟨zq_RX5_239 X (zM_554 hw hm) (by decide) rfl rfl, (List.forall_mem_cons.mpr ⟨zq_RX5_239 X (zM_555 hw hm) (by decide) rfl rfl, (List.forall_mem_cons.mpr ⟨zq_RX5_239 X (zM_556 hw hm) (by decide) rfl rfl, (List.forall_mem_cons.mpr ⟨zq_RX5_239 X (zM_557 hw hm) (by decide) rfl rfl, (List.forall_mem_cons.mpr ⟨zq_RX5_239 X (zM_558 hw hm) (by decide) rfl rfl, (List.forall_mem_cons.mpr ⟨zq_RX5_239 X (zM_559 hw hm) (by decide) rfl rfl, (List.forall_mem_cons.mpr ⟨zq_RX5_239 X (zM_560 hw hm) (by decide) rfl rfl, (List.forall_mem_cons.mpr ⟨zq_RX5_239 X (zM_561 hw hm) (by decide) rfl rfl, (List.forall_mem_cons.mpr ⟨zq_RX5_239 X (zM_562 hw hm) (by decide) rfl rfl, (List.forall_mem_cons.mpr ⟨zq_RX5_239 X (zM_563 hw hm) (by decide) rfl rfl, (List.forall_mem_cons.mpr ⟨zq_RX5_239 X (zM_564 hw hm) (by decide) rfl rfl, (List.forall_mem_cons.mpr ⟨zq_RX5_239 X (zM_565 hw hm) (by decide) rfl rfl, (List.forall_mem_cons.mpr ⟨zq_RX5_239 X (zM_566 hw hm) (by decide) rfl rfl, (List.forall_mem_cons.mpr ⟨zq_RX5_239 X (zM_567 hw hm) (by decide) rfl rfl, (List.forall_mem_cons.mpr ⟨zq_RX5_239 X (zM_568 hw hm) (by decide) rfl rfl, (List.forall_mem_cons.mpr ⟨zq_RX5_239 X (zM_569 hw hm) (by decide) rfl rfl, (List.forall_mem_cons.mpr ⟨zq_RX5_239 X (zM_570 hw hm) (by decide) rfl rfl, (List.forall_mem_cons.mpr ⟨zq_RX5_239 X (zM_571 hw hm) (by decide) rfl rfl, (List.forall_mem_cons.mpr ⟨zq_RX5_239 X (zM_572 hw hm) (by decide) rfl rfl, (List.forall_mem_cons.mpr ⟨zq_RX5_239 X (zM_573 hw hm) (by decide) rfl rfl, (List.forall_mem_cons.mpr ⟨zq_RX5_239 X (zM_574 hw hm) (by decide) rfl rfl, (List.forall_mem_cons.mpr ⟨zq_RX5_239 X (zM_575 hw hm) (by decide) rfl rfl, (List.forall_mem_cons.mpr ⟨zq_RX5_239 X (zM_576 hw hm) (by decide) rfl rfl, (List.forall_mem_cons.mpr ⟨zq_RX5_239 X (zM_577 hw hm) (by decide) rfl rfl, (List.forall_mem_cons.mpr ⟨zq_RX5_239 X (zM_578 hw hm) (by decide) rfl rfl, (List.forall_mem_cons.mpr ⟨zq_RX5_239 X (zM_579 hw hm) (by decide) rfl rfl, (List.forall_mem_cons.mpr ⟨zq_RX5_239 X (zM_580 hw hm) (by decide) rfl rfl, (List.forall_mem_cons.mpr ⟨zq_RX5_239 X (zM_581 hw hm) (by decide) rfl rfl, (List.forall_mem_cons.mpr ⟨zq_RX5_239 X (zM_582 hw hm) (by decide) rfl rfl, (List.forall_mem_cons.mpr ⟨zq_RX5_239 X (zM_583 hw hm) (by decide) rfl rfl, (List.forall_mem_cons.mpr ⟨zq_RX5_239 X (zM_584 hw hm) (by decide) rfl rfl, (List.forall_mem_cons.mpr ⟨zq_RX5_239 X (zM_585 hw hm) (by decide) rfl rfl, (List.forall_mem_cons.mpr ⟨zq_RX5_239 X (zM_586 hw hm) (by decide) rfl rfl, (List.forall_mem_cons.mpr ⟨zq_RX5_239 X (zM_587 hw hm) (by decide) rfl rfl, (List.forall_mem_cons.mpr ⟨zq_RX5_239 X (zM_588 hw hm) (by decide) rfl rfl, (List.forall_mem_cons.mpr ⟨zq_RX5_239 X (zM_589 hw hm) (by decide) rfl rfl, (List.forall_mem_cons.mpr ⟨zq_RX5_239 X (zM_590 hw hm) (by decide) rfl rfl, (List.forall_mem_cons.mpr ⟨zq_RX5_239 X (zM_591 hw hm) (by decide) rfl rfl, (List.forall_mem_cons.mpr ⟨zq_RX5_239 X (zM_592 hw hm) (by decide) rfl rfl, (List.forall_mem_cons.mpr ⟨zq_RX5_239 X (zM_593 hw hm) (by decide) rfl rfl, (List.forall_mem_cons.mpr ⟨zq_RX5_239 X (zM_594 hw hm) (by decide) rfl rfl, (List.forall_mem_cons.mpr ⟨zq_RX5_239 X (zM_595 hw hm) (by decide) rfl rfl, (List.forall_mem_cons.mpr ⟨zq_RX5_250 X (zM_601 hw hm) (by decide) rfl rfl, (List.forall_mem_cons.mpr ⟨zq_RX5_355 X (zM_787 hw hm) (by decide) rfl rfl, nilz⟩)⟩)⟩)⟩)⟩)⟩)⟩)⟩)⟩)⟩)⟩)⟩)⟩)⟩)⟩)⟩)⟩)⟩)⟩)⟩)⟩)⟩)⟩)⟩)⟩)⟩)⟩)⟩)⟩)⟩)⟩)⟩)⟩)⟩)⟩)⟩)⟩)⟩)⟩)⟩)⟩)⟩)⟩)⟩)⟩)⟩)⟩)⟩)⟩)⟩)⟩)⟩)⟩)⟩)⟩)⟩)⟩)⟩)⟩)⟩)⟩)⟩)⟩)⟩)⟩)
set_option maxRecDepth 100000 in
theorem zk_777 : zmeth zKS zuq zNS zm_777 4000 = true := by decide +kernel
theorem zM_777 {l : Launch} {D : va_G} {cI cZ cB cJ cR : ClassId} {ks ad : List Nat} {Psi : va_W → Prop} (hw : zworld ks ad zuq zNS Psi) (hm : zMan l D cI cZ cB cJ cR ks ad Psi) : zMet l D cI cZ cB cJ cR zKS ks ad Psi yX5_refuseOaths (.code yX5_refuseOaths cX5_refuseOaths 4 (some .int)) 2 zc_777 :=
  zmet_of hw 2 (by decide) 4000 zk_777 (by decide) (by decide) (fun X => ⟨zg_RX5 X, zp_RX5 X, zl1_RX5 X, zl2_RX5 X, nilz, (List.forall_mem_cons.mpr ⟨zq_RX5_355 X (zM_789 hw hm) (by decide) rfl rfl, nilz⟩)⟩)
