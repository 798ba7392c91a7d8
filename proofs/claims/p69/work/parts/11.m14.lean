set_option maxRecDepth 100000 in
theorem zk_772_0 : zm1 zKS zuq zNS zm_772 4000 zt_772_0 = true := z1F (zdt_X5_refuseDeeds) (by decide +kernel)
set_option maxRecDepth 100000 in
theorem zk_772_1 : zm1 zKS zuq zNS zm_772 4000 zt_772_1 = true := z1F (zdt_X5_refuseDeeds) (by decide +kernel)
set_option maxRecDepth 100000 in
theorem zk_772_2 : zm1 zKS zuq zNS zm_772 4000 zt_772_2 = true := z1F (zdt_X5_refuseDeeds) (by decide +kernel)
set_option maxRecDepth 100000 in
theorem zk_772_3 : zm1 zKS zuq zNS zm_772 4000 zt_772_3 = true := z1F (zdt_X5_refuseDeeds) (by decide +kernel)
set_option maxRecDepth 100000 in
theorem zk_772_4 : zm1 zKS zuq zNS zm_772 4000 zt_772_4 = true := z1F (zdt_X5_refuseDeeds) (by decide +kernel)
set_option maxRecDepth 100000 in
theorem zk_772_5 : zm1 zKS zuq zNS zm_772 4000 zt_772_5 = true := z1F (zdt_X5_refuseDeeds) (by decide +kernel)
set_option maxRecDepth 100000 in
theorem zk_772_6 : zm1 zKS zuq zNS zm_772 4000 zt_772_6 = true := z1F (zdt_X5_refuseDeeds) (by decide +kernel)
set_option maxRecDepth 100000 in
theorem zk_772_7 : zm1 zKS zuq zNS zm_772 4000 zt_772_7 = true := z1F (zdt_X5_refuseDeeds) (by decide +kernel)
set_option maxRecDepth 100000 in
theorem zk_772_8 : zm1 zKS zuq zNS zm_772 4000 zt_772_8 = true := z1F (zdt_X5_refuseDeeds) (by decide +kernel)
set_option maxRecDepth 100000 in
theorem zk_772_9 : zm1 zKS zuq zNS zm_772 4000 zt_772_9 = true := z1F (zdt_X5_refuseDeeds) (by decide +kernel)
set_option maxRecDepth 100000 in
theorem zk_772_10 : zm1 zKS zuq zNS zm_772 4000 zt_772_10 = true := z1F (zdt_X5_refuseDeeds) (by decide +kernel)
set_option maxRecDepth 100000 in
theorem zk_772_11 : zm1 zKS zuq zNS zm_772 4000 zt_772_11 = true := z1F (zdt_X5_refuseDeeds) (by decide +kernel)
set_option maxRecDepth 100000 in
theorem zk_772_12 : zm1 zKS zuq zNS zm_772 4000 zt_772_12 = true := z1F (zdt_X5_refuseDeeds) (by decide +kernel)
set_option maxRecDepth 100000 in
theorem zk_772_13 : zm1 zKS zuq zNS zm_772 4000 zt_772_13 = true := z1F (zdt_X5_refuseDeeds) (by decide +kernel)
set_option maxRecDepth 100000 in
theorem zk_772_14 : zm1 zKS zuq zNS zm_772 4000 zt_772_14 = true := z1F (zdt_X5_refuseDeeds) (by decide +kernel)
set_option maxRecDepth 100000 in
theorem zk_772_15 : zm1 zKS zuq zNS zm_772 4000 zt_772_15 = true := z1F (zdt_X5_refuseDeeds) (by decide +kernel)
set_option maxRecDepth 100000 in
theorem zk_772_16 : zm1 zKS zuq zNS zm_772 4000 zt_772_16 = true := z1F (zdt_X5_refuseDeeds) (by decide +kernel)
set_option maxRecDepth 100000 in
theorem zk_772_17 : zm1 zKS zuq zNS zm_772 4000 zt_772_17 = true := z1F (zdt_X5_refuseDeeds) (by decide +kernel)
set_option maxRecDepth 100000 in
theorem zk_772_18 : zm1 zKS zuq zNS zm_772 4000 zt_772_18 = true := z1F (zdt_X5_refuseDeeds) (by decide +kernel)
set_option maxRecDepth 100000 in
theorem zk_772_19 : zm1 zKS zuq zNS zm_772 4000 zt_772_19 = true := z1F (zdt_X5_refuseDeeds) (by decide +kernel)
set_option maxRecDepth 100000 in
theorem zk_772_20 : zm1 zKS zuq zNS zm_772 4000 zt_772_20 = true := z1F (zdt_X5_refuseDeeds) (by decide +kernel)
set_option maxRecDepth 100000 in
theorem zk_772_21 : zm1 zKS zuq zNS zm_772 4000 zt_772_21 = true := z1F (zdt_X5_refuseDeeds) (by decide +kernel)
set_option maxRecDepth 100000 in
theorem zk_772_22 : zm1 zKS zuq zNS zm_772 4000 zt_772_22 = true := z1F (zdt_X5_refuseDeeds) (by decide +kernel)
set_option maxRecDepth 100000 in
theorem zk_772_23 : zm1 zKS zuq zNS zm_772 4000 zt_772_23 = true := z1F (zdt_X5_refuseDeeds) (by decide +kernel)
set_option maxRecDepth 100000 in
theorem zk_772_24 : zm1 zKS zuq zNS zm_772 4000 zt_772_24 = true := z1F (zdt_X5_refuseDeeds) (by decide +kernel)
set_option maxRecDepth 100000 in
theorem zk_772_25 : zm1 zKS zuq zNS zm_772 4000 zt_772_25 = true := z1F (zdt_X5_refuseDeeds) (by decide +kernel)
set_option maxRecDepth 100000 in
theorem zk_772_26 : zm1 zKS zuq zNS zm_772 4000 zt_772_26 = true := z1F (zdt_X5_refuseDeeds) (by decide +kernel)
set_option maxRecDepth 100000 in
theorem zk_772_27 : zm1 zKS zuq zNS zm_772 4000 zt_772_27 = true := z1F (zdt_X5_refuseDeeds) (by decide +kernel)
set_option maxRecDepth 100000 in
theorem zk_772_28 : zm1 zKS zuq zNS zm_772 4000 zt_772_28 = true := z1F (zdt_X5_refuseDeeds) (by decide +kernel)
set_option maxRecDepth 100000 in
theorem zk_772_29 : zm1 zKS zuq zNS zm_772 4000 zt_772_29 = true := z1F (zdt_X5_refuseDeeds) (by decide +kernel)
set_option maxRecDepth 100000 in
theorem zk_772_30 : zm1 zKS zuq zNS zm_772 4000 zt_772_30 = true := z1F (zdt_X5_refuseDeeds) (by decide +kernel)
set_option maxRecDepth 100000 in
theorem zk_772_s : zm0 zKS zuq zNS zm_772 4000 = true := z0F (zdt_X5_refuseDeeds) (by decide +kernel)
set_option maxRecDepth 100000 in
theorem zk_772 : zmeth zKS zuq zNS zm_772 4000 = true := zmeth_by zk_772_s (List.forall_mem_cons.mpr ⟨zk_772_0, (List.forall_mem_cons.mpr ⟨zk_772_1, (List.forall_mem_cons.mpr ⟨zk_772_2, (List.forall_mem_cons.mpr ⟨zk_772_3, (List.forall_mem_cons.mpr ⟨zk_772_4, (List.forall_mem_cons.mpr ⟨zk_772_5, (List.forall_mem_cons.mpr ⟨zk_772_6, (List.forall_mem_cons.mpr ⟨zk_772_7, (List.forall_mem_cons.mpr ⟨zk_772_8, (List.forall_mem_cons.mpr ⟨zk_772_9, (List.forall_mem_cons.mpr ⟨zk_772_10, (List.forall_mem_cons.mpr ⟨zk_772_11, (List.forall_mem_cons.mpr ⟨zk_772_12, (List.forall_mem_cons.mpr ⟨zk_772_13, (List.forall_mem_cons.mpr ⟨zk_772_14, (List.forall_mem_cons.mpr ⟨zk_772_15, (List.forall_mem_cons.mpr ⟨zk_772_16, (List.forall_mem_cons.mpr ⟨zk_772_17, (List.forall_mem_cons.mpr ⟨zk_772_18, (List.forall_mem_cons.mpr ⟨zk_772_19, (List.forall_mem_cons.mpr ⟨zk_772_20, (List.forall_mem_cons.mpr ⟨zk_772_21, (List.forall_mem_cons.mpr ⟨zk_772_22, (List.forall_mem_cons.mpr ⟨zk_772_23, (List.forall_mem_cons.mpr ⟨zk_772_24, (List.forall_mem_cons.mpr ⟨zk_772_25, (List.forall_mem_cons.mpr ⟨zk_772_26, (List.forall_mem_cons.mpr ⟨zk_772_27, (List.forall_mem_cons.mpr ⟨zk_772_28, (List.forall_mem_cons.mpr ⟨zk_772_29, (List.forall_mem_cons.mpr ⟨zk_772_30, nilz⟩)⟩)⟩)⟩)⟩)⟩)⟩)⟩)⟩)⟩)⟩)⟩)⟩)⟩)⟩)⟩)⟩)⟩)⟩)⟩)⟩)⟩)⟩)⟩)⟩)⟩)⟩)⟩)⟩)⟩)⟩)
set_option maxRecDepth 100000 in
theorem zM_772 {l : Launch} {D : va_G} {cI cZ cB cJ cR : ClassId} {ks ad : List Nat} {Psi : va_W → Prop} (hw : zworld ks ad zuq zNS Psi) (hm : zMan l D cI cZ cB cJ cR ks ad Psi) : zMet l D cI cZ cB cJ cR zKS ks ad Psi yX5_refuseDeeds (.code yX5_refuseDeeds cX5_refuseDeeds 4 (some .int)) 2 zc_772 :=
  zmet_of hw 2 (by decide) 4000 zk_772 (by decide) (by decide) (fun X => ⟨zg_RX5 X, zp_RX5 X, zl1_RX5 X, zl2_RX5 X, nilz, (List.forall_mem_cons.mpr ⟨zq_RX5_87 X (zM_301 hw hm) (by decide) rfl rfl, (List.forall_mem_cons.mpr ⟨zq_RX5_186 X (zM_304 hw hm) (by decide) rfl rfl, (List.forall_mem_cons.mpr ⟨zq_RX5_239 X (zM_420 hw hm) (by decide) rfl rfl, (List.forall_mem_cons.mpr ⟨zq_RX5_239 X (zM_421 hw hm) (by decide) rfl rfl, (List.forall_mem_cons.mpr ⟨zq_RX5_239 X (zM_422 hw hm) (by decide) rfl rfl, (List.forall_mem_cons.mpr ⟨zq_RX5_239 X (zM_423 hw hm) (by decide) rfl rfl, (List.forall_mem_cons.mpr ⟨zq_RX5_239 X (zM_424 hw hm) (by decide) rfl rfl, (List.forall_mem_cons.mpr ⟨zq_RX5_239 X (zM_425 hw hm) (by decide) rfl rfl, (List.forall_mem_cons.mpr ⟨zq_RX5_239 X (zM_426 hw hm) (by decide) rfl rfl, (List.forall_mem_cons.mpr ⟨zq_RX5_239 X (zM_427 hw hm) (by decide) rfl rfl, (List.forall_mem_cons.mpr ⟨zq_RX5_239 X (zM_428 hw hm) (by decide) rfl rfl, (List.forall_mem_cons.mpr ⟨zq_RX5_239 X (zM_429 hw hm) (by decide) rfl rfl, (List.forall_mem_cons.mpr ⟨zq_RX5_239 X (zM_430 hw hm) (by decide) rfl rfl, (List.forall_mem_cons.mpr ⟨zq_RX5_239 X (zM_431 hw hm) (by decide) rfl rfl, (List.forall_mem_cons.mpr ⟨zq_RX5_239 X (zM_432 hw hm) (by decide) rfl rfl, (List.forall_mem_cons.mpr ⟨zq_RX5_239 X (zM_433 hw hm) (by decide) rfl rfl, (List.forall_mem_cons.mpr ⟨zq_RX5_239 X (zM_434 hw hm) (by decide) rfl rfl, (List.forall_mem_cons.mpr ⟨zq_RX5_239 X (zM_435 hw hm) (by decide) rfl rfl, (List.forall_mem_cons.mpr ⟨zq_RX5_239 X (zM_436 hw hm) (by decide) rfl rfl, (List.forall_mem_cons.mpr ⟨zq_RX5_239 X (zM_437 hw hm) (by decide) rfl rfl, (List.forall_mem_cons.mpr ⟨zq_RX5_239 X (zM_438 hw hm) (by decide) rfl rfl, (List.forall_mem_cons.mpr ⟨zq_RX5_239 X (zM_439 hw hm) (by decide) rfl rfl, (List.forall_mem_cons.mpr ⟨zq_RX5_239 X (zM_440 hw hm) (by decide) rfl rfl, (List.forall_mem_cons.mpr ⟨zq_RX5_239 X (zM_441 hw hm) (by decide) rfl rfl, (List.forall_mem_cons.mpr ⟨zq_RX5_239 X (zM_442 hw hm) (by decide) rfl rfl, (List.forall_mem_cons.mpr ⟨zq_RX5_239 X (zM_443 hw hm) (by decide) rfl rfl, (List.forall_mem_cons.mpr ⟨zq_RX5_239 X (zM_444 hw hm) (by decide) rfl rfl, (List.forall_mem_cons.mpr ⟨zq_RX5_239 X (zM_445 hw hm) (by decide) rfl rfl, (List.forall_mem_cons.mpr ⟨zq_RX5_239 X (zM_446 hw hm) (by decide) rfl rfl, (List.forall_mem_cons.mpr ⟨zq_RX5_239 X (zM_447 hw hm) (by decide) rfl rfl, (List.forall_mem_cons.mpr ⟨zq_RX5_239 X (zM_448 hw hm) (by decide) rfl rfl, (List.forall_mem_cons.mpr ⟨zq_RX5_239 X (zM_449 hw hm) (by decide) rfl rfl, (List.forall_mem_cons.mpr ⟨zq_RX5_239 X (zM_450 hw hm) (by decide) rfl rfl, (List.forall_mem_cons.mpr ⟨zq_RX5_239 X (zM_451 hw hm) (by decide) rfl rfl, (List.forall_mem_cons.mpr ⟨zq_RX5_239 X (zM_452 hw hm) (by decide) rfl rfl, (List.forall_mem_cons.mpr ⟨zq_RX5_239 X (zM_453 hw hm) (by decide) rfl rfl, (List.forall_mem_cons.mpr ⟨zq_RX5_239 X (zM_454 hw hm) (by decide) rfl rfl, (List.forall_mem_cons.mpr ⟨zq_RX5_239 X (zM_455 hw hm) (by decide) rfl rfl, (List.forall_mem_cons.mpr ⟨zq_RX5_239 X (zM_456 hw hm) (by decide) rfl rfl, (List.forall_mem_cons.mpr ⟨zq_RX5_239 X (zM_457 hw hm) (by decide) rfl rfl, (List.forall_mem_cons.mpr ⟨zq_RX5_239 X (zM_458 hw hm) (by decide) rfl rfl, (List.forall_mem_cons.mpr ⟨zq_RX5_239 X (zM_459 hw hm) (by decide) rfl rfl, (List.forall_mem_cons.mpr ⟨zq_RX5_239 X (zM_460 hw hm) (by decide) rfl rfl, (List.forall_mem_cons.mpr ⟨zq_RX5_239 X (zM_461 hw hm) (by decide) rfl rfl, (List.forall_mem_cons.mpr ⟨zq_RX5_239 X (zM_462 hw hm) (by decide) rfl rfl, (List.forall_mem_cons.mpr ⟨zq_RX5_239 X (zM_463 hw hm) (by decide) rfl rfl, (List.forall_mem_cons.mpr ⟨zq_RX5_239 X (zM_464 hw hm) (by decide) rfl rfl, (List.forall_mem_cons.mpr ⟨zq_RX5_239 X (zM_465 hw hm) (by decide) rfl rfl, (List.forall_mem_cons.mpr ⟨zq_RX5_239 X (zM_466 hw hm) (by decide) rfl rfl, (List.forall_mem_cons.mpr ⟨zq_RX5_239 X (zM_467 hw hm) (by decide) rfl rfl, (List.forall_mem_cons.mpr ⟨zq_RX5_239 X (zM_468 hw hm) (by decide) rfl rfl, (List.forall_mem_cons.mpr ⟨zq_RX5_239 X (zM_469 hw hm) (by decide) rfl rfl, (List.forall_mem_cons.mpr ⟨zq_RX5_239 X (zM_470 hw hm) (by decide) rfl rfl, (List.forall_mem_cons.mpr ⟨zq_RX5_239 X (zM_471 hw hm) (by decide) rfl rfl, (List.forall_mem_cons.mpr ⟨zq_RX5_239 X (zM_472 hw hm) (by decide) rfl rfl, (List.forall_mem_cons.mpr ⟨zq_RX5_239 X (zM_473 hw hm) (by decide) rfl rfl, (List.forall_mem_cons.mpr ⟨zq_RX5_239 X (zM_474 hw hm) (by decide) rfl rfl, (List.forall_mem_cons.mpr ⟨zq_RX5_239 X (zM_475 hw hm) (by decide) rfl rfl, (List.forall_mem_cons.mpr ⟨zq_RX5_239 X (zM_476 hw hm) (by decide) rfl rfl, (List.forall_mem_cons.mpr ⟨zq_RX5_239 X (zM_477 hw hm) (by decide) rfl rfl, (List.forall_mem_cons.mpr ⟨zq_RX5_239 X (zM_478 hw hm) (by decide) rfl rfl, (List.forall_mem_cons.mpr ⟨zq_RX5_239 X (zM_479 hw hm) (by decide) rfl rfl, (List.forall_mem_cons.mpr ⟨zq_RX5_250 X (zM_603 hw hm) (by decide) rfl rfl, (List.forall_mem_cons.mpr ⟨zq_RX5_355 X (zM_786 hw hm) (by decide) rfl rfl, nilz⟩)⟩)⟩)⟩)⟩)⟩)⟩)⟩)⟩)⟩)⟩)⟩)⟩)⟩)⟩)⟩)⟩)⟩)⟩)⟩)⟩)⟩)⟩)⟩)⟩)⟩)⟩)⟩)⟩)⟩)⟩)⟩)⟩)⟩)⟩)⟩)⟩)⟩)⟩)⟩)⟩)⟩)⟩)⟩)⟩)⟩)⟩)⟩)⟩)⟩)⟩)⟩)⟩)⟩)⟩)⟩)⟩)⟩)⟩)⟩)⟩)⟩)⟩)⟩)⟩)
set_option maxRecDepth 100000 in
theorem zk_773_0 : zm1 zKS zuq zNS zm_773 4000 zt_773_0 = true := z1F (zdt_X5_refuseDeeds) (by decide +kernel)
set_option maxRecDepth 100000 in
theorem zk_773_1 : zm1 zKS zuq zNS zm_773 4000 zt_773_1 = true := z1F (zdt_X5_refuseDeeds) (by decide +kernel)
set_option maxRecDepth 100000 in
theorem zk_773_2 : zm1 zKS zuq zNS zm_773 4000 zt_773_2 = true := z1F (zdt_X5_refuseDeeds) (by decide +kernel)
set_option maxRecDepth 100000 in
theorem zk_773_3 : zm1 zKS zuq zNS zm_773 4000 zt_773_3 = true := z1F (zdt_X5_refuseDeeds) (by decide +kernel)
set_option maxRecDepth 100000 in
theorem zk_773_4 : zm1 zKS zuq zNS zm_773 4000 zt_773_4 = true := z1F (zdt_X5_refuseDeeds) (by decide +kernel)
set_option maxRecDepth 100000 in
theorem zk_773_5 : zm1 zKS zuq zNS zm_773 4000 zt_773_5 = true := z1F (zdt_X5_refuseDeeds) (by decide +kernel)
set_option maxRecDepth 100000 in
theorem zk_773_6 : zm1 zKS zuq zNS zm_773 4000 zt_773_6 = true := z1F (zdt_X5_refuseDeeds) (by decide +kernel)
set_option maxRecDepth 100000 in
theorem zk_773_7 : zm1 zKS zuq zNS zm_773 4000 zt_773_7 = true := z1F (zdt_X5_refuseDeeds) (by decide +kernel)
set_option maxRecDepth 100000 in
theorem zk_773_8 : zm1 zKS zuq zNS zm_773 4000 zt_773_8 = true := z1F (zdt_X5_refuseDeeds) (by decide +kernel)
set_option maxRecDepth 100000 in
theorem zk_773_9 : zm1 zKS zuq zNS zm_773 4000 zt_773_9 = true := z1F (zdt_X5_refuseDeeds) (by decide +kernel)
set_option maxRecDepth 100000 in
theorem zk_773_10 : zm1 zKS zuq zNS zm_773 4000 zt_773_10 = true := z1F (zdt_X5_refuseDeeds) (by decide +kernel)
set_option maxRecDepth 100000 in
theorem zk_773_11 : zm1 zKS zuq zNS zm_773 4000 zt_773_11 = true := z1F (zdt_X5_refuseDeeds) (by decide +kernel)
set_option maxRecDepth 100000 in
theorem zk_773_12 : zm1 zKS zuq zNS zm_773 4000 zt_773_12 = true := z1F (zdt_X5_refuseDeeds) (by decide +kernel)
set_option maxRecDepth 100000 in
theorem zk_773_13 : zm1 zKS zuq zNS zm_773 4000 zt_773_13 = true := z1F (zdt_X5_refuseDeeds) (by decide +kernel)
set_option maxRecDepth 100000 in
theorem zk_773_14 : zm1 zKS zuq zNS zm_773 4000 zt_773_14 = true := z1F (zdt_X5_refuseDeeds) (by decide +kernel)
set_option maxRecDepth 100000 in
theorem zk_773_15 : zm1 zKS zuq zNS zm_773 4000 zt_773_15 = true := z1F (zdt_X5_refuseDeeds) (by decide +kernel)
set_option maxRecDepth 100000 in
theorem zk_773_16 : zm1 zKS zuq zNS zm_773 4000 zt_773_16 = true := z1F (zdt_X5_refuseDeeds) (by decide +kernel)
set_option maxRecDepth 100000 in
theorem zk_773_17 : zm1 zKS zuq zNS zm_773 4000 zt_773_17 = true := z1F (zdt_X5_refuseDeeds) (by decide +kernel)
set_option maxRecDepth 100000 in
theorem zk_773_18 : zm1 zKS zuq zNS zm_773 4000 zt_773_18 = true := z1F (zdt_X5_refuseDeeds) (by decide +kernel)
set_option maxRecDepth 100000 in
theorem zk_773_19 : zm1 zKS zuq zNS zm_773 4000 zt_773_19 = true := z1F (zdt_X5_refuseDeeds) (by decide +kernel)
set_option maxRecDepth 100000 in
theorem zk_773_20 : zm1 zKS zuq zNS zm_773 4000 zt_773_20 = true := z1F (zdt_X5_refuseDeeds) (by decide +kernel)
set_option maxRecDepth 100000 in
theorem zk_773_21 : zm1 zKS zuq zNS zm_773 4000 zt_773_21 = true := z1F (zdt_X5_refuseDeeds) (by decide +kernel)
set_option maxRecDepth 100000 in
theorem zk_773_22 : zm1 zKS zuq zNS zm_773 4000 zt_773_22 = true := z1F (zdt_X5_refuseDeeds) (by decide +kernel)
set_option maxRecDepth 100000 in
theorem zk_773_23 : zm1 zKS zuq zNS zm_773 4000 zt_773_23 = true := z1F (zdt_X5_refuseDeeds) (by decide +kernel)
set_option maxRecDepth 100000 in
theorem zk_773_24 : zm1 zKS zuq zNS zm_773 4000 zt_773_24 = true := z1F (zdt_X5_refuseDeeds) (by decide +kernel)
set_option maxRecDepth 100000 in
theorem zk_773_25 : zm1 zKS zuq zNS zm_773 4000 zt_773_25 = true := z1F (zdt_X5_refuseDeeds) (by decide +kernel)
set_option maxRecDepth 100000 in
theorem zk_773_26 : zm1 zKS zuq zNS zm_773 4000 zt_773_26 = true := z1F (zdt_X5_refuseDeeds) (by decide +kernel)
set_option maxRecDepth 100000 in
theorem zk_773_27 : zm1 zKS zuq zNS zm_773 4000 zt_773_27 = true := z1F (zdt_X5_refuseDeeds) (by decide +kernel)
set_option maxRecDepth 100000 in
theorem zk_773_28 : zm1 zKS zuq zNS zm_773 4000 zt_773_28 = true := z1F (zdt_X5_refuseDeeds) (by decide +kernel)
set_option maxRecDepth 100000 in
theorem zk_773_29 : zm1 zKS zuq zNS zm_773 4000 zt_773_29 = true := z1F (zdt_X5_refuseDeeds) (by decide +kernel)
set_option maxRecDepth 100000 in
theorem zk_773_30 : zm1 zKS zuq zNS zm_773 4000 zt_773_30 = true := z1F (zdt_X5_refuseDeeds) (by decide +kernel)
set_option maxRecDepth 100000 in
theorem zk_773_s : zm0 zKS zuq zNS zm_773 4000 = true := z0F (zdt_X5_refuseDeeds) (by decide +kernel)
set_option maxRecDepth 100000 in
theorem zk_773 : zmeth zKS zuq zNS zm_773 4000 = true := zmeth_by zk_773_s (List.forall_mem_cons.mpr ⟨zk_773_0, (List.forall_mem_cons.mpr ⟨zk_773_1, (List.forall_mem_cons.mpr ⟨zk_773_2, (List.forall_mem_cons.mpr ⟨zk_773_3, (List.forall_mem_cons.mpr ⟨zk_773_4, (List.forall_mem_cons.mpr ⟨zk_773_5, (List.forall_mem_cons.mpr ⟨zk_773_6, (List.forall_mem_cons.mpr ⟨zk_773_7, (List.forall_mem_cons.mpr ⟨zk_773_8, (List.forall_mem_cons.mpr ⟨zk_773_9, (List.forall_mem_cons.mpr ⟨zk_773_10, (List.forall_mem_cons.mpr ⟨zk_773_11, (List.forall_mem_cons.mpr ⟨zk_773_12, (List.forall_mem_cons.mpr ⟨zk_773_13, (List.forall_mem_cons.mpr ⟨zk_773_14, (List.forall_mem_cons.mpr ⟨zk_773_15, (List.forall_mem_cons.mpr ⟨zk_773_16, (List.forall_mem_cons.mpr ⟨zk_773_17, (List.forall_mem_cons.mpr ⟨zk_773_18, (List.forall_mem_cons.mpr ⟨zk_773_19, (List.forall_mem_cons.mpr ⟨zk_773_20, (List.forall_mem_cons.mpr ⟨zk_773_21, (List.forall_mem_cons.mpr ⟨zk_773_22, (List.forall_mem_cons.mpr ⟨zk_773_23, (List.forall_mem_cons.mpr ⟨zk_773_24, (List.forall_mem_cons.mpr ⟨zk_773_25, (List.forall_mem_cons.mpr ⟨zk_773_26, (List.forall_mem_cons.mpr ⟨zk_773_27, (List.forall_mem_cons.mpr ⟨zk_773_28, (List.forall_mem_cons.mpr ⟨zk_773_29, (List.forall_mem_cons.mpr ⟨zk_773_30, nilz⟩)⟩)⟩)⟩)⟩)⟩)⟩)⟩)⟩)⟩)⟩)⟩)⟩)⟩)⟩)⟩)⟩)⟩)⟩)⟩)⟩)⟩)⟩)⟩)⟩)⟩)⟩)⟩)⟩)⟩)⟩)
set_option maxRecDepth 100000 in
theorem zM_773 {l : Launch} {D : va_G} {cI cZ cB cJ cR : ClassId} {ks ad : List Nat} {Psi : va_W → Prop} (hw : zworld ks ad zuq zNS Psi) (hm : zMan l D cI cZ cB cJ cR ks ad Psi) : zMet l D cI cZ cB cJ cR zKS ks ad Psi yX5_refuseDeeds (.code yX5_refuseDeeds cX5_refuseDeeds 4 (some .int)) 2 zc_773 :=
  zmet_of hw 2 (by decide) 4000 zk_773 (by decide) (by decide) (fun X => ⟨zg_RX5 X, zp_RX5 X, zl1_RX5 X, zl2_RX5 X, nilz, (List.forall_mem_cons.mpr ⟨zq_RX5_87 X (zM_301 hw hm) (by decide) rfl rfl, (List.forall_mem_cons.mpr ⟨zq_RX5_186 X (zM_304 hw hm) (by decide) rfl rfl, (List.forall_mem_cons.mpr ⟨zq_RX5_239 X (zM_480 hw hm) (by decide) rfl rfl, (List.forall_mem_cons.mpr ⟨zq_RX5_239 X (zM_481 hw hm) (by decide) rfl rfl, (List.forall_mem_cons.mpr ⟨zq_RX5_239 X (zM_482 hw hm) (by decide) rfl rfl, (List.forall_mem_cons.mpr ⟨zq_RX5_239 X (zM_483 hw hm) (by decide) rfl rfl, (List.forall_mem_cons.mpr ⟨zq_RX5_239 X (zM_484 hw hm) (by decide) rfl rfl, (List.forall_mem_cons.mpr ⟨zq_RX5_239 X (zM_485 hw hm) (by decide) rfl rfl, (List.forall_mem_cons.mpr ⟨zq_RX5_239 X (zM_486 hw hm) (by decide) rfl rfl, (List.forall_mem_cons.mpr ⟨zq_RX5_239 X (zM_487 hw hm) (by decide) rfl rfl, (List.forall_mem_cons.mpr ⟨zq_RX5_239 X (zM_488 hw hm) (by decide) rfl rfl, (List.forall_mem_cons.mpr ⟨zq_RX5_239 X (zM_489 hw hm) (by decide) rfl rfl, (List.forall_mem_cons.mpr ⟨zq_RX5_239 X (zM_490 hw hm) (by decide) rfl rfl, (List.forall_mem_cons.mpr ⟨zq_RX5_239 X (zM_491 hw hm) (by decide) rfl rfl, (List.forall_mem_cons.mpr ⟨zq_RX5_239 X (zM_492 hw hm) (by decide) rfl rfl, (List.forall_mem_cons.mpr ⟨zq_RX5_239 X (zM_493 hw hm) (by decide) rfl rfl, (List.forall_mem_cons.mpr ⟨zq_RX5_239 X (zM_494 hw hm) (by decide) rfl rfl, (List.forall_mem_cons.mpr ⟨zq_RX5_239 X (zM_495 hw hm) (by decide) rfl rfl, (List.forall_mem_cons.mpr ⟨zq_RX5_239 X (zM_496 hw hm) (by decide) rfl rfl, (List.forall_mem_cons.mpr ⟨zq_RX5_239 X (zM_497 hw hm) (by decide) rfl rfl, (List.forall_mem_cons.mpr ⟨zq_RX5_239 X (zM_498 hw hm) (by decide) rfl rfl, (List.forall_mem_cons.mpr ⟨zq_RX5_239 X (zM_499 hw hm) (by decide) rfl rfl, (List.forall_mem_cons.mpr ⟨zq_RX5_239 X (zM_500 hw hm) (by decide) rfl rfl, (List.forall_mem_cons.mpr ⟨zq_RX5_239 X (zM_501 hw hm) (by decide) rfl rfl, (List.forall_mem_cons.mpr ⟨zq_RX5_239 X (zM_502 hw hm) (by decide) rfl rfl, (List.forall_mem_cons.mpr ⟨zq_RX5_239 X (zM_503 hw hm) (by decide) rfl rfl, (List.forall_mem_cons.mpr ⟨zq_RX5_239 X (zM_504 hw hm) (by decide) rfl rfl, (List.forall_mem_cons.mpr ⟨zq_RX5_239 X (zM_505 hw hm) (by decide) rfl rfl, (List.forall_mem_cons.mpr ⟨zq_RX5_239 X (zM_506 hw hm) (by decide) rfl rfl, (List.forall_mem_cons.mpr ⟨zq_RX5_239 X (zM_507 hw hm) (by decide) rfl rfl, (List.forall_mem_cons.mpr ⟨zq_RX5_239 X (zM_508 hw hm) (by decide) rfl rfl, (List.forall_mem_cons.mpr ⟨zq_RX5_239 X (zM_509 hw hm) (by decide) rfl rfl, (List.forall_mem_cons.mpr ⟨zq_RX5_239 X (zM_510 hw hm) (by decide) rfl rfl, (List.forall_mem_cons.mpr ⟨zq_RX5_239 X (zM_511 hw hm) (by decide) rfl rfl, (List.forall_mem_cons.mpr ⟨zq_RX5_239 X (zM_512 hw hm) (by decide) rfl rfl, (List.forall_mem_cons.mpr ⟨zq_RX5_239 X (zM_513 hw hm) (by decide) rfl rfl, (List.forall_mem_cons.mpr ⟨zq_RX5_239 X (zM_514 hw hm) (by decide) rfl rfl, (List.forall_mem_cons.mpr ⟨zq_RX5_239 X (zM_515 hw hm) (by decide) rfl rfl, (List.forall_mem_cons.mpr ⟨zq_RX5_239 X (zM_516 hw hm) (by decide) rfl rfl, (List.forall_mem_cons.mpr ⟨zq_RX5_239 X (zM_517 hw hm) (by decide) rfl rfl, (List.forall_mem_cons.mpr ⟨zq_RX5_239 X (zM_518 hw hm) (by decide) rfl rfl, (List.forall_mem_cons.mpr ⟨zq_RX5_239 X (zM_519 hw hm) (by decide) rfl rfl, (List.forall_mem_cons.mpr ⟨zq_RX5_239 X (zM_520 hw hm) (by decide) rfl rfl, (List.forall_mem_cons.mpr ⟨zq_RX5_239 X (zM_521 hw hm) (by decide) rfl rfl, (List.forall_mem_cons.mpr ⟨zq_RX5_239 X (zM_522 hw hm) (by decide) rfl rfl, (List.forall_mem_cons.mpr ⟨zq_RX5_239 X (zM_523 hw hm) (by decide) rfl rfl, (List.forall_mem_cons.mpr ⟨zq_RX5_239 X (zM_524 hw hm) (by decide) rfl rfl, (List.forall_mem_cons.mpr ⟨zq_RX5_239 X (zM_525 hw hm) (by decide) rfl rfl, (List.forall_mem_cons.mpr ⟨zq_RX5_239 X (zM_526 hw hm) (by decide) rfl rfl, (List.forall_mem_cons.mpr ⟨zq_RX5_239 X (zM_527 hw hm) (by decide) rfl rfl, (List.forall_mem_cons.mpr ⟨zq_RX5_239 X (zM_528 hw hm) (by decide) rfl rfl, (List.forall_mem_cons.mpr ⟨zq_RX5_239 X (zM_529 hw hm) (by decide) rfl rfl, (List.forall_mem_cons.mpr ⟨zq_RX5_239 X (zM_530 hw hm) (by decide) rfl rfl, (List.forall_mem_cons.mpr ⟨zq_RX5_239 X (zM_531 hw hm) (by decide) rfl rfl, (List.forall_mem_cons.mpr ⟨zq_RX5_239 X (zM_532 hw hm) (by decide) rfl rfl, (List.forall_mem_cons.mpr ⟨zq_RX5_239 X (zM_533 hw hm) (by decide) rfl rfl, (List.forall_mem_cons.mpr ⟨zq_RX5_239 X (zM_534 hw hm) (by decide) rfl rfl, (List.forall_mem_cons.mpr ⟨zq_RX5_239 X (zM_535 hw hm) (by decide) rfl rfl, (List.forall_mem_cons.mpr ⟨zq_RX5_239 X (zM_536 hw hm) (by decide) rfl rfl, (List.forall_mem_cons.mpr ⟨zq_RX5_239 X (zM_537 hw hm) (by decide) rfl rfl, (List.forall_mem_cons.mpr ⟨zq_RX5_239 X (zM_538 hw hm) (by decide) rfl rfl, (List.forall_mem_cons.mpr ⟨zq_RX5_239 X (zM_539 hw hm) (by decide) rfl rfl, (List.forall_mem_cons.mpr ⟨zq_RX5_250 X (zM_604 hw hm) (by decide) rfl rfl, (List.forall_mem_cons.mpr ⟨zq_RX5_355 X (zM_788 hw hm) (by decide) rfl rfl, nilz⟩)⟩)⟩)⟩)⟩)⟩)⟩)⟩)⟩)⟩)⟩)⟩)⟩)⟩)⟩)⟩)⟩)⟩)⟩)⟩)⟩)⟩)⟩)⟩)⟩)⟩)⟩)⟩)⟩)⟩)⟩)⟩)⟩)⟩)⟩)⟩)⟩)⟩)⟩)⟩)⟩)⟩)⟩)⟩)⟩)⟩)⟩)⟩)⟩)⟩)⟩)⟩)⟩)⟩)⟩)⟩)⟩)⟩)⟩)⟩)⟩)⟩)⟩)⟩)⟩)
