set_option maxRecDepth 100000 in
theorem zk_768_0 : zm1 zKS zuq zNS zm_768 4000 zt_768_0 = true := z1F (zdt_X5_refuseDeeds) (by decide +kernel)
set_option maxRecDepth 100000 in
theorem zk_768_1 : zm1 zKS zuq zNS zm_768 4000 zt_768_1 = true := z1F (zdt_X5_refuseDeeds) (by decide +kernel)
set_option maxRecDepth 100000 in
theorem zk_768_2 : zm1 zKS zuq zNS zm_768 4000 zt_768_2 = true := z1F (zdt_X5_refuseDeeds) (by decide +kernel)
set_option maxRecDepth 100000 in
theorem zk_768_3 : zm1 zKS zuq zNS zm_768 4000 zt_768_3 = true := z1F (zdt_X5_refuseDeeds) (by decide +kernel)
set_option maxRecDepth 100000 in
theorem zk_768_4 : zm1 zKS zuq zNS zm_768 4000 zt_768_4 = true := z1F (zdt_X5_refuseDeeds) (by decide +kernel)
set_option maxRecDepth 100000 in
theorem zk_768_5 : zm1 zKS zuq zNS zm_768 4000 zt_768_5 = true := z1F (zdt_X5_refuseDeeds) (by decide +kernel)
set_option maxRecDepth 100000 in
theorem zk_768_6 : zm1 zKS zuq zNS zm_768 4000 zt_768_6 = true := z1F (zdt_X5_refuseDeeds) (by decide +kernel)
set_option maxRecDepth 100000 in
theorem zk_768_7 : zm1 zKS zuq zNS zm_768 4000 zt_768_7 = true := z1F (zdt_X5_refuseDeeds) (by decide +kernel)
set_option maxRecDepth 100000 in
theorem zk_768_8 : zm1 zKS zuq zNS zm_768 4000 zt_768_8 = true := z1F (zdt_X5_refuseDeeds) (by decide +kernel)
set_option maxRecDepth 100000 in
theorem zk_768_9 : zm1 zKS zuq zNS zm_768 4000 zt_768_9 = true := z1F (zdt_X5_refuseDeeds) (by decide +kernel)
set_option maxRecDepth 100000 in
theorem zk_768_10 : zm1 zKS zuq zNS zm_768 4000 zt_768_10 = true := z1F (zdt_X5_refuseDeeds) (by decide +kernel)
set_option maxRecDepth 100000 in
theorem zk_768_11 : zm1 zKS zuq zNS zm_768 4000 zt_768_11 = true := z1F (zdt_X5_refuseDeeds) (by decide +kernel)
set_option maxRecDepth 100000 in
theorem zk_768_12 : zm1 zKS zuq zNS zm_768 4000 zt_768_12 = true := z1F (zdt_X5_refuseDeeds) (by decide +kernel)
set_option maxRecDepth 100000 in
theorem zk_768_13 : zm1 zKS zuq zNS zm_768 4000 zt_768_13 = true := z1F (zdt_X5_refuseDeeds) (by decide +kernel)
set_option maxRecDepth 100000 in
theorem zk_768_14 : zm1 zKS zuq zNS zm_768 4000 zt_768_14 = true := z1F (zdt_X5_refuseDeeds) (by decide +kernel)
set_option maxRecDepth 100000 in
theorem zk_768_15 : zm1 zKS zuq zNS zm_768 4000 zt_768_15 = true := z1F (zdt_X5_refuseDeeds) (by decide +kernel)
set_option maxRecDepth 100000 in
theorem zk_768_16 : zm1 zKS zuq zNS zm_768 4000 zt_768_16 = true := z1F (zdt_X5_refuseDeeds) (by decide +kernel)
set_option maxRecDepth 100000 in
theorem zk_768_17 : zm1 zKS zuq zNS zm_768 4000 zt_768_17 = true := z1F (zdt_X5_refuseDeeds) (by decide +kernel)
set_option maxRecDepth 100000 in
theorem zk_768_18 : zm1 zKS zuq zNS zm_768 4000 zt_768_18 = true := z1F (zdt_X5_refuseDeeds) (by decide +kernel)
set_option maxRecDepth 100000 in
theorem zk_768_19 : zm1 zKS zuq zNS zm_768 4000 zt_768_19 = true := z1F (zdt_X5_refuseDeeds) (by decide +kernel)
set_option maxRecDepth 100000 in
theorem zk_768_20 : zm1 zKS zuq zNS zm_768 4000 zt_768_20 = true := z1F (zdt_X5_refuseDeeds) (by decide +kernel)
set_option maxRecDepth 100000 in
theorem zk_768_21 : zm1 zKS zuq zNS zm_768 4000 zt_768_21 = true := z1F (zdt_X5_refuseDeeds) (by decide +kernel)
set_option maxRecDepth 100000 in
theorem zk_768_22 : zm1 zKS zuq zNS zm_768 4000 zt_768_22 = true := z1F (zdt_X5_refuseDeeds) (by decide +kernel)
set_option maxRecDepth 100000 in
theorem zk_768_23 : zm1 zKS zuq zNS zm_768 4000 zt_768_23 = true := z1F (zdt_X5_refuseDeeds) (by decide +kernel)
set_option maxRecDepth 100000 in
theorem zk_768_24 : zm1 zKS zuq zNS zm_768 4000 zt_768_24 = true := z1F (zdt_X5_refuseDeeds) (by decide +kernel)
set_option maxRecDepth 100000 in
theorem zk_768_25 : zm1 zKS zuq zNS zm_768 4000 zt_768_25 = true := z1F (zdt_X5_refuseDeeds) (by decide +kernel)
set_option maxRecDepth 100000 in
theorem zk_768_26 : zm1 zKS zuq zNS zm_768 4000 zt_768_26 = true := z1F (zdt_X5_refuseDeeds) (by decide +kernel)
set_option maxRecDepth 100000 in
theorem zk_768_27 : zm1 zKS zuq zNS zm_768 4000 zt_768_27 = true := z1F (zdt_X5_refuseDeeds) (by decide +kernel)
set_option maxRecDepth 100000 in
theorem zk_768_28 : zm1 zKS zuq zNS zm_768 4000 zt_768_28 = true := z1F (zdt_X5_refuseDeeds) (by decide +kernel)
set_option maxRecDepth 100000 in
theorem zk_768_29 : zm1 zKS zuq zNS zm_768 4000 zt_768_29 = true := z1F (zdt_X5_refuseDeeds) (by decide +kernel)
set_option maxRecDepth 100000 in
theorem zk_768_30 : zm1 zKS zuq zNS zm_768 4000 zt_768_30 = true := z1F (zdt_X5_refuseDeeds) (by decide +kernel)
set_option maxRecDepth 100000 in
theorem zk_768_s : zm0 zKS zuq zNS zm_768 4000 = true := z0F (zdt_X5_refuseDeeds) (by decide +kernel)
set_option maxRecDepth 100000 in
theorem zk_768 : zmeth zKS zuq zNS zm_768 4000 = true := zmeth_by zk_768_s (List.forall_mem_cons.mpr ⟨zk_768_0, (List.forall_mem_cons.mpr ⟨zk_768_1, (List.forall_mem_cons.mpr ⟨zk_768_2, (List.forall_mem_cons.mpr ⟨zk_768_3, (List.forall_mem_cons.mpr ⟨zk_768_4, (List.forall_mem_cons.mpr ⟨zk_768_5, (List.forall_mem_cons.mpr ⟨zk_768_6, (List.forall_mem_cons.mpr ⟨zk_768_7, (List.forall_mem_cons.mpr ⟨zk_768_8, (List.forall_mem_cons.mpr ⟨zk_768_9, (List.forall_mem_cons.mpr ⟨zk_768_10, (List.forall_mem_cons.mpr ⟨zk_768_11, (List.forall_mem_cons.mpr ⟨zk_768_12, (List.forall_mem_cons.mpr ⟨zk_768_13, (List.forall_mem_cons.mpr ⟨zk_768_14, (List.forall_mem_cons.mpr ⟨zk_768_15, (List.forall_mem_cons.mpr ⟨zk_768_16, (List.forall_mem_cons.mpr ⟨zk_768_17, (List.forall_mem_cons.mpr ⟨zk_768_18, (List.forall_mem_cons.mpr ⟨zk_768_19, (List.forall_mem_cons.mpr ⟨zk_768_20, (List.forall_mem_cons.mpr ⟨zk_768_21, (List.forall_mem_cons.mpr ⟨zk_768_22, (List.forall_mem_cons.mpr ⟨zk_768_23, (List.forall_mem_cons.mpr ⟨zk_768_24, (List.forall_mem_cons.mpr ⟨zk_768_25, (List.forall_mem_cons.mpr ⟨zk_768_26, (List.forall_mem_cons.mpr ⟨zk_768_27, (List.forall_mem_cons.mpr ⟨zk_768_28, (List.forall_mem_cons.mpr ⟨zk_768_29, (List.forall_mem_cons.mpr ⟨zk_768_30, nilz⟩)⟩)⟩)⟩)⟩)⟩)⟩)⟩)⟩)⟩)⟩)⟩)⟩)⟩)⟩)⟩)⟩)⟩)⟩)⟩)⟩)⟩)⟩)⟩)⟩)⟩)⟩)⟩)⟩)⟩)⟩)
set_option maxRecDepth 100000 in
theorem zM_768 {l : Launch} {D : va_G} {cI cZ cB cJ cR : ClassId} {ks ad : List Nat} {Psi : va_W → Prop} (hw : zworld ks ad zuq zNS Psi) (hm : zMan l D cI cZ cB cJ cR ks ad Psi) : zMet l D cI cZ cB cJ cR zKS ks ad Psi yX5_refuseDeeds (.code yX5_refuseDeeds cX5_refuseDeeds 4 (some .int)) 2 zc_768 :=
  zmet_of hw 2 (by decide) 4000 zk_768 (by decide) (by decide) (fun X => ⟨zg_RX5 X, zp_RX5 X, zl1_RX5 X, zl2_RX5 X, nilz, (List.forall_mem_cons.mpr ⟨zq_RX5_87 X (zM_301 hw hm) (by decide) rfl rfl, (List.forall_mem_cons.mpr ⟨zq_RX5_186 X (zM_304 hw hm) (by decide) rfl rfl, (List.forall_mem_cons.mpr ⟨zq_RX5_239 X (zM_416 hw hm) (by decide) rfl rfl, (List.forall_mem_cons.mpr ⟨zq_RX5_239 X (zM_417 hw hm) (by decide) rfl rfl, (List.forall_mem_cons.mpr ⟨zq_RX5_239 X (zM_418 hw hm) (by decide) rfl rfl, (List.forall_mem_cons.mpr ⟨zq_RX5_239 X (zM_419 hw hm) (by decide) rfl rfl, (List.forall_mem_cons.mpr ⟨zq_RX5_239 X (zM_420 hw hm) (by decide) rfl rfl, (List.forall_mem_cons.mpr ⟨zq_RX5_239 X (zM_421 hw hm) (by decide) rfl rfl, (List.forall_mem_cons.mpr ⟨zq_RX5_239 X (zM_422 hw hm) (by decide) rfl rfl, (List.forall_mem_cons.mpr ⟨zq_RX5_239 X (zM_423 hw hm) (by decide) rfl rfl, (List.forall_mem_cons.mpr ⟨zq_RX5_239 X (zM_424 hw hm) (by decide) rfl rfl, (List.forall_mem_cons.mpr ⟨zq_RX5_239 X (zM_425 hw hm) (by decide) rfl rfl, (List.forall_mem_cons.mpr ⟨zq_RX5_239 X (zM_426 hw hm) (by decide) rfl rfl, (List.forall_mem_cons.mpr ⟨zq_RX5_239 X (zM_427 hw hm) (by decide) rfl rfl, (List.forall_mem_cons.mpr ⟨zq_RX5_239 X (zM_428 hw hm) (by decide) rfl rfl, (List.forall_mem_cons.mpr ⟨zq_RX5_239 X (zM_429 hw hm) (by decide) rfl rfl, (List.forall_mem_cons.mpr ⟨zq_RX5_239 X (zM_430 hw hm) (by decide) rfl rfl, (List.forall_mem_cons.mpr ⟨zq_RX5_239 X (zM_431 hw hm) (by decide) rfl rfl, (List.forall_mem_cons.mpr ⟨zq_RX5_239 X (zM_432 hw hm) (by decide) rfl rfl, (List.forall_mem_cons.mpr ⟨zq_RX5_239 X (zM_433 hw hm) (by decide) rfl rfl, (List.forall_mem_cons.mpr ⟨zq_RX5_239 X (zM_434 hw hm) (by decide) rfl rfl, (List.forall_mem_cons.mpr ⟨zq_RX5_239 X (zM_435 hw hm) (by decide) rfl rfl, (List.forall_mem_cons.mpr ⟨zq_RX5_239 X (zM_436 hw hm) (by decide) rfl rfl, (List.forall_mem_cons.mpr ⟨zq_RX5_239 X (zM_437 hw hm) (by decide) rfl rfl, (List.forall_mem_cons.mpr ⟨zq_RX5_239 X (zM_438 hw hm) (by decide) rfl rfl, (List.forall_mem_cons.mpr ⟨zq_RX5_239 X (zM_439 hw hm) (by decide) rfl rfl, (List.forall_mem_cons.mpr ⟨zq_RX5_239 X (zM_440 hw hm) (by decide) rfl rfl, (List.forall_mem_cons.mpr ⟨zq_RX5_239 X (zM_441 hw hm) (by decide) rfl rfl, (List.forall_mem_cons.mpr ⟨zq_RX5_239 X (zM_442 hw hm) (by decide) rfl rfl, (List.forall_mem_cons.mpr ⟨zq_RX5_239 X (zM_443 hw hm) (by decide) rfl rfl, (List.forall_mem_cons.mpr ⟨zq_RX5_239 X (zM_444 hw hm) (by decide) rfl rfl, (List.forall_mem_cons.mpr ⟨zq_RX5_239 X (zM_445 hw hm) (by decide) rfl rfl, (List.forall_mem_cons.mpr ⟨zq_RX5_239 X (zM_446 hw hm) (by decide) rfl rfl, (List.forall_mem_cons.mpr ⟨zq_RX5_239 X (zM_447 hw hm) (by decide) rfl rfl, (List.forall_mem_cons.mpr ⟨zq_RX5_239 X (zM_448 hw hm) (by decide) rfl rfl, (List.forall_mem_cons.mpr ⟨zq_RX5_239 X (zM_449 hw hm) (by decide) rfl rfl, (List.forall_mem_cons.mpr ⟨zq_RX5_239 X (zM_450 hw hm) (by decide) rfl rfl, (List.forall_mem_cons.mpr ⟨zq_RX5_239 X (zM_451 hw hm) (by decide) rfl rfl, (List.forall_mem_cons.mpr ⟨zq_RX5_239 X (zM_452 hw hm) (by decide) rfl rfl, (List.forall_mem_cons.mpr ⟨zq_RX5_239 X (zM_453 hw hm) (by decide) rfl rfl, (List.forall_mem_cons.mpr ⟨zq_RX5_239 X (zM_454 hw hm) (by decide) rfl rfl, (List.forall_mem_cons.mpr ⟨zq_RX5_239 X (zM_455 hw hm) (by decide) rfl rfl, (List.forall_mem_cons.mpr ⟨zq_RX5_239 X (zM_456 hw hm) (by decide) rfl rfl, (List.forall_mem_cons.mpr ⟨zq_RX5_239 X (zM_457 hw hm) (by decide) rfl rfl, (List.forall_mem_cons.mpr ⟨zq_RX5_239 X (zM_458 hw hm) (by decide) rfl rfl, (List.forall_mem_cons.mpr ⟨zq_RX5_239 X (zM_459 hw hm) (by decide) rfl rfl, (List.forall_mem_cons.mpr ⟨zq_RX5_239 X (zM_460 hw hm) (by decide) rfl rfl, (List.forall_mem_cons.mpr ⟨zq_RX5_239 X (zM_461 hw hm) (by decide) rfl rfl, (List.forall_mem_cons.mpr ⟨zq_RX5_239 X (zM_462 hw hm) (by decide) rfl rfl, (List.forall_mem_cons.mpr ⟨zq_RX5_239 X (zM_463 hw hm) (by decide) rfl rfl, (List.forall_mem_cons.mpr ⟨zq_RX5_239 X (zM_464 hw hm) (by decide) rfl rfl, (List.forall_mem_cons.mpr ⟨zq_RX5_239 X (zM_465 hw hm) (by decide) rfl rfl, (List.forall_mem_cons.mpr ⟨zq_RX5_239 X (zM_466 hw hm) (by decide) rfl rfl, (List.forall_mem_cons.mpr ⟨zq_RX5_239 X (zM_467 hw hm) (by decide) rfl rfl, (List.forall_mem_cons.mpr ⟨zq_RX5_239 X (zM_468 hw hm) (by decide) rfl rfl, (List.forall_mem_cons.mpr ⟨zq_RX5_239 X (zM_469 hw hm) (by decide) rfl rfl, (List.forall_mem_cons.mpr ⟨zq_RX5_239 X (zM_470 hw hm) (by decide) rfl rfl, (List.forall_mem_cons.mpr ⟨zq_RX5_239 X (zM_471 hw hm) (by decide) rfl rfl, (List.forall_mem_cons.mpr ⟨zq_RX5_239 X (zM_472 hw hm) (by decide) rfl rfl, (List.forall_mem_cons.mpr ⟨zq_RX5_239 X (zM_473 hw hm) (by decide) rfl rfl, (List.forall_mem_cons.mpr ⟨zq_RX5_239 X (zM_474 hw hm) (by decide) rfl rfl, (List.forall_mem_cons.mpr ⟨zq_RX5_239 X (zM_475 hw hm) (by decide) rfl rfl, (List.forall_mem_cons.mpr ⟨zq_RX5_250 X (zM_599 hw hm) (by decide) rfl rfl, (List.forall_mem_cons.mpr ⟨zq_RX5_355 X (zM_782 hw hm) (by decide) rfl rfl, nilz⟩)⟩)⟩)⟩)⟩)⟩)⟩)⟩)⟩)⟩)⟩)⟩)⟩)⟩)⟩)⟩)⟩)⟩)⟩)⟩)⟩)⟩)⟩)⟩)⟩)⟩)⟩)⟩)⟩)⟩)⟩)⟩)⟩)⟩)⟩)⟩)⟩)⟩)⟩)⟩)⟩)⟩)⟩)⟩)⟩)⟩)⟩)⟩)⟩)⟩)⟩)⟩)⟩)⟩)⟩)⟩)⟩)⟩)⟩)⟩)⟩)⟩)⟩)⟩)⟩)
set_option maxRecDepth 100000 in
theorem zk_769_0 : zm1 zKS zuq zNS zm_769 4000 zt_769_0 = true := z1F (zdt_X5_refuseDeeds) (by decide +kernel)
set_option maxRecDepth 100000 in
theorem zk_769_1 : zm1 zKS zuq zNS zm_769 4000 zt_769_1 = true := z1F (zdt_X5_refuseDeeds) (by decide +kernel)
set_option maxRecDepth 100000 in
theorem zk_769_2 : zm1 zKS zuq zNS zm_769 4000 zt_769_2 = true := z1F (zdt_X5_refuseDeeds) (by decide +kernel)
set_option maxRecDepth 100000 in
theorem zk_769_3 : zm1 zKS zuq zNS zm_769 4000 zt_769_3 = true := z1F (zdt_X5_refuseDeeds) (by decide +kernel)
set_option maxRecDepth 100000 in
theorem zk_769_4 : zm1 zKS zuq zNS zm_769 4000 zt_769_4 = true := z1F (zdt_X5_refuseDeeds) (by decide +kernel)
set_option maxRecDepth 100000 in
theorem zk_769_5 : zm1 zKS zuq zNS zm_769 4000 zt_769_5 = true := z1F (zdt_X5_refuseDeeds) (by decide +kernel)
set_option maxRecDepth 100000 in
theorem zk_769_6 : zm1 zKS zuq zNS zm_769 4000 zt_769_6 = true := z1F (zdt_X5_refuseDeeds) (by decide +kernel)
set_option maxRecDepth 100000 in
theorem zk_769_7 : zm1 zKS zuq zNS zm_769 4000 zt_769_7 = true := z1F (zdt_X5_refuseDeeds) (by decide +kernel)
set_option maxRecDepth 100000 in
theorem zk_769_8 : zm1 zKS zuq zNS zm_769 4000 zt_769_8 = true := z1F (zdt_X5_refuseDeeds) (by decide +kernel)
set_option maxRecDepth 100000 in
theorem zk_769_9 : zm1 zKS zuq zNS zm_769 4000 zt_769_9 = true := z1F (zdt_X5_refuseDeeds) (by decide +kernel)
set_option maxRecDepth 100000 in
theorem zk_769_10 : zm1 zKS zuq zNS zm_769 4000 zt_769_10 = true := z1F (zdt_X5_refuseDeeds) (by decide +kernel)
set_option maxRecDepth 100000 in
theorem zk_769_11 : zm1 zKS zuq zNS zm_769 4000 zt_769_11 = true := z1F (zdt_X5_refuseDeeds) (by decide +kernel)
set_option maxRecDepth 100000 in
theorem zk_769_12 : zm1 zKS zuq zNS zm_769 4000 zt_769_12 = true := z1F (zdt_X5_refuseDeeds) (by decide +kernel)
set_option maxRecDepth 100000 in
theorem zk_769_13 : zm1 zKS zuq zNS zm_769 4000 zt_769_13 = true := z1F (zdt_X5_refuseDeeds) (by decide +kernel)
set_option maxRecDepth 100000 in
theorem zk_769_14 : zm1 zKS zuq zNS zm_769 4000 zt_769_14 = true := z1F (zdt_X5_refuseDeeds) (by decide +kernel)
set_option maxRecDepth 100000 in
theorem zk_769_15 : zm1 zKS zuq zNS zm_769 4000 zt_769_15 = true := z1F (zdt_X5_refuseDeeds) (by decide +kernel)
set_option maxRecDepth 100000 in
theorem zk_769_16 : zm1 zKS zuq zNS zm_769 4000 zt_769_16 = true := z1F (zdt_X5_refuseDeeds) (by decide +kernel)
set_option maxRecDepth 100000 in
theorem zk_769_17 : zm1 zKS zuq zNS zm_769 4000 zt_769_17 = true := z1F (zdt_X5_refuseDeeds) (by decide +kernel)
set_option maxRecDepth 100000 in
theorem zk_769_18 : zm1 zKS zuq zNS zm_769 4000 zt_769_18 = true := z1F (zdt_X5_refuseDeeds) (by decide +kernel)
set_option maxRecDepth 100000 in
theorem zk_769_19 : zm1 zKS zuq zNS zm_769 4000 zt_769_19 = true := z1F (zdt_X5_refuseDeeds) (by decide +kernel)
set_option maxRecDepth 100000 in
theorem zk_769_20 : zm1 zKS zuq zNS zm_769 4000 zt_769_20 = true := z1F (zdt_X5_refuseDeeds) (by decide +kernel)
set_option maxRecDepth 100000 in
theorem zk_769_21 : zm1 zKS zuq zNS zm_769 4000 zt_769_21 = true := z1F (zdt_X5_refuseDeeds) (by decide +kernel)
set_option maxRecDepth 100000 in
theorem zk_769_22 : zm1 zKS zuq zNS zm_769 4000 zt_769_22 = true := z1F (zdt_X5_refuseDeeds) (by decide +kernel)
set_option maxRecDepth 100000 in
theorem zk_769_23 : zm1 zKS zuq zNS zm_769 4000 zt_769_23 = true := z1F (zdt_X5_refuseDeeds) (by decide +kernel)
set_option maxRecDepth 100000 in
theorem zk_769_24 : zm1 zKS zuq zNS zm_769 4000 zt_769_24 = true := z1F (zdt_X5_refuseDeeds) (by decide +kernel)
set_option maxRecDepth 100000 in
theorem zk_769_25 : zm1 zKS zuq zNS zm_769 4000 zt_769_25 = true := z1F (zdt_X5_refuseDeeds) (by decide +kernel)
set_option maxRecDepth 100000 in
theorem zk_769_26 : zm1 zKS zuq zNS zm_769 4000 zt_769_26 = true := z1F (zdt_X5_refuseDeeds) (by decide +kernel)
set_option maxRecDepth 100000 in
theorem zk_769_27 : zm1 zKS zuq zNS zm_769 4000 zt_769_27 = true := z1F (zdt_X5_refuseDeeds) (by decide +kernel)
set_option maxRecDepth 100000 in
theorem zk_769_28 : zm1 zKS zuq zNS zm_769 4000 zt_769_28 = true := z1F (zdt_X5_refuseDeeds) (by decide +kernel)
set_option maxRecDepth 100000 in
theorem zk_769_29 : zm1 zKS zuq zNS zm_769 4000 zt_769_29 = true := z1F (zdt_X5_refuseDeeds) (by decide +kernel)
set_option maxRecDepth 100000 in
theorem zk_769_30 : zm1 zKS zuq zNS zm_769 4000 zt_769_30 = true := z1F (zdt_X5_refuseDeeds) (by decide +kernel)
set_option maxRecDepth 100000 in
theorem zk_769_s : zm0 zKS zuq zNS zm_769 4000 = true := z0F (zdt_X5_refuseDeeds) (by decide +kernel)
set_option maxRecDepth 100000 in
theorem zk_769 : zmeth zKS zuq zNS zm_769 4000 = true := zmeth_by zk_769_s (List.forall_mem_cons.mpr ⟨zk_769_0, (List.forall_mem_cons.mpr ⟨zk_769_1, (List.forall_mem_cons.mpr ⟨zk_769_2, (List.forall_mem_cons.mpr ⟨zk_769_3, (List.forall_mem_cons.mpr ⟨zk_769_4, (List.forall_mem_cons.mpr ⟨zk_769_5, (List.forall_mem_cons.mpr ⟨zk_769_6, (List.forall_mem_cons.mpr ⟨zk_769_7, (List.forall_mem_cons.mpr ⟨zk_769_8, (List.forall_mem_cons.mpr ⟨zk_769_9, (List.forall_mem_cons.mpr ⟨zk_769_10, (List.forall_mem_cons.mpr ⟨zk_769_11, (List.forall_mem_cons.mpr ⟨zk_769_12, (List.forall_mem_cons.mpr ⟨zk_769_13, (List.forall_mem_cons.mpr ⟨zk_769_14, (List.forall_mem_cons.mpr ⟨zk_769_15, (List.forall_mem_cons.mpr ⟨zk_769_16, (List.forall_mem_cons.mpr ⟨zk_769_17, (List.forall_mem_cons.mpr ⟨zk_769_18, (List.forall_mem_cons.mpr ⟨zk_769_19, (List.forall_mem_cons.mpr ⟨zk_769_20, (List.forall_mem_cons.mpr ⟨zk_769_21, (List.forall_mem_cons.mpr ⟨zk_769_22, (List.forall_mem_cons.mpr ⟨zk_769_23, (List.forall_mem_cons.mpr ⟨zk_769_24, (List.forall_mem_cons.mpr ⟨zk_769_25, (List.forall_mem_cons.mpr ⟨zk_769_26, (List.forall_mem_cons.mpr ⟨zk_769_27, (List.forall_mem_cons.mpr ⟨zk_769_28, (List.forall_mem_cons.mpr ⟨zk_769_29, (List.forall_mem_cons.mpr ⟨zk_769_30, nilz⟩)⟩)⟩)⟩)⟩)⟩)⟩)⟩)⟩)⟩)⟩)⟩)⟩)⟩)⟩)⟩)⟩)⟩)⟩)⟩)⟩)⟩)⟩)⟩)⟩)⟩)⟩)⟩)⟩)⟩)⟩)
set_option maxRecDepth 100000 in
theorem zM_769 {l : Launch} {D : va_G} {cI cZ cB cJ cR : ClassId} {ks ad : List Nat} {Psi : va_W → Prop} (hw : zworld ks ad zuq zNS Psi) (hm : zMan l D cI cZ cB cJ cR ks ad Psi) : zMet l D cI cZ cB cJ cR zKS ks ad Psi yX5_refuseDeeds (.code yX5_refuseDeeds cX5_refuseDeeds 4 (some .int)) 2 zc_769 :=
  zmet_of hw 2 (by decide) 4000 zk_769 (by decide) (by decide) (fun X => ⟨zg_RX5 X, zp_RX5 X, zl1_RX5 X, zl2_RX5 X, nilz, (List.forall_mem_cons.mpr ⟨zq_RX5_87 X (zM_301 hw hm) (by decide) rfl rfl, (List.forall_mem_cons.mpr ⟨zq_RX5_186 X (zM_304 hw hm) (by decide) rfl rfl, (List.forall_mem_cons.mpr ⟨zq_RX5_239 X (zM_476 hw hm) (by decide) rfl rfl, (List.forall_mem_cons.mpr ⟨zq_RX5_239 X (zM_477 hw hm) (by decide) rfl rfl, (List.forall_mem_cons.mpr ⟨zq_RX5_239 X (zM_478 hw hm) (by decide) rfl rfl, (List.forall_mem_cons.mpr ⟨zq_RX5_239 X (zM_479 hw hm) (by decide) rfl rfl, (List.forall_mem_cons.mpr ⟨zq_RX5_239 X (zM_480 hw hm) (by decide) rfl rfl, (List.forall_mem_cons.mpr ⟨zq_RX5_239 X (zM_481 hw hm) (by decide) rfl rfl, (List.forall_mem_cons.mpr ⟨zq_RX5_239 X (zM_482 hw hm) (by decide) rfl rfl, (List.forall_mem_cons.mpr ⟨zq_RX5_239 X (zM_483 hw hm) (by decide) rfl rfl, (List.forall_mem_cons.mpr ⟨zq_RX5_239 X (zM_484 hw hm) (by decide) rfl rfl, (List.forall_mem_cons.mpr ⟨zq_RX5_239 X (zM_485 hw hm) (by decide) rfl rfl, (List.forall_mem_cons.mpr ⟨zq_RX5_239 X (zM_486 hw hm) (by decide) rfl rfl, (List.forall_mem_cons.mpr ⟨zq_RX5_239 X (zM_487 hw hm) (by decide) rfl rfl, (List.forall_mem_cons.mpr ⟨zq_RX5_239 X (zM_488 hw hm) (by decide) rfl rfl, (List.forall_mem_cons.mpr ⟨zq_RX5_239 X (zM_489 hw hm) (by decide) rfl rfl, (List.forall_mem_cons.mpr ⟨zq_RX5_239 X (zM_490 hw hm) (by decide) rfl rfl, (List.forall_mem_cons.mpr ⟨zq_RX5_239 X (zM_491 hw hm) (by decide) rfl rfl, (List.forall_mem_cons.mpr ⟨zq_RX5_239 X (zM_492 hw hm) (by decide) rfl rfl, (List.forall_mem_cons.mpr ⟨zq_RX5_239 X (zM_493 hw hm) (by decide) rfl rfl, (List.forall_mem_cons.mpr ⟨zq_RX5_239 X (zM_494 hw hm) (by decide) rfl rfl, (List.forall_mem_cons.mpr ⟨zq_RX5_239 X (zM_495 hw hm) (by decide) rfl rfl, (List.forall_mem_cons.mpr ⟨zq_RX5_239 X (zM_496 hw hm) (by decide) rfl rfl, (List.forall_mem_cons.mpr ⟨zq_RX5_239 X (zM_497 hw hm) (by decide) rfl rfl, (List.forall_mem_cons.mpr ⟨zq_RX5_239 X (zM_498 hw hm) (by decide) rfl rfl, (List.forall_mem_cons.mpr ⟨zq_RX5_239 X (zM_499 hw hm) (by decide) rfl rfl, (List.forall_mem_cons.mpr ⟨zq_RX5_239 X (zM_500 hw hm) (by decide) rfl rfl, (List.forall_mem_cons.mpr ⟨zq_RX5_239 X (zM_501 hw hm) (by decide) rfl rfl, (List.forall_mem_cons.mpr ⟨zq_RX5_239 X (zM_502 hw hm) (by decide) rfl rfl, (List.forall_mem_cons.mpr ⟨zq_RX5_239 X (zM_503 hw hm) (by decide) rfl rfl, (List.forall_mem_cons.mpr ⟨zq_RX5_239 X (zM_504 hw hm) (by decide) rfl rfl, (List.forall_mem_cons.mpr ⟨zq_RX5_239 X (zM_505 hw hm) (by decide) rfl rfl, (List.forall_mem_cons.mpr ⟨zq_RX5_239 X (zM_506 hw hm) (by decide) rfl rfl, (List.forall_mem_cons.mpr ⟨zq_RX5_239 X (zM_507 hw hm) (by decide) rfl rfl, (List.forall_mem_cons.mpr ⟨zq_RX5_239 X (zM_508 hw hm) (by decide) rfl rfl, (List.forall_mem_cons.mpr ⟨zq_RX5_239 X (zM_509 hw hm) (by decide) rfl rfl, (List.forall_mem_cons.mpr ⟨zq_RX5_239 X (zM_510 hw hm) (by decide) rfl rfl, (List.forall_mem_cons.mpr ⟨zq_RX5_239 X (zM_511 hw hm) (by decide) rfl rfl, (List.forall_mem_cons.mpr ⟨zq_RX5_239 X (zM_512 hw hm) (by decide) rfl rfl, (List.forall_mem_cons.mpr ⟨zq_RX5_239 X (zM_513 hw hm) (by decide) rfl rfl, (List.forall_mem_cons.mpr ⟨zq_RX5_239 X (zM_514 hw hm) (by decide) rfl rfl, (List.forall_mem_cons.mpr ⟨zq_RX5_239 X (zM_515 hw hm) (by decide) rfl rfl, (List.forall_mem_cons.mpr ⟨zq_RX5_239 X (zM_516 hw hm) (by decide) rfl rfl, (List.forall_mem_cons.mpr ⟨zq_RX5_239 X (zM_517 hw hm) (by decide) rfl rfl, (List.forall_mem_cons.mpr ⟨zq_RX5_239 X (zM_518 hw hm) (by decide) rfl rfl, (List.forall_mem_cons.mpr ⟨zq_RX5_239 X (zM_519 hw hm) (by decide) rfl rfl, (List.forall_mem_cons.mpr ⟨zq_RX5_239 X (zM_520 hw hm) (by decide) rfl rfl, (List.forall_mem_cons.mpr ⟨zq_RX5_239 X (zM_521 hw hm) (by decide) rfl rfl, (List.forall_mem_cons.mpr ⟨zq_RX5_239 X (zM_522 hw hm) (by decide) rfl rfl, (List.forall_mem_cons.mpr ⟨zq_RX5_239 X (zM_523 hw hm) (by decide) rfl rfl, (List.forall_mem_cons.mpr ⟨zq_RX5_239 X (zM_524 hw hm) (by decide) rfl rfl, (List.forall_mem_cons.mpr ⟨zq_RX5_239 X (zM_525 hw hm) (by decide) rfl rfl, (List.forall_mem_cons.mpr ⟨zq_RX5_239 X (zM_526 hw hm) (by decide) rfl rfl, (List.forall_mem_cons.mpr ⟨zq_RX5_239 X (zM_527 hw hm) (by decide) rfl rfl, (List.forall_mem_cons.mpr ⟨zq_RX5_239 X (zM_528 hw hm) (by decide) rfl rfl, (List.forall_mem_cons.mpr ⟨zq_RX5_239 X (zM_529 hw hm) (by decide) rfl rfl, (List.forall_mem_cons.mpr ⟨zq_RX5_239 X (zM_530 hw hm) (by decide) rfl rfl, (List.forall_mem_cons.mpr ⟨zq_RX5_239 X (zM_531 hw hm) (by decide) rfl rfl, (List.forall_mem_cons.mpr ⟨zq_RX5_239 X (zM_532 hw hm) (by decide) rfl rfl, (List.forall_mem_cons.mpr ⟨zq_RX5_239 X (zM_533 hw hm) (by decide) rfl rfl, (List.forall_mem_cons.mpr ⟨zq_RX5_239 X (zM_534 hw hm) (by decide) rfl rfl, (List.forall_mem_cons.mpr ⟨zq_RX5_239 X (zM_535 hw hm) (by decide) rfl rfl, (List.forall_mem_cons.mpr ⟨zq_RX5_250 X (zM_600 hw hm) (by decide) rfl rfl, (List.forall_mem_cons.mpr ⟨zq_RX5_355 X (zM_784 hw hm) (by decide) rfl rfl, nilz⟩)⟩)⟩)⟩)⟩)⟩)⟩)⟩)⟩)⟩)⟩)⟩)⟩)⟩)⟩)⟩)⟩)⟩)⟩)⟩)⟩)⟩)⟩)⟩)⟩)⟩)⟩)⟩)⟩)⟩)⟩)⟩)⟩)⟩)⟩)⟩)⟩)⟩)⟩)⟩)⟩)⟩)⟩)⟩)⟩)⟩)⟩)⟩)⟩)⟩)⟩)⟩)⟩)⟩)⟩)⟩)⟩)⟩)⟩)⟩)⟩)⟩)⟩)⟩)⟩)
