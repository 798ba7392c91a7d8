set_option maxRecDepth 100000 in
theorem zk_766 : zmeth zKS zuq zNS zm_766 4000 = true := zqF (zdt_X5_refuseDeeds) (by decide +kernel)
theorem zM_766 {l : Launch} {D : va_G} {cI cZ cB cJ cR : ClassId} {ks ad : List Nat} {Psi : va_W → Prop} (hw : zworld ks ad zuq zNS Psi) (hm : zMan l D cI cZ cB cJ cR ks ad Psi) : zMet l D cI cZ cB cJ cR zKS ks ad Psi yX5_refuseDeeds (.code yX5_refuseDeeds cX5_refuseDeeds 4 (some .int)) 2 zc_766 :=
  zmet_of hw 2 (by decide) 4000 zk_766 (by decide) (by decide) (fun X => ⟨zg_RX5 X, zp_RX5 X, zl1_RX5 X, zl2_RX5 X, nilz, (List.forall_mem_cons.mpr ⟨zq_RX5_355 X (zM_778 hw hm) (by decide) rfl rfl, nilz⟩)⟩)
set_option maxRecDepth 100000 in
theorem zk_767_0 : zm1 zKS zuq zNS zm_767 4000 zt_767_0 = true := z1F (zdt_X5_refuseDeeds) (by decide +kernel)
set_option maxRecDepth 100000 in
theorem zk_767_1 : zm1 zKS zuq zNS zm_767 4000 zt_767_1 = true := z1F (zdt_X5_refuseDeeds) (by decide +kernel)
set_option maxRecDepth 100000 in
theorem zk_767_2 : zm1 zKS zuq zNS zm_767 4000 zt_767_2 = true := z1F (zdt_X5_refuseDeeds) (by decide +kernel)
set_option maxRecDepth 100000 in
theorem zk_767_3 : zm1 zKS zuq zNS zm_767 4000 zt_767_3 = true := z1F (zdt_X5_refuseDeeds) (by decide +kernel)
set_option maxRecDepth 100000 in
theorem zk_767_4 : zm1 zKS zuq zNS zm_767 4000 zt_767_4 = true := z1F (zdt_X5_refuseDeeds) (by decide +kernel)
set_option maxRecDepth 100000 in
theorem zk_767_5 : zm1 zKS zuq zNS zm_767 4000 zt_767_5 = true := z1F (zdt_X5_refuseDeeds) (by decide +kernel)
set_option maxRecDepth 100000 in
theorem zk_767_6 : zm1 zKS zuq zNS zm_767 4000 zt_767_6 = true := z1F (zdt_X5_refuseDeeds) (by decide +kernel)
set_option maxRecDepth 100000 in
theorem zk_767_7 : zm1 zKS zuq zNS zm_767 4000 zt_767_7 = true := z1F (zdt_X5_refuseDeeds) (by decide +kernel)
set_option maxRecDepth 100000 in
theorem zk_767_8 : zm1 zKS zuq zNS zm_767 4000 zt_767_8 = true := z1F (zdt_X5_refuseDeeds) (by decide +kernel)
set_option maxRecDepth 100000 in
theorem zk_767_9 : zm1 zKS zuq zNS zm_767 4000 zt_767_9 = true := z1F (zdt_X5_refuseDeeds) (by decide +kernel)
set_option maxRecDepth 100000 in
theorem zk_767_10 : zm1 zKS zuq zNS zm_767 4000 zt_767_10 = true := z1F (zdt_X5_refuseDeeds) (by decide +kernel)
set_option maxRecDepth 100000 in
theorem zk_767_11 : zm1 zKS zuq zNS zm_767 4000 zt_767_11 = true := z1F (zdt_X5_refuseDeeds) (by decide +kernel)
set_option maxRecDepth 100000 in
theorem zk_767_12 : zm1 zKS zuq zNS zm_767 4000 zt_767_12 = true := z1F (zdt_X5_refuseDeeds) (by decide +kernel)
set_option maxRecDepth 100000 in
theorem zk_767_13 : zm1 zKS zuq zNS zm_767 4000 zt_767_13 = true := z1F (zdt_X5_refuseDeeds) (by decide +kernel)
set_option maxRecDepth 100000 in
theorem zk_767_14 : zm1 zKS zuq zNS zm_767 4000 zt_767_14 = true := z1F (zdt_X5_refuseDeeds) (by decide +kernel)
set_option maxRecDepth 100000 in
theorem zk_767_15 : zm1 zKS zuq zNS zm_767 4000 zt_767_15 = true := z1F (zdt_X5_refuseDeeds) (by decide +kernel)
set_option maxRecDepth 100000 in
theorem zk_767_16 : zm1 zKS zuq zNS zm_767 4000 zt_767_16 = true := z1F (zdt_X5_refuseDeeds) (by decide +kernel)
set_option maxRecDepth 100000 in
theorem zk_767_17 : zm1 zKS zuq zNS zm_767 4000 zt_767_17 = true := z1F (zdt_X5_refuseDeeds) (by decide +kernel)
set_option maxRecDepth 100000 in
theorem zk_767_18 : zm1 zKS zuq zNS zm_767 4000 zt_767_18 = true := z1F (zdt_X5_refuseDeeds) (by decide +kernel)
set_option maxRecDepth 100000 in
theorem zk_767_19 : zm1 zKS zuq zNS zm_767 4000 zt_767_19 = true := z1F (zdt_X5_refuseDeeds) (by decide +kernel)
set_option maxRecDepth 100000 in
theorem zk_767_20 : zm1 zKS zuq zNS zm_767 4000 zt_767_20 = true := z1F (zdt_X5_refuseDeeds) (by decide +kernel)
set_option maxRecDepth 100000 in
theorem zk_767_21 : zm1 zKS zuq zNS zm_767 4000 zt_767_21 = true := z1F (zdt_X5_refuseDeeds) (by decide +kernel)
set_option maxRecDepth 100000 in
theorem zk_767_22 : zm1 zKS zuq zNS zm_767 4000 zt_767_22 = true := z1F (zdt_X5_refuseDeeds) (by decide +kernel)
set_option maxRecDepth 100000 in
theorem zk_767_23 : zm1 zKS zuq zNS zm_767 4000 zt_767_23 = true := z1F (zdt_X5_refuseDeeds) (by decide +kernel)
set_option maxRecDepth 100000 in
theorem zk_767_24 : zm1 zKS zuq zNS zm_767 4000 zt_767_24 = true := z1F (zdt_X5_refuseDeeds) (by decide +kernel)
set_option maxRecDepth 100000 in
theorem zk_767_25 : zm1 zKS zuq zNS zm_767 4000 zt_767_25 = true := z1F (zdt_X5_refuseDeeds) (by decide +kernel)
set_option maxRecDepth 100000 in
theorem zk_767_26 : zm1 zKS zuq zNS zm_767 4000 zt_767_26 = true := z1F (zdt_X5_refuseDeeds) (by decide +kernel)
set_option maxRecDepth 100000 in
theorem zk_767_27 : zm1 zKS zuq zNS zm_767 4000 zt_767_27 = true := z1F (zdt_X5_refuseDeeds) (by decide +kernel)
set_option maxRecDepth 100000 in
theorem zk_767_28 : zm1 zKS zuq zNS zm_767 4000 zt_767_28 = true := z1F (zdt_X5_refuseDeeds) (by decide +kernel)
set_option maxRecDepth 100000 in
theorem zk_767_29 : zm1 zKS zuq zNS zm_767 4000 zt_767_29 = true := z1F (zdt_X5_refuseDeeds) (by decide +kernel)
set_option maxRecDepth 100000 in
theorem zk_767_30 : zm1 zKS zuq zNS zm_767 4000 zt_767_30 = true := z1F (zdt_X5_refuseDeeds) (by decide +kernel)
set_option maxRecDepth 100000 in
theorem zk_767_s : zm0 zKS zuq zNS zm_767 4000 = true := z0F (zdt_X5_refuseDeeds) (by decide +kernel)
set_option maxRecDepth 100000 in
theorem zk_767 : zmeth zKS zuq zNS zm_767 4000 = true := zmeth_by zk_767_s (List.forall_mem_cons.mpr ⟨zk_767_0, (List.forall_mem_cons.mpr ⟨zk_767_1, (List.forall_mem_cons.mpr ⟨zk_767_2, (List.forall_mem_cons.mpr ⟨zk_767_3, (List.forall_mem_cons.mpr ⟨zk_767_4, (List.forall_mem_cons.mpr ⟨zk_767_5, (List.forall_mem_cons.mpr ⟨zk_767_6, (List.forall_mem_cons.mpr ⟨zk_767_7, (List.forall_mem_cons.mpr ⟨zk_767_8, (List.forall_mem_cons.mpr ⟨zk_767_9, (List.forall_mem_cons.mpr ⟨zk_767_10, (List.forall_mem_cons.mpr ⟨zk_767_11, (List.forall_mem_cons.mpr ⟨zk_767_12, (List.forall_mem_cons.mpr ⟨zk_767_13, (List.forall_mem_cons.mpr ⟨zk_767_14, (List.forall_mem_cons.mpr ⟨zk_767_15, (List.forall_mem_cons.mpr ⟨zk_767_16, (List.forall_mem_cons.mpr ⟨zk_767_17, (List.forall_mem_cons.mpr ⟨zk_767_18, (List.forall_mem_cons.mpr ⟨zk_767_19, (List.forall_mem_cons.mpr ⟨zk_767_20, (List.forall_mem_cons.mpr ⟨zk_767_21, (List.forall_mem_cons.mpr ⟨zk_767_22, (List.forall_mem_cons.mpr ⟨zk_767_23, (List.forall_mem_cons.mpr ⟨zk_767_24, (List.forall_mem_cons.mpr ⟨zk_767_25, (List.forall_mem_cons.mpr ⟨zk_767_26, (List.forall_mem_cons.mpr ⟨zk_767_27, (List.forall_mem_cons.mpr ⟨zk_767_28, (List.forall_mem_cons.mpr ⟨zk_767_29, (List.forall_mem_cons.mpr ⟨zk_767_30, nilz⟩)⟩)⟩)⟩)⟩)⟩)⟩)⟩)⟩)⟩)⟩)⟩)⟩)⟩)⟩)⟩)⟩)⟩)⟩)⟩)⟩)⟩)⟩)⟩)⟩)⟩)⟩)⟩)⟩)⟩)⟩)
set_option maxRecDepth 100000 in
theorem zM_767 {l : Launch} {D : va_G} {cI cZ cB cJ cR : ClassId} {ks ad : List Nat} {Psi : va_W → Prop} (hw : zworld ks ad zuq zNS Psi) (hm : zMan l D cI cZ cB cJ cR ks ad Psi) : zMet l D cI cZ cB cJ cR zKS ks ad Psi yX5_refuseDeeds (.code yX5_refuseDeeds cX5_refuseDeeds 4 (some .int)) 2 zc_767 :=
  zmet_of hw 2 (by decide) 4000 zk_767 (by decide) (by decide) (fun X => ⟨zg_RX5 X, zp_RX5 X, zl1_RX5 X, zl2_RX5 X, nilz, (List.forall_mem_cons.mpr ⟨zq_RX5_87 X (zM_301 hw hm) (by decide) rfl rfl, (List.forall_mem_cons.mpr ⟨zq_RX5_186 X (zM_304 hw hm) (by decide) rfl rfl, (List.forall_mem_cons.mpr ⟨zq_RX5_239 X (zM_356 hw hm) (by decide) rfl rfl, (List.forall_mem_cons.mpr ⟨zq_RX5_239 X (zM_357 hw hm) (by decide) rfl rfl, (List.forall_mem_cons.mpr ⟨zq_RX5_239 X (zM_358 hw hm) (by decide) rfl rfl, (List.forall_mem_cons.mpr ⟨zq_RX5_239 X (zM_359 hw hm) (by decide) rfl rfl, (List.forall_mem_cons.mpr ⟨zq_RX5_239 X (zM_360 hw hm) (by decide) rfl rfl, (List.forall_mem_cons.mpr ⟨zq_RX5_239 X (zM_361 hw hm) (by decide) rfl rfl, (List.forall_mem_cons.mpr ⟨zq_RX5_239 X (zM_362 hw hm) (by decide) rfl rfl, (List.forall_mem_cons.mpr ⟨zq_RX5_239 X (zM_363 hw hm) (by decide) rfl rfl, (List.forall_mem_cons.mpr ⟨zq_RX5_239 X (zM_364 hw hm) (by decide) rfl rfl, (List.forall_mem_cons.mpr ⟨zq_RX5_239 X (zM_365 hw hm) (by decide) rfl rfl, (List.forall_mem_cons.mpr ⟨zq_RX5_239 X (zM_366 hw hm) (by decide) rfl rfl, (List.forall_mem_cons.mpr ⟨zq_RX5_239 X (zM_367 hw hm) (by decide) rfl rfl, (List.forall_mem_cons.mpr ⟨zq_RX5_239 X (zM_368 hw hm) (by decide) rfl rfl, (List.forall_mem_cons.mpr ⟨zq_RX5_239 X (zM_369 hw hm) (by decide) rfl rfl, (List.forall_mem_cons.mpr ⟨zq_RX5_239 X (zM_370 hw hm) (by decide) rfl rfl, (List.forall_mem_cons.mpr ⟨zq_RX5_239 X (zM_371 hw hm) (by decide) rfl rfl, (List.forall_mem_cons.mpr ⟨zq_RX5_239 X (zM_372 hw hm) (by decide) rfl rfl, (List.forall_mem_cons.mpr ⟨zq_RX5_239 X (zM_373 hw hm) (by decide) rfl rfl, (List.forall_mem_cons.mpr ⟨zq_RX5_239 X (zM_374 hw hm) (by decide) rfl rfl, (List.forall_mem_cons.mpr ⟨zq_RX5_239 X (zM_375 hw hm) (by decide) rfl rfl, (List.forall_mem_cons.mpr ⟨zq_RX5_239 X (zM_376 hw hm) (by decide) rfl rfl, (List.forall_mem_cons.mpr ⟨zq_RX5_239 X (zM_377 hw hm) (by decide) rfl rfl, (List.forall_mem_cons.mpr ⟨zq_RX5_239 X (zM_378 hw hm) (by decide) rfl rfl, (List.forall_mem_cons.mpr ⟨zq_RX5_239 X (zM_379 hw hm) (by decide) rfl rfl, (List.forall_mem_cons.mpr ⟨zq_RX5_239 X (zM_380 hw hm) (by decide) rfl rfl, (List.forall_mem_cons.mpr ⟨zq_RX5_239 X (zM_381 hw hm) (by decide) rfl rfl, (List.forall_mem_cons.mpr ⟨zq_RX5_239 X (zM_382 hw hm) (by decide) rfl rfl, (List.forall_mem_cons.mpr ⟨zq_RX5_239 X (zM_383 hw hm) (by decide) rfl rfl, (List.forall_mem_cons.mpr ⟨zq_RX5_239 X (zM_384 hw hm) (by decide) rfl rfl, (List.forall_mem_cons.mpr ⟨zq_RX5_239 X (zM_385 hw hm) (by decide) rfl rfl, (List.forall_mem_cons.mpr ⟨zq_RX5_239 X (zM_386 hw hm) (by decide) rfl rfl, (List.forall_mem_cons.mpr ⟨zq_RX5_239 X (zM_387 hw hm) (by decide) rfl rfl, (List.forall_mem_cons.mpr ⟨zq_RX5_239 X (zM_388 hw hm) (by decide) rfl rfl, (List.forall_mem_cons.mpr ⟨zq_RX5_239 X (zM_389 hw hm) (by decide) rfl rfl, (List.forall_mem_cons.mpr ⟨zq_RX5_239 X (zM_390 hw hm) (by decide) rfl rfl, (List.forall_mem_cons.mpr ⟨zq_RX5_239 X (zM_391 hw hm) (by decide) rfl rfl, (List.forall_mem_cons.mpr ⟨zq_RX5_239 X (zM_392 hw hm) (by decide) rfl rfl, (List.forall_mem_cons.mpr ⟨zq_RX5_239 X (zM_393 hw hm) (by decide) rfl rfl, (List.forall_mem_cons.mpr ⟨zq_RX5_239 X (zM_394 hw hm) (by decide) rfl rfl, (List.forall_mem_cons.mpr ⟨zq_RX5_239 X (zM_395 hw hm) (by decide) rfl rfl, (List.forall_mem_cons.mpr ⟨zq_RX5_239 X (zM_396 hw hm) (by decide) rfl rfl, (List.forall_mem_cons.mpr ⟨zq_RX5_239 X (zM_397 hw hm) (by decide) rfl rfl, (List.forall_mem_cons.mpr ⟨zq_RX5_239 X (zM_398 hw hm) (by decide) rfl rfl, (List.forall_mem_cons.mpr ⟨zq_RX5_239 X (zM_399 hw hm) (by decide) rfl rfl, (List.forall_mem_cons.mpr ⟨zq_RX5_239 X (zM_400 hw hm) (by decide) rfl rfl, (List.forall_mem_cons.mpr ⟨zq_RX5_239 X (zM_401 hw hm) (by decide) rfl rfl, (List.forall_mem_cons.mpr ⟨zq_RX5_239 X (zM_402 hw hm) (by decide) rfl rfl, (List.forall_mem_cons.mpr ⟨zq_RX5_239 X (zM_403 hw hm) (by decide) rfl rfl, (List.forall_mem_cons.mpr ⟨zq_RX5_239 X (zM_404 hw hm) (by decide) rfl rfl, (List.forall_mem_cons.mpr ⟨zq_RX5_239 X (zM_405 hw hm) (by decide) rfl rfl, (List.forall_mem_cons.mpr ⟨zq_RX5_239 X (zM_406 hw hm) (by decide) rfl rfl, (List.forall_mem_cons.mpr ⟨zq_RX5_239 X (zM_407 hw hm) (by decide) rfl rfl, (List.forall_mem_cons.mpr ⟨zq_RX5_239 X (zM_408 hw hm) (by decide) rfl rfl, (List.forall_mem_cons.mpr ⟨zq_RX5_239 X (zM_409 hw hm) (by decide) rfl rfl, (List.forall_mem_cons.mpr ⟨zq_RX5_239 X (zM_410 hw hm) (by decide) rfl rfl, (List.forall_mem_cons.mpr ⟨zq_RX5_239 X (zM_411 hw hm) (by decide) rfl rfl, (List.forall_mem_cons.mpr ⟨zq_RX5_239 X (zM_412 hw hm) (by decide) rfl rfl, (List.forall_mem_cons.mpr ⟨zq_RX5_239 X (zM_413 hw hm) (by decide) rfl rfl, (List.forall_mem_cons.mpr ⟨zq_RX5_239 X (zM_414 hw hm) (by decide) rfl rfl, (List.forall_mem_cons.mpr ⟨zq_RX5_239 X (zM_415 hw hm) (by decide) rfl rfl, (List.forall_mem_cons.mpr ⟨zq_RX5_250 X (zM_597 hw hm) (by decide) rfl rfl, (List.forall_mem_cons.mpr ⟨zq_RX5_355 X (zM_780 hw hm) (by decide) rfl rfl, nilz⟩)⟩)⟩)⟩)⟩)⟩)⟩)⟩)⟩)⟩)⟩)⟩)⟩)⟩)⟩)⟩)⟩)⟩)⟩)⟩)⟩)⟩)⟩)⟩)⟩)⟩)⟩)⟩)⟩)⟩)⟩)⟩)⟩)⟩)⟩)⟩)⟩)⟩)⟩)⟩)⟩)⟩)⟩)⟩)⟩)⟩)⟩)⟩)⟩)⟩)⟩)⟩)⟩)⟩)⟩)⟩)⟩)⟩)⟩)⟩)⟩)⟩)⟩)⟩)⟩)
