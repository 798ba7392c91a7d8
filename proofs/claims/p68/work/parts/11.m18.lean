set_option maxRecDepth 100000 in
theorem zk_791_0 : zm1 zKS zuq zNS zm_791 4000 zt_791_0 = true := z1F (zdt_X5_refuseWorn) (by decide +kernel)
set_option maxRecDepth 100000 in
theorem zk_791_1 : zm1 zKS zuq zNS zm_791 4000 zt_791_1 = true := z1F (zdt_X5_refuseWorn) (by decide +kernel)
set_option maxRecDepth 100000 in
theorem zk_791_2 : zm1 zKS zuq zNS zm_791 4000 zt_791_2 = true := z1F (zdt_X5_refuseWorn) (by decide +kernel)
set_option maxRecDepth 100000 in
theorem zk_791_3 : zm1 zKS zuq zNS zm_791 4000 zt_791_3 = true := z1F (zdt_X5_refuseWorn) (by decide +kernel)
set_option maxRecDepth 100000 in
theorem zk_791_4 : zm1 zKS zuq zNS zm_791 4000 zt_791_4 = true := z1F (zdt_X5_refuseWorn) (by decide +kernel)
set_option maxRecDepth 100000 in
theorem zk_791_5 : zm1 zKS zuq zNS zm_791 4000 zt_791_5 = true := z1F (zdt_X5_refuseWorn) (by decide +kernel)
set_option maxRecDepth 100000 in
theorem zk_791_6 : zm1 zKS zuq zNS zm_791 4000 zt_791_6 = true := z1F (zdt_X5_refuseWorn) (by decide +kernel)
set_option maxRecDepth 100000 in
theorem zk_791_7 : zm1 zKS zuq zNS zm_791 4000 zt_791_7 = true := z1F (zdt_X5_refuseWorn) (by decide +kernel)
set_option maxRecDepth 100000 in
theorem zk_791_8 : zm1 zKS zuq zNS zm_791 4000 zt_791_8 = true := z1F (zdt_X5_refuseWorn) (by decide +kernel)
set_option maxRecDepth 100000 in
theorem zk_791_9 : zm1 zKS zuq zNS zm_791 4000 zt_791_9 = true := z1F (zdt_X5_refuseWorn) (by decide +kernel)
set_option maxRecDepth 100000 in
theorem zk_791_10 : zm1 zKS zuq zNS zm_791 4000 zt_791_10 = true := z1F (zdt_X5_refuseWorn) (by decide +kernel)
set_option maxRecDepth 100000 in
theorem zk_791_11 : zm1 zKS zuq zNS zm_791 4000 zt_791_11 = true := z1F (zdt_X5_refuseWorn) (by decide +kernel)
set_option maxRecDepth 100000 in
theorem zk_791_12 : zm1 zKS zuq zNS zm_791 4000 zt_791_12 = true := z1F (zdt_X5_refuseWorn) (by decide +kernel)
set_option maxRecDepth 100000 in
theorem zk_791_13 : zm1 zKS zuq zNS zm_791 4000 zt_791_13 = true := z1F (zdt_X5_refuseWorn) (by decide +kernel)
set_option maxRecDepth 100000 in
theorem zk_791_14 : zm1 zKS zuq zNS zm_791 4000 zt_791_14 = true := z1F (zdt_X5_refuseWorn) (by decide +kernel)
set_option maxRecDepth 100000 in
theorem zk_791_15 : zm1 zKS zuq zNS zm_791 4000 zt_791_15 = true := z1F (zdt_X5_refuseWorn) (by decide +kernel)
set_option maxRecDepth 100000 in
theorem zk_791_16 : zm1 zKS zuq zNS zm_791 4000 zt_791_16 = true := z1F (zdt_X5_refuseWorn) (by decide +kernel)
set_option maxRecDepth 100000 in
theorem zk_791_17 : zm1 zKS zuq zNS zm_791 4000 zt_791_17 = true := z1F (zdt_X5_refuseWorn) (by decide +kernel)
set_option maxRecDepth 100000 in
theorem zk_791_18 : zm1 zKS zuq zNS zm_791 4000 zt_791_18 = true := z1F (zdt_X5_refuseWorn) (by decide +kernel)
set_option maxRecDepth 100000 in
theorem zk_791_19 : zm1 zKS zuq zNS zm_791 4000 zt_791_19 = true := z1F (zdt_X5_refuseWorn) (by decide +kernel)
set_option maxRecDepth 100000 in
theorem zk_791_20 : zm1 zKS zuq zNS zm_791 4000 zt_791_20 = true := z1F (zdt_X5_refuseWorn) (by decide +kernel)
set_option maxRecDepth 100000 in
theorem zk_791_s : zm0 zKS zuq zNS zm_791 4000 = true := z0F (zdt_X5_refuseWorn) (by decide +kernel)
set_option maxRecDepth 100000 in
theorem zk_791 : zmeth zKS zuq zNS zm_791 4000 = true := zmeth_by zk_791_s (List.forall_mem_cons.mpr ⟨zk_791_0, (List.forall_mem_cons.mpr ⟨zk_791_1, (List.forall_mem_cons.mpr ⟨zk_791_2, (List.forall_mem_cons.mpr ⟨zk_791_3, (List.forall_mem_cons.mpr ⟨zk_791_4, (List.forall_mem_cons.mpr ⟨zk_791_5, (List.forall_mem_cons.mpr ⟨zk_791_6, (List.forall_mem_cons.mpr ⟨zk_791_7, (List.forall_mem_cons.mpr ⟨zk_791_8, (List.forall_mem_cons.mpr ⟨zk_791_9, (List.forall_mem_cons.mpr ⟨zk_791_10, (List.forall_mem_cons.mpr ⟨zk_791_11, (List.forall_mem_cons.mpr ⟨zk_791_12, (List.forall_mem_cons.mpr ⟨zk_791_13, (List.forall_mem_cons.mpr ⟨zk_791_14, (List.forall_mem_cons.mpr ⟨zk_791_15, (List.forall_mem_cons.mpr ⟨zk_791_16, (List.forall_mem_cons.mpr ⟨zk_791_17, (List.forall_mem_cons.mpr ⟨zk_791_18, (List.forall_mem_cons.mpr ⟨zk_791_19, (List.forall_mem_cons.mpr ⟨zk_791_20, nilz⟩)⟩)⟩)⟩)⟩)⟩)⟩)⟩)⟩)⟩)⟩)⟩)⟩)⟩)⟩)⟩)⟩)⟩)⟩)⟩)⟩)
set_option maxRecDepth 100000 in
theorem zM_791 {l : Launch} {D : va_G} {cI cZ cB cJ cR : ClassId} {ks ad : List Nat} {Psi : va_W → Prop} (hw : zworld ks ad zuq zNS Psi) (hm : zMan l D cI cZ cB cJ cR ks ad Psi) : zMet l D cI cZ cB cJ cR zKS ks ad Psi yX5_refuseWorn (.code yX5_refuseWorn cX5_refuseWorn 6 (some .int)) 2 zc_791 :=
  zmet_of hw 2 (by decide) 4000 zk_791 (by decide) (by decide) (fun X => ⟨zg_RX5 X, zp_RX5 X, zl1_RX5 X, zl2_RX5 X, nilz, (List.forall_mem_cons.mpr ⟨zq_RX5_83 X (zM_303 hw hm) (by decide) rfl rfl, (List.forall_mem_cons.mpr ⟨zq_RX5_87 X (zM_301 hw hm) (by decide) rfl rfl, (List.forall_mem_cons.mpr ⟨zq_RX5_239 X (zM_356 hw hm) (by decide) rfl rfl, (List.forall_mem_cons.mpr ⟨zq_RX5_239 X (zM_357 hw hm) (by decide) rfl rfl, (List.forall_mem_cons.mpr ⟨zq_RX5_239 X (zM_358 hw hm) (by decide) rfl rfl, (List.forall_mem_cons.mpr ⟨zq_RX5_239 X (zM_359 hw hm) (by decide) rfl rfl, (List.forall_mem_cons.mpr ⟨zq_RX5_239 X (zM_360 hw hm) (by decide) rfl rfl, (List.forall_mem_cons.mpr ⟨zq_RX5_239 X (zM_361 hw hm) (by decide) rfl rfl, (List.forall_mem_cons.mpr ⟨zq_RX5_239 X (zM_362 hw hm) (by decide) rfl rfl, (List.forall_mem_cons.mpr ⟨zq_RX5_239 X (zM_363 hw hm) (by decide) rfl rfl, (List.forall_mem_cons.mpr ⟨zq_RX5_239 X (zM_364 hw hm) (by decide) rfl rfl, (List.forall_mem_cons.mpr ⟨zq_RX5_239 X (zM_365 hw hm) (by decide) rfl rfl, (List.forall_mem_cons.mpr ⟨zq_RX5_239 X (zM_366 hw hm) (by decide) rfl rfl, (List.forall_mem_cons.mpr ⟨zq_RX5_239 X (zM_367 hw hm) (by decide) rfl rfl, (List.forall_mem_cons.mpr ⟨zq_RX5_239 X (zM_368 hw hm) (by decide) rfl rfl, (List.forall_mem_cons.mpr ⟨zq_RX5_239 X (zM_369 hw hm) (by decide) rfl rfl, (List.forall_mem_cons.mpr ⟨zq_RX5_239 X (zM_370 hw hm) (by decide) rfl rfl, (List.forall_mem_cons.mpr ⟨zq_RX5_239 X (zM_371 hw hm) (by decide) rfl rfl, (List.forall_mem_cons.mpr ⟨zq_RX5_239 X (zM_372 hw hm) (by decide) rfl rfl, (List.forall_mem_cons.mpr ⟨zq_RX5_239 X (zM_373 hw hm) (by decide) rfl rfl, (List.forall_mem_cons.mpr ⟨zq_RX5_239 X (zM_374 hw hm) (by decide) rfl rfl, (List.forall_mem_cons.mpr ⟨zq_RX5_239 X (zM_375 hw hm) (by decide) rfl rfl, (List.forall_mem_cons.mpr ⟨zq_RX5_239 X (zM_376 hw hm) (by decide) rfl rfl, (List.forall_mem_cons.mpr ⟨zq_RX5_239 X (zM_377 hw hm) (by decide) rfl rfl, (List.forall_mem_cons.mpr ⟨zq_RX5_239 X (zM_378 hw hm) (by decide) rfl rfl, (List.forall_mem_cons.mpr ⟨zq_RX5_239 X (zM_379 hw hm) (by decide) rfl rfl, (List.forall_mem_cons.mpr ⟨zq_RX5_239 X (zM_380 hw hm) (by decide) rfl rfl, (List.forall_mem_cons.mpr ⟨zq_RX5_239 X (zM_381 hw hm) (by decide) rfl rfl, (List.forall_mem_cons.mpr ⟨zq_RX5_239 X (zM_382 hw hm) (by decide) rfl rfl, (List.forall_mem_cons.mpr ⟨zq_RX5_239 X (zM_383 hw hm) (by decide) rfl rfl, (List.forall_mem_cons.mpr ⟨zq_RX5_239 X (zM_384 hw hm) (by decide) rfl rfl, (List.forall_mem_cons.mpr ⟨zq_RX5_239 X (zM_385 hw hm) (by decide) rfl rfl, (List.forall_mem_cons.mpr ⟨zq_RX5_239 X (zM_386 hw hm) (by decide) rfl rfl, (List.forall_mem_cons.mpr ⟨zq_RX5_239 X (zM_387 hw hm) (by decide) rfl rfl, (List.forall_mem_cons.mpr ⟨zq_RX5_239 X (zM_388 hw hm) (by decide) rfl rfl, (List.forall_mem_cons.mpr ⟨zq_RX5_239 X (zM_389 hw hm) (by decide) rfl rfl, (List.forall_mem_cons.mpr ⟨zq_RX5_239 X (zM_390 hw hm) (by decide) rfl rfl, (List.forall_mem_cons.mpr ⟨zq_RX5_239 X (zM_391 hw hm) (by decide) rfl rfl, (List.forall_mem_cons.mpr ⟨zq_RX5_239 X (zM_392 hw hm) (by decide) rfl rfl, (List.forall_mem_cons.mpr ⟨zq_RX5_239 X (zM_393 hw hm) (by decide) rfl rfl, (List.forall_mem_cons.mpr ⟨zq_RX5_239 X (zM_394 hw hm) (by decide) rfl rfl, (List.forall_mem_cons.mpr ⟨zq_RX5_239 X (zM_395 hw hm) (by decide) rfl rfl, (List.forall_mem_cons.mpr ⟨zq_RX5_239 X (zM_396 hw hm) (by decide) rfl rfl, (List.forall_mem_cons.mpr ⟨zq_RX5_239 X (zM_397 hw hm) (by decide) rfl rfl, (List.forall_mem_cons.mpr ⟨zq_RX5_239 X (zM_398 hw hm) (by decide) rfl rfl, (List.forall_mem_cons.mpr ⟨zq_RX5_239 X (zM_399 hw hm) (by decide) rfl rfl, (List.forall_mem_cons.mpr ⟨zq_RX5_239 X (zM_400 hw hm) (by decide) rfl rfl, (List.forall_mem_cons.mpr ⟨zq_RX5_239 X (zM_401 hw hm) (by decide) rfl rfl, (List.forall_mem_cons.mpr ⟨zq_RX5_239 X (zM_402 hw hm) (by decide) rfl rfl, (List.forall_mem_cons.mpr ⟨zq_RX5_239 X (zM_403 hw hm) (by decide) rfl rfl, (List.forall_mem_cons.mpr ⟨zq_RX5_239 X (zM_404 hw hm) (by decide) rfl rfl, (List.forall_mem_cons.mpr ⟨zq_RX5_239 X (zM_405 hw hm) (by decide) rfl rfl, (List.forall_mem_cons.mpr ⟨zq_RX5_239 X (zM_406 hw hm) (by decide) rfl rfl, (List.forall_mem_cons.mpr ⟨zq_RX5_239 X (zM_407 hw hm) (by decide) rfl rfl, (List.forall_mem_cons.mpr ⟨zq_RX5_239 X (zM_408 hw hm) (by decide) rfl rfl, (List.forall_mem_cons.mpr ⟨zq_RX5_239 X (zM_409 hw hm) (by decide) rfl rfl, (List.forall_mem_cons.mpr ⟨zq_RX5_239 X (zM_410 hw hm) (by decide) rfl rfl, (List.forall_mem_cons.mpr ⟨zq_RX5_239 X (zM_411 hw hm) (by decide) rfl rfl, (List.forall_mem_cons.mpr ⟨zq_RX5_239 X (zM_412 hw hm) (by decide) rfl rfl, (List.forall_mem_cons.mpr ⟨zq_RX5_239 X (zM_413 hw hm) (by decide) rfl rfl, (List.forall_mem_cons.mpr ⟨zq_RX5_239 X (zM_414 hw hm) (by decide) rfl rfl, (List.forall_mem_cons.mpr ⟨zq_RX5_239 X (zM_415 hw hm) (by decide) rfl rfl, (List.forall_mem_cons.mpr ⟨zq_RX5_250 X (zM_597 hw hm) (by decide) rfl rfl, (List.forall_mem_cons.mpr ⟨zq_RX5_355 X (zM_781 hw hm) (by decide) rfl rfl, nilz⟩)⟩)⟩)⟩)⟩)⟩)⟩)⟩)⟩)⟩)⟩)⟩)⟩)⟩)⟩)⟩)⟩)⟩)⟩)⟩)⟩)⟩)⟩)⟩)⟩)⟩)⟩)⟩)⟩)⟩)⟩)⟩)⟩)⟩)⟩)⟩)⟩)⟩)⟩)⟩)⟩)⟩)⟩)⟩)⟩)⟩)⟩)⟩)⟩)⟩)⟩)⟩)⟩)⟩)⟩)⟩)⟩)⟩)⟩)⟩)⟩)⟩)⟩)⟩)⟩)
set_option maxRecDepth 100000 in
theorem zk_792_0 : zm1 zKS zuq zNS zm_792 4000 zt_792_0 = true := z1F (zdt_X5_refuseWorn) (by decide +kernel)
set_option maxRecDepth 100000 in
theorem zk_792_1 : zm1 zKS zuq zNS zm_792 4000 zt_792_1 = true := z1F (zdt_X5_refuseWorn) (by decide +kernel)
set_option maxRecDepth 100000 in
theorem zk_792_2 : zm1 zKS zuq zNS zm_792 4000 zt_792_2 = true := z1F (zdt_X5_refuseWorn) (by decide +kernel)
set_option maxRecDepth 100000 in
theorem zk_792_3 : zm1 zKS zuq zNS zm_792 4000 zt_792_3 = true := z1F (zdt_X5_refuseWorn) (by decide +kernel)
set_option maxRecDepth 100000 in
theorem zk_792_4 : zm1 zKS zuq zNS zm_792 4000 zt_792_4 = true := z1F (zdt_X5_refuseWorn) (by decide +kernel)
set_option maxRecDepth 100000 in
theorem zk_792_5 : zm1 zKS zuq zNS zm_792 4000 zt_792_5 = true := z1F (zdt_X5_refuseWorn) (by decide +kernel)
set_option maxRecDepth 100000 in
theorem zk_792_6 : zm1 zKS zuq zNS zm_792 4000 zt_792_6 = true := z1F (zdt_X5_refuseWorn) (by decide +kernel)
set_option maxRecDepth 100000 in
theorem zk_792_7 : zm1 zKS zuq zNS zm_792 4000 zt_792_7 = true := z1F (zdt_X5_refuseWorn) (by decide +kernel)
set_option maxRecDepth 100000 in
theorem zk_792_8 : zm1 zKS zuq zNS zm_792 4000 zt_792_8 = true := z1F (zdt_X5_refuseWorn) (by decide +kernel)
set_option maxRecDepth 100000 in
theorem zk_792_9 : zm1 zKS zuq zNS zm_792 4000 zt_792_9 = true := z1F (zdt_X5_refuseWorn) (by decide +kernel)
set_option maxRecDepth 100000 in
theorem zk_792_10 : zm1 zKS zuq zNS zm_792 4000 zt_792_10 = true := z1F (zdt_X5_refuseWorn) (by decide +kernel)
set_option maxRecDepth 100000 in
theorem zk_792_11 : zm1 zKS zuq zNS zm_792 4000 zt_792_11 = true := z1F (zdt_X5_refuseWorn) (by decide +kernel)
set_option maxRecDepth 100000 in
theorem zk_792_12 : zm1 zKS zuq zNS zm_792 4000 zt_792_12 = true := z1F (zdt_X5_refuseWorn) (by decide +kernel)
set_option maxRecDepth 100000 in
theorem zk_792_13 : zm1 zKS zuq zNS zm_792 4000 zt_792_13 = true := z1F (zdt_X5_refuseWorn) (by decide +kernel)
set_option maxRecDepth 100000 in
theorem zk_792_14 : zm1 zKS zuq zNS zm_792 4000 zt_792_14 = true := z1F (zdt_X5_refuseWorn) (by decide +kernel)
set_option maxRecDepth 100000 in
theorem zk_792_15 : zm1 zKS zuq zNS zm_792 4000 zt_792_15 = true := z1F (zdt_X5_refuseWorn) (by decide +kernel)
set_option maxRecDepth 100000 in
theorem zk_792_16 : zm1 zKS zuq zNS zm_792 4000 zt_792_16 = true := z1F (zdt_X5_refuseWorn) (by decide +kernel)
set_option maxRecDepth 100000 in
theorem zk_792_17 : zm1 zKS zuq zNS zm_792 4000 zt_792_17 = true := z1F (zdt_X5_refuseWorn) (by decide +kernel)
set_option maxRecDepth 100000 in
theorem zk_792_18 : zm1 zKS zuq zNS zm_792 4000 zt_792_18 = true := z1F (zdt_X5_refuseWorn) (by decide +kernel)
set_option maxRecDepth 100000 in
theorem zk_792_19 : zm1 zKS zuq zNS zm_792 4000 zt_792_19 = true := z1F (zdt_X5_refuseWorn) (by decide +kernel)
set_option maxRecDepth 100000 in
theorem zk_792_20 : zm1 zKS zuq zNS zm_792 4000 zt_792_20 = true := z1F (zdt_X5_refuseWorn) (by decide +kernel)
set_option maxRecDepth 100000 in
theorem zk_792_s : zm0 zKS zuq zNS zm_792 4000 = true := z0F (zdt_X5_refuseWorn) (by decide +kernel)
set_option maxRecDepth 100000 in
theorem zk_792 : zmeth zKS zuq zNS zm_792 4000 = true := zmeth_by zk_792_s (List.forall_mem_cons.mpr ⟨zk_792_0, (List.forall_mem_cons.mpr ⟨zk_792_1, (List.forall_mem_cons.mpr ⟨zk_792_2, (List.forall_mem_cons.mpr ⟨zk_792_3, (List.forall_mem_cons.mpr ⟨zk_792_4, (List.forall_mem_cons.mpr ⟨zk_792_5, (List.forall_mem_cons.mpr ⟨zk_792_6, (List.forall_mem_cons.mpr ⟨zk_792_7, (List.forall_mem_cons.mpr ⟨zk_792_8, (List.forall_mem_cons.mpr ⟨zk_792_9, (List.forall_mem_cons.mpr ⟨zk_792_10, (List.forall_mem_cons.mpr ⟨zk_792_11, (List.forall_mem_cons.mpr ⟨zk_792_12, (List.forall_mem_cons.mpr ⟨zk_792_13, (List.forall_mem_cons.mpr ⟨zk_792_14, (List.forall_mem_cons.mpr ⟨zk_792_15, (List.forall_mem_cons.mpr ⟨zk_792_16, (List.forall_mem_cons.mpr ⟨zk_792_17, (List.forall_mem_cons.mpr ⟨zk_792_18, (List.forall_mem_cons.mpr ⟨zk_792_19, (List.forall_mem_cons.mpr ⟨zk_792_20, nilz⟩)⟩)⟩)⟩)⟩)⟩)⟩)⟩)⟩)⟩)⟩)⟩)⟩)⟩)⟩)⟩)⟩)⟩)⟩)⟩)⟩)
set_option maxRecDepth 100000 in
theorem zM_792 {l : Launch} {D : va_G} {cI cZ cB cJ cR : ClassId} {ks ad : List Nat} {Psi : va_W → Prop} (hw : zworld ks ad zuq zNS Psi) (hm : zMan l D cI cZ cB cJ cR ks ad Psi) : zMet l D cI cZ cB cJ cR zKS ks ad Psi yX5_refuseWorn (.code yX5_refuseWorn cX5_refuseWorn 6 (some .int)) 2 zc_792 :=
  zmet_of hw 2 (by decide) 4000 zk_792 (by decide) (by decide) (fun X => ⟨zg_RX5 X, zp_RX5 X, zl1_RX5 X, zl2_RX5 X, nilz, (List.forall_mem_cons.mpr ⟨zq_RX5_83 X (zM_303 hw hm) (by decide) rfl rfl, (List.forall_mem_cons.mpr ⟨zq_RX5_87 X (zM_301 hw hm) (by decide) rfl rfl, (List.forall_mem_cons.mpr ⟨zq_RX5_239 X (zM_416 hw hm) (by decide) rfl rfl, (List.forall_mem_cons.mpr ⟨zq_RX5_239 X (zM_417 hw hm) (by decide) rfl rfl, (List.forall_mem_cons.mpr ⟨zq_RX5_239 X (zM_418 hw hm) (by decide) rfl rfl, (List.forall_mem_cons.mpr ⟨zq_RX5_239 X (zM_419 hw hm) (by decide) rfl rfl, (List.forall_mem_cons.mpr ⟨zq_RX5_239 X (zM_420 hw hm) (by decide) rfl rfl, (List.forall_mem_cons.mpr ⟨zq_RX5_239 X (zM_421 hw hm) (by decide) rfl rfl, (List.forall_mem_cons.mpr ⟨zq_RX5_239 X (zM_422 hw hm) (by decide) rfl rfl, (List.forall_mem_cons.mpr ⟨zq_RX5_239 X (zM_423 hw hm) (by decide) rfl rfl, (List.forall_mem_cons.mpr ⟨zq_RX5_239 X (zM_424 hw hm) (by decide) rfl rfl, (List.forall_mem_cons.mpr ⟨zq_RX5_239 X (zM_425 hw hm) (by decide) rfl rfl, (List.forall_mem_cons.mpr ⟨zq_RX5_239 X (zM_426 hw hm) (by decide) rfl rfl, (List.forall_mem_cons.mpr ⟨zq_RX5_239 X (zM_427 hw hm) (by decide) rfl rfl, (List.forall_mem_cons.mpr ⟨zq_RX5_239 X (zM_428 hw hm) (by decide) rfl rfl, (List.forall_mem_cons.mpr ⟨zq_RX5_239 X (zM_429 hw hm) (by decide) rfl rfl, (List.forall_mem_cons.mpr ⟨zq_RX5_239 X (zM_430 hw hm) (by decide) rfl rfl, (List.forall_mem_cons.mpr ⟨zq_RX5_239 X (zM_431 hw hm) (by decide) rfl rfl, (List.forall_mem_cons.mpr ⟨zq_RX5_239 X (zM_432 hw hm) (by decide) rfl rfl, (List.forall_mem_cons.mpr ⟨zq_RX5_239 X (zM_433 hw hm) (by decide) rfl rfl, (List.forall_mem_cons.mpr ⟨zq_RX5_239 X (zM_434 hw hm) (by decide) rfl rfl, (List.forall_mem_cons.mpr ⟨zq_RX5_239 X (zM_435 hw hm) (by decide) rfl rfl, (List.forall_mem_cons.mpr ⟨zq_RX5_239 X (zM_436 hw hm) (by decide) rfl rfl, (List.forall_mem_cons.mpr ⟨zq_RX5_239 X (zM_437 hw hm) (by decide) rfl rfl, (List.forall_mem_cons.mpr ⟨zq_RX5_239 X (zM_438 hw hm) (by decide) rfl rfl, (List.forall_mem_cons.mpr ⟨zq_RX5_239 X (zM_439 hw hm) (by decide) rfl rfl, (List.forall_mem_cons.mpr ⟨zq_RX5_239 X (zM_440 hw hm) (by decide) rfl rfl, (List.forall_mem_cons.mpr ⟨zq_RX5_239 X (zM_441 hw hm) (by decide) rfl rfl, (List.forall_mem_cons.mpr ⟨zq_RX5_239 X (zM_442 hw hm) (by decide) rfl rfl, (List.forall_mem_cons.mpr ⟨zq_RX5_239 X (zM_443 hw hm) (by decide) rfl rfl, (List.forall_mem_cons.mpr ⟨zq_RX5_239 X (zM_444 hw hm) (by decide) rfl rfl, (List.forall_mem_cons.mpr ⟨zq_RX5_239 X (zM_445 hw hm) (by decide) rfl rfl, (List.forall_mem_cons.mpr ⟨zq_RX5_239 X (zM_446 hw hm) (by decide) rfl rfl, (List.forall_mem_cons.mpr ⟨zq_RX5_239 X (zM_447 hw hm) (by decide) rfl rfl, (List.forall_mem_cons.mpr ⟨zq_RX5_239 X (zM_448 hw hm) (by decide) rfl rfl, (List.forall_mem_cons.mpr ⟨zq_RX5_239 X (zM_449 hw hm) (by decide) rfl rfl, (List.forall_mem_cons.mpr ⟨zq_RX5_239 X (zM_450 hw hm) (by decide) rfl rfl, (List.forall_mem_cons.mpr ⟨zq_RX5_239 X (zM_451 hw hm) (by decide) rfl rfl, (List.forall_mem_cons.mpr ⟨zq_RX5_239 X (zM_452 hw hm) (by decide) rfl rfl, (List.forall_mem_cons.mpr ⟨zq_RX5_239 X (zM_453 hw hm) (by decide) rfl rfl, (List.forall_mem_cons.mpr ⟨zq_RX5_239 X (zM_454 hw hm) (by decide) rfl rfl, (List.forall_mem_cons.mpr ⟨zq_RX5_239 X (zM_455 hw hm) (by decide) rfl rfl, (List.forall_mem_cons.mpr ⟨zq_RX5_239 X (zM_456 hw hm) (by decide) rfl rfl, (List.forall_mem_cons.mpr ⟨zq_RX5_239 X (zM_457 hw hm) (by decide) rfl rfl, (List.forall_mem_cons.mpr ⟨zq_RX5_239 X (zM_458 hw hm) (by decide) rfl rfl, (List.forall_mem_cons.mpr ⟨zq_RX5_239 X (zM_459 hw hm) (by decide) rfl rfl, (List.forall_mem_cons.mpr ⟨zq_RX5_239 X (zM_460 hw hm) (by decide) rfl rfl, (List.forall_mem_cons.mpr ⟨zq_RX5_239 X (zM_461 hw hm) (by decide) rfl rfl, (List.forall_mem_cons.mpr ⟨zq_RX5_239 X (zM_462 hw hm) (by decide) rfl rfl, (List.forall_mem_cons.mpr ⟨zq_RX5_239 X (zM_463 hw hm) (by decide) rfl rfl, (List.forall_mem_cons.mpr ⟨zq_RX5_239 X (zM_464 hw hm) (by decide) rfl rfl, (List.forall_mem_cons.mpr ⟨zq_RX5_239 X (zM_465 hw hm) (by decide) rfl rfl, (List.forall_mem_cons.mpr ⟨zq_RX5_239 X (zM_466 hw hm) (by decide) rfl rfl, (List.forall_mem_cons.mpr ⟨zq_RX5_239 X (zM_467 hw hm) (by decide) rfl rfl, (List.forall_mem_cons.mpr ⟨zq_RX5_239 X (zM_468 hw hm) (by decide) rfl rfl, (List.forall_mem_cons.mpr ⟨zq_RX5_239 X (zM_469 hw hm) (by decide) rfl rfl, (List.forall_mem_cons.mpr ⟨zq_RX5_239 X (zM_470 hw hm) (by decide) rfl rfl, (List.forall_mem_cons.mpr ⟨zq_RX5_239 X (zM_471 hw hm) (by decide) rfl rfl, (List.forall_mem_cons.mpr ⟨zq_RX5_239 X (zM_472 hw hm) (by decide) rfl rfl, (List.forall_mem_cons.mpr ⟨zq_RX5_239 X (zM_473 hw hm) (by decide) rfl rfl, (List.forall_mem_cons.mpr ⟨zq_RX5_239 X (zM_474 hw hm) (by decide) rfl rfl, (List.forall_mem_cons.mpr ⟨zq_RX5_239 X (zM_475 hw hm) (by decide) rfl rfl, (List.forall_mem_cons.mpr ⟨zq_RX5_250 X (zM_599 hw hm) (by decide) rfl rfl, (List.forall_mem_cons.mpr ⟨zq_RX5_355 X (zM_783 hw hm) (by decide) rfl rfl, nilz⟩)⟩)⟩)⟩)⟩)⟩)⟩)⟩)⟩)⟩)⟩)⟩)⟩)⟩)⟩)⟩)⟩)⟩)⟩)⟩)⟩)⟩)⟩)⟩)⟩)⟩)⟩)⟩)⟩)⟩)⟩)⟩)⟩)⟩)⟩)⟩)⟩)⟩)⟩)⟩)⟩)⟩)⟩)⟩)⟩)⟩)⟩)⟩)⟩)⟩)⟩)⟩)⟩)⟩)⟩)⟩)⟩)⟩)⟩)⟩)⟩)⟩)⟩)⟩)⟩)
set_option maxRecDepth 100000 in
theorem zk_793_0 : zm1 zKS zuq zNS zm_793 4000 zt_793_0 = true := z1F (zdt_X5_refuseWorn) (by decide +kernel)
set_option maxRecDepth 100000 in
theorem zk_793_1 : zm1 zKS zuq zNS zm_793 4000 zt_793_1 = true := z1F (zdt_X5_refuseWorn) (by decide +kernel)
set_option maxRecDepth 100000 in
theorem zk_793_2 : zm1 zKS zuq zNS zm_793 4000 zt_793_2 = true := z1F (zdt_X5_refuseWorn) (by decide +kernel)
set_option maxRecDepth 100000 in
theorem zk_793_3 : zm1 zKS zuq zNS zm_793 4000 zt_793_3 = true := z1F (zdt_X5_refuseWorn) (by decide +kernel)
set_option maxRecDepth 100000 in
theorem zk_793_4 : zm1 zKS zuq zNS zm_793 4000 zt_793_4 = true := z1F (zdt_X5_refuseWorn) (by decide +kernel)
set_option maxRecDepth 100000 in
theorem zk_793_5 : zm1 zKS zuq zNS zm_793 4000 zt_793_5 = true := z1F (zdt_X5_refuseWorn) (by decide +kernel)
set_option maxRecDepth 100000 in
theorem zk_793_6 : zm1 zKS zuq zNS zm_793 4000 zt_793_6 = true := z1F (zdt_X5_refuseWorn) (by decide +kernel)
set_option maxRecDepth 100000 in
theorem zk_793_7 : zm1 zKS zuq zNS zm_793 4000 zt_793_7 = true := z1F (zdt_X5_refuseWorn) (by decide +kernel)
set_option maxRecDepth 100000 in
theorem zk_793_8 : zm1 zKS zuq zNS zm_793 4000 zt_793_8 = true := z1F (zdt_X5_refuseWorn) (by decide +kernel)
set_option maxRecDepth 100000 in
theorem zk_793_9 : zm1 zKS zuq zNS zm_793 4000 zt_793_9 = true := z1F (zdt_X5_refuseWorn) (by decide +kernel)
set_option maxRecDepth 100000 in
theorem zk_793_10 : zm1 zKS zuq zNS zm_793 4000 zt_793_10 = true := z1F (zdt_X5_refuseWorn) (by decide +kernel)
set_option maxRecDepth 100000 in
theorem zk_793_11 : zm1 zKS zuq zNS zm_793 4000 zt_793_11 = true := z1F (zdt_X5_refuseWorn) (by decide +kernel)
set_option maxRecDepth 100000 in
theorem zk_793_12 : zm1 zKS zuq zNS zm_793 4000 zt_793_12 = true := z1F (zdt_X5_refuseWorn) (by decide +kernel)
set_option maxRecDepth 100000 in
theorem zk_793_13 : zm1 zKS zuq zNS zm_793 4000 zt_793_13 = true := z1F (zdt_X5_refuseWorn) (by decide +kernel)
set_option maxRecDepth 100000 in
theorem zk_793_14 : zm1 zKS zuq zNS zm_793 4000 zt_793_14 = true := z1F (zdt_X5_refuseWorn) (by decide +kernel)
set_option maxRecDepth 100000 in
theorem zk_793_15 : zm1 zKS zuq zNS zm_793 4000 zt_793_15 = true := z1F (zdt_X5_refuseWorn) (by decide +kernel)
set_option maxRecDepth 100000 in
theorem zk_793_16 : zm1 zKS zuq zNS zm_793 4000 zt_793_16 = true := z1F (zdt_X5_refuseWorn) (by decide +kernel)
set_option maxRecDepth 100000 in
theorem zk_793_17 : zm1 zKS zuq zNS zm_793 4000 zt_793_17 = true := z1F (zdt_X5_refuseWorn) (by decide +kernel)
set_option maxRecDepth 100000 in
theorem zk_793_18 : zm1 zKS zuq zNS zm_793 4000 zt_793_18 = true := z1F (zdt_X5_refuseWorn) (by decide +kernel)
set_option maxRecDepth 100000 in
theorem zk_793_19 : zm1 zKS zuq zNS zm_793 4000 zt_793_19 = true := z1F (zdt_X5_refuseWorn) (by decide +kernel)
set_option maxRecDepth 100000 in
theorem zk_793_20 : zm1 zKS zuq zNS zm_793 4000 zt_793_20 = true := z1F (zdt_X5_refuseWorn) (by decide +kernel)
set_option maxRecDepth 100000 in
theorem zk_793_s : zm0 zKS zuq zNS zm_793 4000 = true := z0F (zdt_X5_refuseWorn) (by decide +kernel)
set_option maxRecDepth 100000 in
theorem zk_793 : zmeth zKS zuq zNS zm_793 4000 = true := zmeth_by zk_793_s (List.forall_mem_cons.mpr ⟨zk_793_0, (List.forall_mem_cons.mpr ⟨zk_793_1, (List.forall_mem_cons.mpr ⟨zk_793_2, (List.forall_mem_cons.mpr ⟨zk_793_3, (List.forall_mem_cons.mpr ⟨zk_793_4, (List.forall_mem_cons.mpr ⟨zk_793_5, (List.forall_mem_cons.mpr ⟨zk_793_6, (List.forall_mem_cons.mpr ⟨zk_793_7, (List.forall_mem_cons.mpr ⟨zk_793_8, (List.forall_mem_cons.mpr ⟨zk_793_9, (List.forall_mem_cons.mpr ⟨zk_793_10, (List.forall_mem_cons.mpr ⟨zk_793_11, (List.forall_mem_cons.mpr ⟨zk_793_12, (List.forall_mem_cons.mpr ⟨zk_793_13, (List.forall_mem_cons.mpr ⟨zk_793_14, (List.forall_mem_cons.mpr ⟨zk_793_15, (List.forall_mem_cons.mpr ⟨zk_793_16, (List.forall_mem_cons.mpr ⟨zk_793_17, (List.forall_mem_cons.mpr ⟨zk_793_18, (List.forall_mem_cons.mpr ⟨zk_793_19, (List.forall_mem_cons.mpr ⟨zk_793_20, nilz⟩)⟩)⟩)⟩)⟩)⟩)⟩)⟩)⟩)⟩)⟩)⟩)⟩)⟩)⟩)⟩)⟩)⟩)⟩)⟩)⟩)
set_option maxRecDepth 100000 in
theorem zM_793 {l : Launch} {D : va_G} {cI cZ cB cJ cR : ClassId} {ks ad : List Nat} {Psi : va_W → Prop} (hw : zworld ks ad zuq zNS Psi) (hm : zMan l D cI cZ cB cJ cR ks ad Psi) : zMet l D cI cZ cB cJ cR zKS ks ad Psi yX5_refuseWorn (.code yX5_refuseWorn cX5_refuseWorn 6 (some .int)) 2 zc_793 :=
  zmet_of hw 2 (by decide) 4000 zk_793 (by decide) (by decide) (fun X => ⟨zg_RX5 X, zp_RX5 X, zl1_RX5 X, zl2_RX5 X, nilz, (List.forall_mem_cons.mpr ⟨zq_RX5_83 X (zM_303 hw hm) (by decide) rfl rfl, (List.forall_mem_cons.mpr ⟨zq_RX5_87 X (zM_301 hw hm) (by decide) rfl rfl, (List.forall_mem_cons.mpr ⟨zq_RX5_239 X (zM_476 hw hm) (by decide) rfl rfl, (List.forall_mem_cons.mpr ⟨zq_RX5_239 X (zM_477 hw hm) (by decide) rfl rfl, (List.forall_mem_cons.mpr ⟨zq_RX5_239 X (zM_478 hw hm) (by decide) rfl rfl, (List.forall_mem_cons.mpr ⟨zq_RX5_239 X (zM_479 hw hm) (by decide) rfl rfl, (List.forall_mem_cons.mpr ⟨zq_RX5_239 X (zM_480 hw hm) (by decide) rfl rfl, (List.forall_mem_cons.mpr ⟨zq_RX5_239 X (zM_481 hw hm) (by decide) rfl rfl, (List.forall_mem_cons.mpr ⟨zq_RX5_239 X (zM_482 hw hm) (by decide) rfl rfl, (List.forall_mem_cons.mpr ⟨zq_RX5_239 X (zM_483 hw hm) (by decide) rfl rfl, (List.forall_mem_cons.mpr ⟨zq_RX5_239 X (zM_484 hw hm) (by decide) rfl rfl, (List.forall_mem_cons.mpr ⟨zq_RX5_239 X (zM_485 hw hm) (by decide) rfl rfl, (List.forall_mem_cons.mpr ⟨zq_RX5_239 X (zM_486 hw hm) (by decide) rfl rfl, (List.forall_mem_cons.mpr ⟨zq_RX5_239 X (zM_487 hw hm) (by decide) rfl rfl, (List.forall_mem_cons.mpr ⟨zq_RX5_239 X (zM_488 hw hm) (by decide) rfl rfl, (List.forall_mem_cons.mpr ⟨zq_RX5_239 X (zM_489 hw hm) (by decide) rfl rfl, (List.forall_mem_cons.mpr ⟨zq_RX5_239 X (zM_490 hw hm) (by decide) rfl rfl, (List.forall_mem_cons.mpr ⟨zq_RX5_239 X (zM_491 hw hm) (by decide) rfl rfl, (List.forall_mem_cons.mpr ⟨zq_RX5_239 X (zM_492 hw hm) (by decide) rfl rfl, (List.forall_mem_cons.mpr ⟨zq_RX5_239 X (zM_493 hw hm) (by decide) rfl rfl, (List.forall_mem_cons.mpr ⟨zq_RX5_239 X (zM_494 hw hm) (by decide) rfl rfl, (List.forall_mem_cons.mpr ⟨zq_RX5_239 X (zM_495 hw hm) (by decide) rfl rfl, (List.forall_mem_cons.mpr ⟨zq_RX5_239 X (zM_496 hw hm) (by decide) rfl rfl, (List.forall_mem_cons.mpr ⟨zq_RX5_239 X (zM_497 hw hm) (by decide) rfl rfl, (List.forall_mem_cons.mpr ⟨zq_RX5_239 X (zM_498 hw hm) (by decide) rfl rfl, (List.forall_mem_cons.mpr ⟨zq_RX5_239 X (zM_499 hw hm) (by decide) rfl rfl, (List.forall_mem_cons.mpr ⟨zq_RX5_239 X (zM_500 hw hm) (by decide) rfl rfl, (List.forall_mem_cons.mpr ⟨zq_RX5_239 X (zM_501 hw hm) (by decide) rfl rfl, (List.forall_mem_cons.mpr ⟨zq_RX5_239 X (zM_502 hw hm) (by decide) rfl rfl, (List.forall_mem_cons.mpr ⟨zq_RX5_239 X (zM_503 hw hm) (by decide) rfl rfl, (List.forall_mem_cons.mpr ⟨zq_RX5_239 X (zM_504 hw hm) (by decide) rfl rfl, (List.forall_mem_cons.mpr ⟨zq_RX5_239 X (zM_505 hw hm) (by decide) rfl rfl, (List.forall_mem_cons.mpr ⟨zq_RX5_239 X (zM_506 hw hm) (by decide) rfl rfl, (List.forall_mem_cons.mpr ⟨zq_RX5_239 X (zM_507 hw hm) (by decide) rfl rfl, (List.forall_mem_cons.mpr ⟨zq_RX5_239 X (zM_508 hw hm) (by decide) rfl rfl, (List.forall_mem_cons.mpr ⟨zq_RX5_239 X (zM_509 hw hm) (by decide) rfl rfl, (List.forall_mem_cons.mpr ⟨zq_RX5_239 X (zM_510 hw hm) (by decide) rfl rfl, (List.forall_mem_cons.mpr ⟨zq_RX5_239 X (zM_511 hw hm) (by decide) rfl rfl, (List.forall_mem_cons.mpr ⟨zq_RX5_239 X (zM_512 hw hm) (by decide) rfl rfl, (List.forall_mem_cons.mpr ⟨zq_RX5_239 X (zM_513 hw hm) (by decide) rfl rfl, (List.forall_mem_cons.mpr ⟨zq_RX5_239 X (zM_514 hw hm) (by decide) rfl rfl, (List.forall_mem_cons.mpr ⟨zq_RX5_239 X (zM_515 hw hm) (by decide) rfl rfl, (List.forall_mem_cons.mpr ⟨zq_RX5_239 X (zM_516 hw hm) (by decide) rfl rfl, (List.forall_mem_cons.mpr ⟨zq_RX5_239 X (zM_517 hw hm) (by decide) rfl rfl, (List.forall_mem_cons.mpr ⟨zq_RX5_239 X (zM_518 hw hm) (by decide) rfl rfl, (List.forall_mem_cons.mpr ⟨zq_RX5_239 X (zM_519 hw hm) (by decide) rfl rfl, (List.forall_mem_cons.mpr ⟨zq_RX5_239 X (zM_520 hw hm) (by decide) rfl rfl, (List.forall_mem_cons.mpr ⟨zq_RX5_239 X (zM_521 hw hm) (by decide) rfl rfl, (List.forall_mem_cons.mpr ⟨zq_RX5_239 X (zM_522 hw hm) (by decide) rfl rfl, (List.forall_mem_cons.mpr ⟨zq_RX5_239 X (zM_523 hw hm) (by decide) rfl rfl, (List.forall_mem_cons.mpr ⟨zq_RX5_239 X (zM_524 hw hm) (by decide) rfl rfl, (List.forall_mem_cons.mpr ⟨zq_RX5_239 X (zM_525 hw hm) (by decide) rfl rfl, (List.forall_mem_cons.mpr ⟨zq_RX5_239 X (zM_526 hw hm) (by decide) rfl rfl, (List.forall_mem_cons.mpr ⟨zq_RX5_239 X (zM_527 hw hm) (by decide) rfl rfl, (List.forall_mem_cons.mpr ⟨zq_RX5_239 X (zM_528 hw hm) (by decide) rfl rfl, (List.forall_mem_cons.mpr ⟨zq_RX5_239 X (zM_529 hw hm) (by decide) rfl rfl, (List.forall_mem_cons.mpr ⟨zq_RX5_239 X (zM_530 hw hm) (by decide) rfl rfl, (List.forall_mem_cons.mpr ⟨zq_RX5_239 X (zM_531 hw hm) (by decide) rfl rfl, (List.forall_mem_cons.mpr ⟨zq_RX5_239 X (zM_532 hw hm) (by decide) rfl rfl, (List.forall_mem_cons.mpr ⟨zq_RX5_239 X (zM_533 hw hm) (by decide) rfl rfl, (List.forall_mem_cons.mpr ⟨zq_RX5_239 X (zM_534 hw hm) (by decide) rfl rfl, (List.forall_mem_cons.mpr ⟨zq_RX5_239 X (zM_535 hw hm) (by decide) rfl rfl, (List.forall_mem_cons.mpr ⟨zq_RX5_250 X (zM_600 hw hm) (by decide) rfl rfl, (List.forall_mem_cons.mpr ⟨zq_RX5_355 X (zM_785 hw hm) (by decide) rfl rfl, nilz⟩)⟩)⟩)⟩)⟩)⟩)⟩)⟩)⟩)⟩)⟩)⟩)⟩)⟩)⟩)⟩)⟩)⟩)⟩)⟩)⟩)⟩)⟩)⟩)⟩)⟩)⟩)⟩)⟩)⟩)⟩)⟩)⟩)⟩)⟩)⟩)⟩)⟩)⟩)⟩)⟩)⟩)⟩)⟩)⟩)⟩)⟩)⟩)⟩)⟩)⟩)⟩)⟩)⟩)⟩)⟩)⟩)⟩)⟩)⟩)⟩)⟩)⟩)⟩)⟩)
