set_option maxRecDepth 100000 in
theorem zk_777_0 : zm1 zKS zuq zNS zm_777 4000 zt_777_0 = true := z1F (zdt_X5_refuseOaths) (by decide +kernel)
set_option maxRecDepth 100000 in
theorem zk_777_1 : zm1 zKS zuq zNS zm_777 4000 zt_777_1 = true := z1F (zdt_X5_refuseOaths) (by decide +kernel)
set_option maxRecDepth 100000 in
theorem zk_777_2 : zm1 zKS zuq zNS zm_777 4000 zt_777_2 = true := z1F (zdt_X5_refuseOaths) (by decide +kernel)
set_option maxRecDepth 100000 in
theorem zk_777_3 : zm1 zKS zuq zNS zm_777 4000 zt_777_3 = true := z1F (zdt_X5_refuseOaths) (by decide +kernel)
set_option maxRecDepth 100000 in
theorem zk_777_4 : zm1 zKS zuq zNS zm_777 4000 zt_777_4 = true := z1F (zdt_X5_refuseOaths) (by decide +kernel)
set_option maxRecDepth 100000 in
theorem zk_777_5 : zm1 zKS zuq zNS zm_777 4000 zt_777_5 = true := z1F (zdt_X5_refuseOaths) (by decide +kernel)
set_option maxRecDepth 100000 in
theorem zk_777_6 : zm1 zKS zuq zNS zm_777 4000 zt_777_6 = true := z1F (zdt_X5_refuseOaths) (by decide +kernel)
set_option maxRecDepth 100000 in
theorem zk_777_7 : zm1 zKS zuq zNS zm_777 4000 zt_777_7 = true := z1F (zdt_X5_refuseOaths) (by decide +kernel)
set_option maxRecDepth 100000 in
theorem zk_777_8 : zm1 zKS zuq zNS zm_777 4000 zt_777_8 = true := z1F (zdt_X5_refuseOaths) (by decide +kernel)
set_option maxRecDepth 100000 in
theorem zk_777_9 : zm1 zKS zuq zNS zm_777 4000 zt_777_9 = true := z1F (zdt_X5_refuseOaths) (by decide +kernel)
set_option maxRecDepth 100000 in
theorem zk_777_10 : zm1 zKS zuq zNS zm_777 4000 zt_777_10 = true := z1F (zdt_X5_refuseOaths) (by decide +kernel)
set_option maxRecDepth 100000 in
theorem zk_777_11 : zm1 zKS zuq zNS zm_777 4000 zt_777_11 = true := z1F (zdt_X5_refuseOaths) (by decide +kernel)
set_option maxRecDepth 100000 in
theorem zk_777_12 : zm1 zKS zuq zNS zm_777 4000 zt_777_12 = true := z1F (zdt_X5_refuseOaths) (by decide +kernel)
set_option maxRecDepth 100000 in
theorem zk_777_13 : zm1 zKS zuq zNS zm_777 4000 zt_777_13 = true := z1F (zdt_X5_refuseOaths) (by decide +kernel)
set_option maxRecDepth 100000 in
theorem zk_777_14 : zm1 zKS zuq zNS zm_777 4000 zt_777_14 = true := z1F (zdt_X5_refuseOaths) (by decide +kernel)
set_option maxRecDepth 100000 in
theorem zk_777_15 : zm1 zKS zuq zNS zm_777 4000 zt_777_15 = true := z1F (zdt_X5_refuseOaths) (by decide +kernel)
set_option maxRecDepth 100000 in
theorem zk_777_16 : zm1 zKS zuq zNS zm_777 4000 zt_777_16 = true := z1F (zdt_X5_refuseOaths) (by decide +kernel)
set_option maxRecDepth 100000 in
theorem zk_777_17 : zm1 zKS zuq zNS zm_777 4000 zt_777_17 = true := z1F (zdt_X5_refuseOaths) (by decide +kernel)
set_option maxRecDepth 100000 in
theorem zk_777_18 : zm1 zKS zuq zNS zm_777 4000 zt_777_18 = true := z1F (zdt_X5_refuseOaths) (by decide +kernel)
set_option maxRecDepth 100000 in
theorem zk_777_19 : zm1 zKS zuq zNS zm_777 4000 zt_777_19 = true := z1F (zdt_X5_refuseOaths) (by decide +kernel)
set_option maxRecDepth 100000 in
theorem zk_777_20 : zm1 zKS zuq zNS zm_777 4000 zt_777_20 = true := z1F (zdt_X5_refuseOaths) (by decide +kernel)
set_option maxRecDepth 100000 in
theorem zk_777_s : zm0 zKS zuq zNS zm_777 4000 = true := z0F (zdt_X5_refuseOaths) (by decide +kernel)
set_option maxRecDepth 100000 in
theorem zk_777 : zmeth zKS zuq zNS zm_777 4000 = true := zmeth_by zk_777_s (List.forall_mem_cons.mpr ⟨zk_777_0, (List.forall_mem_cons.mpr ⟨zk_777_1, (List.forall_mem_cons.mpr ⟨zk_777_2, (List.forall_mem_cons.mpr ⟨zk_777_3, (List.forall_mem_cons.mpr ⟨zk_777_4, (List.forall_mem_cons.mpr ⟨zk_777_5, (List.forall_mem_cons.mpr ⟨zk_777_6, (List.forall_mem_cons.mpr ⟨zk_777_7, (List.forall_mem_cons.mpr ⟨zk_777_8, (List.forall_mem_cons.mpr ⟨zk_777_9, (List.forall_mem_cons.mpr ⟨zk_777_10, (List.forall_mem_cons.mpr ⟨zk_777_11, (List.forall_mem_cons.mpr ⟨zk_777_12, (List.forall_mem_cons.mpr ⟨zk_777_13, (List.forall_mem_cons.mpr ⟨zk_777_14, (List.forall_mem_cons.mpr ⟨zk_777_15, (List.forall_mem_cons.mpr ⟨zk_777_16, (List.forall_mem_cons.mpr ⟨zk_777_17, (List.forall_mem_cons.mpr ⟨zk_777_18, (List.forall_mem_cons.mpr ⟨zk_777_19, (List.forall_mem_cons.mpr ⟨zk_777_20, nilz⟩)⟩)⟩)⟩)⟩)⟩)⟩)⟩)⟩)⟩)⟩)⟩)⟩)⟩)⟩)⟩)⟩)⟩)⟩)⟩)⟩)
set_option maxRecDepth 100000 in
theorem zM_777 {l : Launch} {D : va_G} {cI cZ cB cJ cR : ClassId} {ks ad : List Nat} {Psi : va_W → Prop} (hw : zworld ks ad zuq zNS Psi) (hm : zMan l D cI cZ cB cJ cR ks ad Psi) : zMet l D cI cZ cB cJ cR zKS ks ad Psi yX5_refuseOaths (.code yX5_refuseOaths cX5_refuseOaths 4 (some .int)) 2 zc_777 :=
  zmet_of hw 2 (by decide) 4000 zk_777 (by decide) (by decide) (fun X => ⟨zg_RX5 X, zp_RX5 X, zl1_RX5 X, zl2_RX5 X, nilz, (List.forall_mem_cons.mpr ⟨zq_RX5_87 X (zM_301 hw hm) (by decide) rfl rfl, (List.forall_mem_cons.mpr ⟨zq_RX5_179 X (zM_302 hw hm) (by decide) rfl rfl, (List.forall_mem_cons.mpr ⟨zq_RX5_239 X (zM_360 hw hm) (by decide) rfl rfl, (List.forall_mem_cons.mpr ⟨zq_RX5_239 X (zM_361 hw hm) (by decide) rfl rfl, (List.forall_mem_cons.mpr ⟨zq_RX5_239 X (zM_362 hw hm) (by decide) rfl rfl, (List.forall_mem_cons.mpr ⟨zq_RX5_239 X (zM_363 hw hm) (by decide) rfl rfl, (List.forall_mem_cons.mpr ⟨zq_RX5_239 X (zM_364 hw hm) (by decide) rfl rfl, (List.forall_mem_cons.mpr ⟨zq_RX5_239 X (zM_365 hw hm) (by decide) rfl rfl, (List.forall_mem_cons.mpr ⟨zq_RX5_239 X (zM_366 hw hm) (by decide) rfl rfl, (List.forall_mem_cons.mpr ⟨zq_RX5_239 X (zM_367 hw hm) (by decide) rfl rfl, (List.forall_mem_cons.mpr ⟨zq_RX5_239 X (zM_368 hw hm) (by decide) rfl rfl, (List.forall_mem_cons.mpr ⟨zq_RX5_239 X (zM_369 hw hm) (by decide) rfl rfl, (List.forall_mem_cons.mpr ⟨zq_RX5_239 X (zM_370 hw hm) (by decide) rfl rfl, (List.forall_mem_cons.mpr ⟨zq_RX5_239 X (zM_371 hw hm) (by decide) rfl rfl, (List.forall_mem_cons.mpr ⟨zq_RX5_239 X (zM_372 hw hm) (by decide) rfl rfl, (List.forall_mem_cons.mpr ⟨zq_RX5_239 X (zM_373 hw hm) (by decide) rfl rfl, (List.forall_mem_cons.mpr ⟨zq_RX5_239 X (zM_374 hw hm) (by decide) rfl rfl, (List.forall_mem_cons.mpr ⟨zq_RX5_239 X (zM_375 hw hm) (by decide) rfl rfl, (List.forall_mem_cons.mpr ⟨zq_RX5_239 X (zM_376 hw hm) (by decide) rfl rfl, (List.forall_mem_cons.mpr ⟨zq_RX5_239 X (zM_377 hw hm) (by decide) rfl rfl, (List.forall_mem_cons.mpr ⟨zq_RX5_239 X (zM_378 hw hm) (by decide) rfl rfl, (List.forall_mem_cons.mpr ⟨zq_RX5_239 X (zM_379 hw hm) (by decide) rfl rfl, (List.forall_mem_cons.mpr ⟨zq_RX5_239 X (zM_380 hw hm) (by decide) rfl rfl, (List.forall_mem_cons.mpr ⟨zq_RX5_239 X (zM_381 hw hm) (by decide) rfl rfl, (List.forall_mem_cons.mpr ⟨zq_RX5_239 X (zM_382 hw hm) (by decide) rfl rfl, (List.forall_mem_cons.mpr ⟨zq_RX5_239 X (zM_383 hw hm) (by decide) rfl rfl, (List.forall_mem_cons.mpr ⟨zq_RX5_239 X (zM_384 hw hm) (by decide) rfl rfl, (List.forall_mem_cons.mpr ⟨zq_RX5_239 X (zM_385 hw hm) (by decide) rfl rfl, (List.forall_mem_cons.mpr ⟨zq_RX5_239 X (zM_386 hw hm) (by decide) rfl rfl, (List.forall_mem_cons.mpr ⟨zq_RX5_239 X (zM_387 hw hm) (by decide) rfl rfl, (List.forall_mem_cons.mpr ⟨zq_RX5_239 X (zM_388 hw hm) (by decide) rfl rfl, (List.forall_mem_cons.mpr ⟨zq_RX5_239 X (zM_389 hw hm) (by decide) rfl rfl, (List.forall_mem_cons.mpr ⟨zq_RX5_239 X (zM_390 hw hm) (by decide) rfl rfl, (List.forall_mem_cons.mpr ⟨zq_RX5_239 X (zM_391 hw hm) (by decide) rfl rfl, (List.forall_mem_cons.mpr ⟨zq_RX5_239 X (zM_392 hw hm) (by decide) rfl rfl, (List.forall_mem_cons.mpr ⟨zq_RX5_239 X (zM_393 hw hm) (by decide) rfl rfl, (List.forall_mem_cons.mpr ⟨zq_RX5_239 X (zM_394 hw hm) (by decide) rfl rfl, (List.forall_mem_cons.mpr ⟨zq_RX5_239 X (zM_395 hw hm) (by decide) rfl rfl, (List.forall_mem_cons.mpr ⟨zq_RX5_239 X (zM_396 hw hm) (by decide) rfl rfl, (List.forall_mem_cons.mpr ⟨zq_RX5_239 X (zM_397 hw hm) (by decide) rfl rfl, (List.forall_mem_cons.mpr ⟨zq_RX5_239 X (zM_398 hw hm) (by decide) rfl rfl, (List.forall_mem_cons.mpr ⟨zq_RX5_239 X (zM_399 hw hm) (by decide) rfl rfl, (List.forall_mem_cons.mpr ⟨zq_RX5_239 X (zM_400 hw hm) (by decide) rfl rfl, (List.forall_mem_cons.mpr ⟨zq_RX5_239 X (zM_401 hw hm) (by decide) rfl rfl, (List.forall_mem_cons.mpr ⟨zq_RX5_239 X (zM_402 hw hm) (by decide) rfl rfl, (List.forall_mem_cons.mpr ⟨zq_RX5_239 X (zM_403 hw hm) (by decide) rfl rfl, (List.forall_mem_cons.mpr ⟨zq_RX5_239 X (zM_404 hw hm) (by decide) rfl rfl, (List.forall_mem_cons.mpr ⟨zq_RX5_239 X (zM_405 hw hm) (by decide) rfl rfl, (List.forall_mem_cons.mpr ⟨zq_RX5_239 X (zM_406 hw hm) (by decide) rfl rfl, (List.forall_mem_cons.mpr ⟨zq_RX5_239 X (zM_407 hw hm) (by decide) rfl rfl, (List.forall_mem_cons.mpr ⟨zq_RX5_239 X (zM_408 hw hm) (by decide) rfl rfl, (List.forall_mem_cons.mpr ⟨zq_RX5_239 X (zM_409 hw hm) (by decide) rfl rfl, (List.forall_mem_cons.mpr ⟨zq_RX5_239 X (zM_410 hw hm) (by decide) rfl rfl, (List.forall_mem_cons.mpr ⟨zq_RX5_239 X (zM_411 hw hm) (by decide) rfl rfl, (List.forall_mem_cons.mpr ⟨zq_RX5_239 X (zM_412 hw hm) (by decide) rfl rfl, (List.forall_mem_cons.mpr ⟨zq_RX5_239 X (zM_413 hw hm) (by decide) rfl rfl, (List.forall_mem_cons.mpr ⟨zq_RX5_239 X (zM_414 hw hm) (by decide) rfl rfl, (List.forall_mem_cons.mpr ⟨zq_RX5_239 X (zM_415 hw hm) (by decide) rfl rfl, (List.forall_mem_cons.mpr ⟨zq_RX5_239 X (zM_416 hw hm) (by decide) rfl rfl, (List.forall_mem_cons.mpr ⟨zq_RX5_239 X (zM_417 hw hm) (by decide) rfl rfl, (List.forall_mem_cons.mpr ⟨zq_RX5_239 X (zM_418 hw hm) (by decide) rfl rfl, (List.forall_mem_cons.mpr ⟨zq_RX5_239 X (zM_419 hw hm) (by decide) rfl rfl, (List.forall_mem_cons.mpr ⟨zq_RX5_250 X (zM_601 hw hm) (by decide) rfl rfl, (List.forall_mem_cons.mpr ⟨zq_RX5_355 X (zM_785 hw hm) (by decide) rfl rfl, nilz⟩)⟩)⟩)⟩)⟩)⟩)⟩)⟩)⟩)⟩)⟩)⟩)⟩)⟩)⟩)⟩)⟩)⟩)⟩)⟩)⟩)⟩)⟩)⟩)⟩)⟩)⟩)⟩)⟩)⟩)⟩)⟩)⟩)⟩)⟩)⟩)⟩)⟩)⟩)⟩)⟩)⟩)⟩)⟩)⟩)⟩)⟩)⟩)⟩)⟩)⟩)⟩)⟩)⟩)⟩)⟩)⟩)⟩)⟩)⟩)⟩)⟩)⟩)⟩)⟩)
set_option maxRecDepth 100000 in
theorem zk_778_0 : zm1 zKS zuq zNS zm_778 4000 zt_778_0 = true := z1F (zdt_X5_refuseOaths) (by decide +kernel)
set_option maxRecDepth 100000 in
theorem zk_778_1 : zm1 zKS zuq zNS zm_778 4000 zt_778_1 = true := z1F (zdt_X5_refuseOaths) (by decide +kernel)
set_option maxRecDepth 100000 in
theorem zk_778_2 : zm1 zKS zuq zNS zm_778 4000 zt_778_2 = true := z1F (zdt_X5_refuseOaths) (by decide +kernel)
set_option maxRecDepth 100000 in
theorem zk_778_3 : zm1 zKS zuq zNS zm_778 4000 zt_778_3 = true := z1F (zdt_X5_refuseOaths) (by decide +kernel)
set_option maxRecDepth 100000 in
theorem zk_778_4 : zm1 zKS zuq zNS zm_778 4000 zt_778_4 = true := z1F (zdt_X5_refuseOaths) (by decide +kernel)
set_option maxRecDepth 100000 in
theorem zk_778_5 : zm1 zKS zuq zNS zm_778 4000 zt_778_5 = true := z1F (zdt_X5_refuseOaths) (by decide +kernel)
set_option maxRecDepth 100000 in
theorem zk_778_6 : zm1 zKS zuq zNS zm_778 4000 zt_778_6 = true := z1F (zdt_X5_refuseOaths) (by decide +kernel)
set_option maxRecDepth 100000 in
theorem zk_778_7 : zm1 zKS zuq zNS zm_778 4000 zt_778_7 = true := z1F (zdt_X5_refuseOaths) (by decide +kernel)
set_option maxRecDepth 100000 in
theorem zk_778_8 : zm1 zKS zuq zNS zm_778 4000 zt_778_8 = true := z1F (zdt_X5_refuseOaths) (by decide +kernel)
set_option maxRecDepth 100000 in
theorem zk_778_9 : zm1 zKS zuq zNS zm_778 4000 zt_778_9 = true := z1F (zdt_X5_refuseOaths) (by decide +kernel)
set_option maxRecDepth 100000 in
theorem zk_778_10 : zm1 zKS zuq zNS zm_778 4000 zt_778_10 = true := z1F (zdt_X5_refuseOaths) (by decide +kernel)
set_option maxRecDepth 100000 in
theorem zk_778_11 : zm1 zKS zuq zNS zm_778 4000 zt_778_11 = true := z1F (zdt_X5_refuseOaths) (by decide +kernel)
set_option maxRecDepth 100000 in
theorem zk_778_12 : zm1 zKS zuq zNS zm_778 4000 zt_778_12 = true := z1F (zdt_X5_refuseOaths) (by decide +kernel)
set_option maxRecDepth 100000 in
theorem zk_778_13 : zm1 zKS zuq zNS zm_778 4000 zt_778_13 = true := z1F (zdt_X5_refuseOaths) (by decide +kernel)
set_option maxRecDepth 100000 in
theorem zk_778_14 : zm1 zKS zuq zNS zm_778 4000 zt_778_14 = true := z1F (zdt_X5_refuseOaths) (by decide +kernel)
set_option maxRecDepth 100000 in
theorem zk_778_15 : zm1 zKS zuq zNS zm_778 4000 zt_778_15 = true := z1F (zdt_X5_refuseOaths) (by decide +kernel)
set_option maxRecDepth 100000 in
theorem zk_778_16 : zm1 zKS zuq zNS zm_778 4000 zt_778_16 = true := z1F (zdt_X5_refuseOaths) (by decide +kernel)
set_option maxRecDepth 100000 in
theorem zk_778_17 : zm1 zKS zuq zNS zm_778 4000 zt_778_17 = true := z1F (zdt_X5_refuseOaths) (by decide +kernel)
set_option maxRecDepth 100000 in
theorem zk_778_18 : zm1 zKS zuq zNS zm_778 4000 zt_778_18 = true := z1F (zdt_X5_refuseOaths) (by decide +kernel)
set_option maxRecDepth 100000 in
theorem zk_778_19 : zm1 zKS zuq zNS zm_778 4000 zt_778_19 = true := z1F (zdt_X5_refuseOaths) (by decide +kernel)
set_option maxRecDepth 100000 in
theorem zk_778_20 : zm1 zKS zuq zNS zm_778 4000 zt_778_20 = true := z1F (zdt_X5_refuseOaths) (by decide +kernel)
set_option maxRecDepth 100000 in
theorem zk_778_s : zm0 zKS zuq zNS zm_778 4000 = true := z0F (zdt_X5_refuseOaths) (by decide +kernel)
set_option maxRecDepth 100000 in
theorem zk_778 : zmeth zKS zuq zNS zm_778 4000 = true := zmeth_by zk_778_s (List.forall_mem_cons.mpr ⟨zk_778_0, (List.forall_mem_cons.mpr ⟨zk_778_1, (List.forall_mem_cons.mpr ⟨zk_778_2, (List.forall_mem_cons.mpr ⟨zk_778_3, (List.forall_mem_cons.mpr ⟨zk_778_4, (List.forall_mem_cons.mpr ⟨zk_778_5, (List.forall_mem_cons.mpr ⟨zk_778_6, (List.forall_mem_cons.mpr ⟨zk_778_7, (List.forall_mem_cons.mpr ⟨zk_778_8, (List.forall_mem_cons.mpr ⟨zk_778_9, (List.forall_mem_cons.mpr ⟨zk_778_10, (List.forall_mem_cons.mpr ⟨zk_778_11, (List.forall_mem_cons.mpr ⟨zk_778_12, (List.forall_mem_cons.mpr ⟨zk_778_13, (List.forall_mem_cons.mpr ⟨zk_778_14, (List.forall_mem_cons.mpr ⟨zk_778_15, (List.forall_mem_cons.mpr ⟨zk_778_16, (List.forall_mem_cons.mpr ⟨zk_778_17, (List.forall_mem_cons.mpr ⟨zk_778_18, (List.forall_mem_cons.mpr ⟨zk_778_19, (List.forall_mem_cons.mpr ⟨zk_778_20, nilz⟩)⟩)⟩)⟩)⟩)⟩)⟩)⟩)⟩)⟩)⟩)⟩)⟩)⟩)⟩)⟩)⟩)⟩)⟩)⟩)⟩)
set_option maxRecDepth 100000 in
theorem zM_778 {l : Launch} {D : va_G} {cI cZ cB cJ cR : ClassId} {ks ad : List Nat} {Psi : va_W → Prop} (hw : zworld ks ad zuq zNS Psi) (hm : zMan l D cI cZ cB cJ cR ks ad Psi) : zMet l D cI cZ cB cJ cR zKS ks ad Psi yX5_refuseOaths (.code yX5_refuseOaths cX5_refuseOaths 4 (some .int)) 2 zc_778 :=
  zmet_of hw 2 (by decide) 4000 zk_778 (by decide) (by decide) (fun X => ⟨zg_RX5 X, zp_RX5 X, zl1_RX5 X, zl2_RX5 X, nilz, (List.forall_mem_cons.mpr ⟨zq_RX5_87 X (zM_301 hw hm) (by decide) rfl rfl, (List.forall_mem_cons.mpr ⟨zq_RX5_179 X (zM_302 hw hm) (by decide) rfl rfl, (List.forall_mem_cons.mpr ⟨zq_RX5_239 X (zM_420 hw hm) (by decide) rfl rfl, (List.forall_mem_cons.mpr ⟨zq_RX5_239 X (zM_421 hw hm) (by decide) rfl rfl, (List.forall_mem_cons.mpr ⟨zq_RX5_239 X (zM_422 hw hm) (by decide) rfl rfl, (List.forall_mem_cons.mpr ⟨zq_RX5_239 X (zM_423 hw hm) (by decide) rfl rfl, (List.forall_mem_cons.mpr ⟨zq_RX5_239 X (zM_424 hw hm) (by decide) rfl rfl, (List.forall_mem_cons.mpr ⟨zq_RX5_239 X (zM_425 hw hm) (by decide) rfl rfl, (List.forall_mem_cons.mpr ⟨zq_RX5_239 X (zM_426 hw hm) (by decide) rfl rfl, (List.forall_mem_cons.mpr ⟨zq_RX5_239 X (zM_427 hw hm) (by decide) rfl rfl, (List.forall_mem_cons.mpr ⟨zq_RX5_239 X (zM_428 hw hm) (by decide) rfl rfl, (List.forall_mem_cons.mpr ⟨zq_RX5_239 X (zM_429 hw hm) (by decide) rfl rfl, (List.forall_mem_cons.mpr ⟨zq_RX5_239 X (zM_430 hw hm) (by decide) rfl rfl, (List.forall_mem_cons.mpr ⟨zq_RX5_239 X (zM_431 hw hm) (by decide) rfl rfl, (List.forall_mem_cons.mpr ⟨zq_RX5_239 X (zM_432 hw hm) (by decide) rfl rfl, (List.forall_mem_cons.mpr ⟨zq_RX5_239 X (zM_433 hw hm) (by decide) rfl rfl, (List.forall_mem_cons.mpr ⟨zq_RX5_239 X (zM_434 hw hm) (by decide) rfl rfl, (List.forall_mem_cons.mpr ⟨zq_RX5_239 X (zM_435 hw hm) (by decide) rfl rfl, (List.forall_mem_cons.mpr ⟨zq_RX5_239 X (zM_436 hw hm) (by decide) rfl rfl, (List.forall_mem_cons.mpr ⟨zq_RX5_239 X (zM_437 hw hm) (by decide) rfl rfl, (List.forall_mem_cons.mpr ⟨zq_RX5_239 X (zM_438 hw hm) (by decide) rfl rfl, (List.forall_mem_cons.mpr ⟨zq_RX5_239 X (zM_439 hw hm) (by decide) rfl rfl, (List.forall_mem_cons.mpr ⟨zq_RX5_239 X (zM_440 hw hm) (by decide) rfl rfl, (List.forall_mem_cons.mpr ⟨zq_RX5_239 X (zM_441 hw hm) (by decide) rfl rfl, (List.forall_mem_cons.mpr ⟨zq_RX5_239 X (zM_442 hw hm) (by decide) rfl rfl, (List.forall_mem_cons.mpr ⟨zq_RX5_239 X (zM_443 hw hm) (by decide) rfl rfl, (List.forall_mem_cons.mpr ⟨zq_RX5_239 X (zM_444 hw hm) (by decide) rfl rfl, (List.forall_mem_cons.mpr ⟨zq_RX5_239 X (zM_445 hw hm) (by decide) rfl rfl, (List.forall_mem_cons.mpr ⟨zq_RX5_239 X (zM_446 hw hm) (by decide) rfl rfl, (List.forall_mem_cons.mpr ⟨zq_RX5_239 X (zM_447 hw hm) (by decide) rfl rfl, (List.forall_mem_cons.mpr ⟨zq_RX5_239 X (zM_448 hw hm) (by decide) rfl rfl, (List.forall_mem_cons.mpr ⟨zq_RX5_239 X (zM_449 hw hm) (by decide) rfl rfl, (List.forall_mem_cons.mpr ⟨zq_RX5_239 X (zM_450 hw hm) (by decide) rfl rfl, (List.forall_mem_cons.mpr ⟨zq_RX5_239 X (zM_451 hw hm) (by decide) rfl rfl, (List.forall_mem_cons.mpr ⟨zq_RX5_239 X (zM_452 hw hm) (by decide) rfl rfl, (List.forall_mem_cons.mpr ⟨zq_RX5_239 X (zM_453 hw hm) (by decide) rfl rfl, (List.forall_mem_cons.mpr ⟨zq_RX5_239 X (zM_454 hw hm) (by decide) rfl rfl, (List.forall_mem_cons.mpr ⟨zq_RX5_239 X (zM_455 hw hm) (by decide) rfl rfl, (List.forall_mem_cons.mpr ⟨zq_RX5_239 X (zM_456 hw hm) (by decide) rfl rfl, (List.forall_mem_cons.mpr ⟨zq_RX5_239 X (zM_457 hw hm) (by decide) rfl rfl, (List.forall_mem_cons.mpr ⟨zq_RX5_239 X (zM_458 hw hm) (by decide) rfl rfl, (List.forall_mem_cons.mpr ⟨zq_RX5_239 X (zM_459 hw hm) (by decide) rfl rfl, (List.forall_mem_cons.mpr ⟨zq_RX5_239 X (zM_460 hw hm) (by decide) rfl rfl, (List.forall_mem_cons.mpr ⟨zq_RX5_239 X (zM_461 hw hm) (by decide) rfl rfl, (List.forall_mem_cons.mpr ⟨zq_RX5_239 X (zM_462 hw hm) (by decide) rfl rfl, (List.forall_mem_cons.mpr ⟨zq_RX5_239 X (zM_463 hw hm) (by decide) rfl rfl, (List.forall_mem_cons.mpr ⟨zq_RX5_239 X (zM_464 hw hm) (by decide) rfl rfl, (List.forall_mem_cons.mpr ⟨zq_RX5_239 X (zM_465 hw hm) (by decide) rfl rfl, (List.forall_mem_cons.mpr ⟨zq_RX5_239 X (zM_466 hw hm) (by decide) rfl rfl, (List.forall_mem_cons.mpr ⟨zq_RX5_239 X (zM_467 hw hm) (by decide) rfl rfl, (List.forall_mem_cons.mpr ⟨zq_RX5_239 X (zM_468 hw hm) (by decide) rfl rfl, (List.forall_mem_cons.mpr ⟨zq_RX5_239 X (zM_469 hw hm) (by decide) rfl rfl, (List.forall_mem_cons.mpr ⟨zq_RX5_239 X (zM_470 hw hm) (by decide) rfl rfl, (List.forall_mem_cons.mpr ⟨zq_RX5_239 X (zM_471 hw hm) (by decide) rfl rfl, (List.forall_mem_cons.mpr ⟨zq_RX5_239 X (zM_472 hw hm) (by decide) rfl rfl, (List.forall_mem_cons.mpr ⟨zq_RX5_239 X (zM_473 hw hm) (by decide) rfl rfl, (List.forall_mem_cons.mpr ⟨zq_RX5_239 X (zM_474 hw hm) (by decide) rfl rfl, (List.forall_mem_cons.mpr ⟨zq_RX5_239 X (zM_475 hw hm) (by decide) rfl rfl, (List.forall_mem_cons.mpr ⟨zq_RX5_239 X (zM_476 hw hm) (by decide) rfl rfl, (List.forall_mem_cons.mpr ⟨zq_RX5_239 X (zM_477 hw hm) (by decide) rfl rfl, (List.forall_mem_cons.mpr ⟨zq_RX5_239 X (zM_478 hw hm) (by decide) rfl rfl, (List.forall_mem_cons.mpr ⟨zq_RX5_239 X (zM_479 hw hm) (by decide) rfl rfl, (List.forall_mem_cons.mpr ⟨zq_RX5_250 X (zM_603 hw hm) (by decide) rfl rfl, (List.forall_mem_cons.mpr ⟨zq_RX5_355 X (zM_787 hw hm) (by decide) rfl rfl, nilz⟩)⟩)⟩)⟩)⟩)⟩)⟩)⟩)⟩)⟩)⟩)⟩)⟩)⟩)⟩)⟩)⟩)⟩)⟩)⟩)⟩)⟩)⟩)⟩)⟩)⟩)⟩)⟩)⟩)⟩)⟩)⟩)⟩)⟩)⟩)⟩)⟩)⟩)⟩)⟩)⟩)⟩)⟩)⟩)⟩)⟩)⟩)⟩)⟩)⟩)⟩)⟩)⟩)⟩)⟩)⟩)⟩)⟩)⟩)⟩)⟩)⟩)⟩)⟩)⟩)
set_option maxRecDepth 100000 in
theorem zk_779_0 : zm1 zKS zuq zNS zm_779 4000 zt_779_0 = true := z1F (zdt_X5_refuseOaths) (by decide +kernel)
set_option maxRecDepth 100000 in
theorem zk_779_1 : zm1 zKS zuq zNS zm_779 4000 zt_779_1 = true := z1F (zdt_X5_refuseOaths) (by decide +kernel)
set_option maxRecDepth 100000 in
theorem zk_779_2 : zm1 zKS zuq zNS zm_779 4000 zt_779_2 = true := z1F (zdt_X5_refuseOaths) (by decide +kernel)
set_option maxRecDepth 100000 in
theorem zk_779_3 : zm1 zKS zuq zNS zm_779 4000 zt_779_3 = true := z1F (zdt_X5_refuseOaths) (by decide +kernel)
set_option maxRecDepth 100000 in
theorem zk_779_4 : zm1 zKS zuq zNS zm_779 4000 zt_779_4 = true := z1F (zdt_X5_refuseOaths) (by decide +kernel)
set_option maxRecDepth 100000 in
theorem zk_779_5 : zm1 zKS zuq zNS zm_779 4000 zt_779_5 = true := z1F (zdt_X5_refuseOaths) (by decide +kernel)
set_option maxRecDepth 100000 in
theorem zk_779_6 : zm1 zKS zuq zNS zm_779 4000 zt_779_6 = true := z1F (zdt_X5_refuseOaths) (by decide +kernel)
set_option maxRecDepth 100000 in
theorem zk_779_7 : zm1 zKS zuq zNS zm_779 4000 zt_779_7 = true := z1F (zdt_X5_refuseOaths) (by decide +kernel)
set_option maxRecDepth 100000 in
theorem zk_779_8 : zm1 zKS zuq zNS zm_779 4000 zt_779_8 = true := z1F (zdt_X5_refuseOaths) (by decide +kernel)
set_option maxRecDepth 100000 in
theorem zk_779_9 : zm1 zKS zuq zNS zm_779 4000 zt_779_9 = true := z1F (zdt_X5_refuseOaths) (by decide +kernel)
set_option maxRecDepth 100000 in
theorem zk_779_10 : zm1 zKS zuq zNS zm_779 4000 zt_779_10 = true := z1F (zdt_X5_refuseOaths) (by decide +kernel)
set_option maxRecDepth 100000 in
theorem zk_779_11 : zm1 zKS zuq zNS zm_779 4000 zt_779_11 = true := z1F (zdt_X5_refuseOaths) (by decide +kernel)
set_option maxRecDepth 100000 in
theorem zk_779_12 : zm1 zKS zuq zNS zm_779 4000 zt_779_12 = true := z1F (zdt_X5_refuseOaths) (by decide +kernel)
set_option maxRecDepth 100000 in
theorem zk_779_13 : zm1 zKS zuq zNS zm_779 4000 zt_779_13 = true := z1F (zdt_X5_refuseOaths) (by decide +kernel)
set_option maxRecDepth 100000 in
theorem zk_779_14 : zm1 zKS zuq zNS zm_779 4000 zt_779_14 = true := z1F (zdt_X5_refuseOaths) (by decide +kernel)
set_option maxRecDepth 100000 in
theorem zk_779_15 : zm1 zKS zuq zNS zm_779 4000 zt_779_15 = true := z1F (zdt_X5_refuseOaths) (by decide +kernel)
set_option maxRecDepth 100000 in
theorem zk_779_16 : zm1 zKS zuq zNS zm_779 4000 zt_779_16 = true := z1F (zdt_X5_refuseOaths) (by decide +kernel)
set_option maxRecDepth 100000 in
theorem zk_779_17 : zm1 zKS zuq zNS zm_779 4000 zt_779_17 = true := z1F (zdt_X5_refuseOaths) (by decide +kernel)
set_option maxRecDepth 100000 in
theorem zk_779_18 : zm1 zKS zuq zNS zm_779 4000 zt_779_18 = true := z1F (zdt_X5_refuseOaths) (by decide +kernel)
set_option maxRecDepth 100000 in
theorem zk_779_19 : zm1 zKS zuq zNS zm_779 4000 zt_779_19 = true := z1F (zdt_X5_refuseOaths) (by decide +kernel)
set_option maxRecDepth 100000 in
theorem zk_779_20 : zm1 zKS zuq zNS zm_779 4000 zt_779_20 = true := z1F (zdt_X5_refuseOaths) (by decide +kernel)
set_option maxRecDepth 100000 in
theorem zk_779_s : zm0 zKS zuq zNS zm_779 4000 = true := z0F (zdt_X5_refuseOaths) (by decide +kernel)
set_option maxRecDepth 100000 in
theorem zk_779 : zmeth zKS zuq zNS zm_779 4000 = true := zmeth_by zk_779_s (List.forall_mem_cons.mpr ⟨zk_779_0, (List.forall_mem_cons.mpr ⟨zk_779_1, (List.forall_mem_cons.mpr ⟨zk_779_2, (List.forall_mem_cons.mpr ⟨zk_779_3, (List.forall_mem_cons.mpr ⟨zk_779_4, (List.forall_mem_cons.mpr ⟨zk_779_5, (List.forall_mem_cons.mpr ⟨zk_779_6, (List.forall_mem_cons.mpr ⟨zk_779_7, (List.forall_mem_cons.mpr ⟨zk_779_8, (List.forall_mem_cons.mpr ⟨zk_779_9, (List.forall_mem_cons.mpr ⟨zk_779_10, (List.forall_mem_cons.mpr ⟨zk_779_11, (List.forall_mem_cons.mpr ⟨zk_779_12, (List.forall_mem_cons.mpr ⟨zk_779_13, (List.forall_mem_cons.mpr ⟨zk_779_14, (List.forall_mem_cons.mpr ⟨zk_779_15, (List.forall_mem_cons.mpr ⟨zk_779_16, (List.forall_mem_cons.mpr ⟨zk_779_17, (List.forall_mem_cons.mpr ⟨zk_779_18, (List.forall_mem_cons.mpr ⟨zk_779_19, (List.forall_mem_cons.mpr ⟨zk_779_20, nilz⟩)⟩)⟩)⟩)⟩)⟩)⟩)⟩)⟩)⟩)⟩)⟩)⟩)⟩)⟩)⟩)⟩)⟩)⟩)⟩)⟩)
set_option maxRecDepth 100000 in
theorem zM_779 {l : Launch} {D : va_G} {cI cZ cB cJ cR : ClassId} {ks ad : List Nat} {Psi : va_W → Prop} (hw : zworld ks ad zuq zNS Psi) (hm : zMan l D cI cZ cB cJ cR ks ad Psi) : zMet l D cI cZ cB cJ cR zKS ks ad Psi yX5_refuseOaths (.code yX5_refuseOaths cX5_refuseOaths 4 (some .int)) 2 zc_779 :=
  zmet_of hw 2 (by decide) 4000 zk_779 (by decide) (by decide) (fun X => ⟨zg_RX5 X, zp_RX5 X, zl1_RX5 X, zl2_RX5 X, nilz, (List.forall_mem_cons.mpr ⟨zq_RX5_87 X (zM_301 hw hm) (by decide) rfl rfl, (List.forall_mem_cons.mpr ⟨zq_RX5_179 X (zM_302 hw hm) (by decide) rfl rfl, (List.forall_mem_cons.mpr ⟨zq_RX5_239 X (zM_480 hw hm) (by decide) rfl rfl, (List.forall_mem_cons.mpr ⟨zq_RX5_239 X (zM_481 hw hm) (by decide) rfl rfl, (List.forall_mem_cons.mpr ⟨zq_RX5_239 X (zM_482 hw hm) (by decide) rfl rfl, (List.forall_mem_cons.mpr ⟨zq_RX5_239 X (zM_483 hw hm) (by decide) rfl rfl, (List.forall_mem_cons.mpr ⟨zq_RX5_239 X (zM_484 hw hm) (by decide) rfl rfl, (List.forall_mem_cons.mpr ⟨zq_RX5_239 X (zM_485 hw hm) (by decide) rfl rfl, (List.forall_mem_cons.mpr ⟨zq_RX5_239 X (zM_486 hw hm) (by decide) rfl rfl, (List.forall_mem_cons.mpr ⟨zq_RX5_239 X (zM_487 hw hm) (by decide) rfl rfl, (List.forall_mem_cons.mpr ⟨zq_RX5_239 X (zM_488 hw hm) (by decide) rfl rfl, (List.forall_mem_cons.mpr ⟨zq_RX5_239 X (zM_489 hw hm) (by decide) rfl rfl, (List.forall_mem_cons.mpr ⟨zq_RX5_239 X (zM_490 hw hm) (by decide) rfl rfl, (List.forall_mem_cons.mpr ⟨zq_RX5_239 X (zM_491 hw hm) (by decide) rfl rfl, (List.forall_mem_cons.mpr ⟨zq_RX5_239 X (zM_492 hw hm) (by decide) rfl rfl, (List.forall_mem_cons.mpr ⟨zq_RX5_239 X (zM_493 hw hm) (by decide) rfl rfl, (List.forall_mem_cons.mpr ⟨zq_RX5_239 X (zM_494 hw hm) (by decide) rfl rfl, (List.forall_mem_cons.mpr ⟨zq_RX5_239 X (zM_495 hw hm) (by decide) rfl rfl, (List.forall_mem_cons.mpr ⟨zq_RX5_239 X (zM_496 hw hm) (by decide) rfl rfl, (List.forall_mem_cons.mpr ⟨zq_RX5_239 X (zM_497 hw hm) (by decide) rfl rfl, (List.forall_mem_cons.mpr ⟨zq_RX5_239 X (zM_498 hw hm) (by decide) rfl rfl, (List.forall_mem_cons.mpr ⟨zq_RX5_239 X (zM_499 hw hm) (by decide) rfl rfl, (List.forall_mem_cons.mpr ⟨zq_RX5_239 X (zM_500 hw hm) (by decide) rfl rfl, (List.forall_mem_cons.mpr ⟨zq_RX5_239 X (zM_501 hw hm) (by decide) rfl rfl, (List.forall_mem_cons.mpr ⟨zq_RX5_239 X (zM_502 hw hm) (by decide) rfl rfl, (List.forall_mem_cons.mpr ⟨zq_RX5_239 X (zM_503 hw hm) (by decide) rfl rfl, (List.forall_mem_cons.mpr ⟨zq_RX5_239 X (zM_504 hw hm) (by decide) rfl rfl, (List.forall_mem_cons.mpr ⟨zq_RX5_239 X (zM_505 hw hm) (by decide) rfl rfl, (List.forall_mem_cons.mpr ⟨zq_RX5_239 X (zM_506 hw hm) (by decide) rfl rfl, (List.forall_mem_cons.mpr ⟨zq_RX5_239 X (zM_507 hw hm) (by decide) rfl rfl, (List.forall_mem_cons.mpr ⟨zq_RX5_239 X (zM_508 hw hm) (by decide) rfl rfl, (List.forall_mem_cons.mpr ⟨zq_RX5_239 X (zM_509 hw hm) (by decide) rfl rfl, (List.forall_mem_cons.mpr ⟨zq_RX5_239 X (zM_510 hw hm) (by decide) rfl rfl, (List.forall_mem_cons.mpr ⟨zq_RX5_239 X (zM_511 hw hm) (by decide) rfl rfl, (List.forall_mem_cons.mpr ⟨zq_RX5_239 X (zM_512 hw hm) (by decide) rfl rfl, (List.forall_mem_cons.mpr ⟨zq_RX5_239 X (zM_513 hw hm) (by decide) rfl rfl, (List.forall_mem_cons.mpr ⟨zq_RX5_239 X (zM_514 hw hm) (by decide) rfl rfl, (List.forall_mem_cons.mpr ⟨zq_RX5_239 X (zM_515 hw hm) (by decide) rfl rfl, (List.forall_mem_cons.mpr ⟨zq_RX5_239 X (zM_516 hw hm) (by decide) rfl rfl, (List.forall_mem_cons.mpr ⟨zq_RX5_239 X (zM_517 hw hm) (by decide) rfl rfl, (List.forall_mem_cons.mpr ⟨zq_RX5_239 X (zM_518 hw hm) (by decide) rfl rfl, (List.forall_mem_cons.mpr ⟨zq_RX5_239 X (zM_519 hw hm) (by decide) rfl rfl, (List.forall_mem_cons.mpr ⟨zq_RX5_239 X (zM_520 hw hm) (by decide) rfl rfl, (List.forall_mem_cons.mpr ⟨zq_RX5_239 X (zM_521 hw hm) (by decide) rfl rfl, (List.forall_mem_cons.mpr ⟨zq_RX5_239 X (zM_522 hw hm) (by decide) rfl rfl, (List.forall_mem_cons.mpr ⟨zq_RX5_239 X (zM_523 hw hm) (by decide) rfl rfl, (List.forall_mem_cons.mpr ⟨zq_RX5_239 X (zM_524 hw hm) (by decide) rfl rfl, (List.forall_mem_cons.mpr ⟨zq_RX5_239 X (zM_525 hw hm) (by decide) rfl rfl, (List.forall_mem_cons.mpr ⟨zq_RX5_239 X (zM_526 hw hm) (by decide) rfl rfl, (List.forall_mem_cons.mpr ⟨zq_RX5_239 X (zM_527 hw hm) (by decide) rfl rfl, (List.forall_mem_cons.mpr ⟨zq_RX5_239 X (zM_528 hw hm) (by decide) rfl rfl, (List.forall_mem_cons.mpr ⟨zq_RX5_239 X (zM_529 hw hm) (by decide) rfl rfl, (List.forall_mem_cons.mpr ⟨zq_RX5_239 X (zM_530 hw hm) (by decide) rfl rfl, (List.forall_mem_cons.mpr ⟨zq_RX5_239 X (zM_531 hw hm) (by decide) rfl rfl, (List.forall_mem_cons.mpr ⟨zq_RX5_239 X (zM_532 hw hm) (by decide) rfl rfl, (List.forall_mem_cons.mpr ⟨zq_RX5_239 X (zM_533 hw hm) (by decide) rfl rfl, (List.forall_mem_cons.mpr ⟨zq_RX5_239 X (zM_534 hw hm) (by decide) rfl rfl, (List.forall_mem_cons.mpr ⟨zq_RX5_239 X (zM_535 hw hm) (by decide) rfl rfl, (List.forall_mem_cons.mpr ⟨zq_RX5_239 X (zM_536 hw hm) (by decide) rfl rfl, (List.forall_mem_cons.mpr ⟨zq_RX5_239 X (zM_537 hw hm) (by decide) rfl rfl, (List.forall_mem_cons.mpr ⟨zq_RX5_239 X (zM_538 hw hm) (by decide) rfl rfl, (List.forall_mem_cons.mpr ⟨zq_RX5_239 X (zM_539 hw hm) (by decide) rfl rfl, (List.forall_mem_cons.mpr ⟨zq_RX5_250 X (zM_604 hw hm) (by decide) rfl rfl, (List.forall_mem_cons.mpr ⟨zq_RX5_355 X (zM_789 hw hm) (by decide) rfl rfl, nilz⟩)⟩)⟩)⟩)⟩)⟩)⟩)⟩)⟩)⟩)⟩)⟩)⟩)⟩)⟩)⟩)⟩)⟩)⟩)⟩)⟩)⟩)⟩)⟩)⟩)⟩)⟩)⟩)⟩)⟩)⟩)⟩)⟩)⟩)⟩)⟩)⟩)⟩)⟩)⟩)⟩)⟩)⟩)⟩)⟩)⟩)⟩)⟩)⟩)⟩)⟩)⟩)⟩)⟩)⟩)⟩)⟩)⟩)⟩)⟩)⟩)⟩)⟩)⟩)⟩)
