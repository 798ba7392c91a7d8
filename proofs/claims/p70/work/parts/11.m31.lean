set_option maxRecDepth 100000 in
theorem zk_810_0 : zm1 zKS zuq zNS zm_810 4000 zt_810_0 = true := z1F (zdt_X5_suspects) (by decide +kernel)
set_option maxRecDepth 100000 in
theorem zk_810_1 : zm1 zKS zuq zNS zm_810 4000 zt_810_1 = true := z1F (zdt_X5_suspects) (by decide +kernel)
set_option maxRecDepth 100000 in
theorem zk_810_2 : zm1 zKS zuq zNS zm_810 4000 zt_810_2 = true := z1F (zdt_X5_suspects) (by decide +kernel)
set_option maxRecDepth 100000 in
theorem zk_810_3 : zm1 zKS zuq zNS zm_810 4000 zt_810_3 = true := z1F (zdt_X5_suspects) (by decide +kernel)
set_option maxRecDepth 100000 in
theorem zk_810_4 : zm1 zKS zuq zNS zm_810 4000 zt_810_4 = true := z1F (zdt_X5_suspects) (by decide +kernel)
set_option maxRecDepth 100000 in
theorem zk_810_5 : zm1 zKS zuq zNS zm_810 4000 zt_810_5 = true := z1F (zdt_X5_suspects) (by decide +kernel)
set_option maxRecDepth 100000 in
theorem zk_810_6 : zm1 zKS zuq zNS zm_810 4000 zt_810_6 = true := z1F (zdt_X5_suspects) (by decide +kernel)
set_option maxRecDepth 100000 in
theorem zk_810_7 : zm1 zKS zuq zNS zm_810 4000 zt_810_7 = true := z1F (zdt_X5_suspects) (by decide +kernel)
set_option maxRecDepth 100000 in
theorem zk_810_8 : zm1 zKS zuq zNS zm_810 4000 zt_810_8 = true := z1F (zdt_X5_suspects) (by decide +kernel)
set_option maxRecDepth 100000 in
theorem zk_810_9 : zm1 zKS zuq zNS zm_810 4000 zt_810_9 = true := z1F (zdt_X5_suspects) (by decide +kernel)
set_option maxRecDepth 100000 in
theorem zk_810_10 : zm1 zKS zuq zNS zm_810 4000 zt_810_10 = true := z1F (zdt_X5_suspects) (by decide +kernel)
set_option maxRecDepth 100000 in
theorem zk_810_11 : zm1 zKS zuq zNS zm_810 4000 zt_810_11 = true := z1F (zdt_X5_suspects) (by decide +kernel)
set_option maxRecDepth 100000 in
theorem zk_810_12 : zm1 zKS zuq zNS zm_810 4000 zt_810_12 = true := z1F (zdt_X5_suspects) (by decide +kernel)
set_option maxRecDepth 100000 in
theorem zk_810_13 : zm1 zKS zuq zNS zm_810 4000 zt_810_13 = true := z1F (zdt_X5_suspects) (by decide +kernel)
set_option maxRecDepth 100000 in
theorem zk_810_14 : zm1 zKS zuq zNS zm_810 4000 zt_810_14 = true := z1F (zdt_X5_suspects) (by decide +kernel)
set_option maxRecDepth 100000 in
theorem zk_810_15 : zm1 zKS zuq zNS zm_810 4000 zt_810_15 = true := z1F (zdt_X5_suspects) (by decide +kernel)
set_option maxRecDepth 100000 in
theorem zk_810_16 : zm1 zKS zuq zNS zm_810 4000 zt_810_16 = true := z1F (zdt_X5_suspects) (by decide +kernel)
set_option maxRecDepth 100000 in
theorem zk_810_17 : zm1 zKS zuq zNS zm_810 4000 zt_810_17 = true := z1F (zdt_X5_suspects) (by decide +kernel)
set_option maxRecDepth 100000 in
theorem zk_810_18 : zm1 zKS zuq zNS zm_810 4000 zt_810_18 = true := z1F (zdt_X5_suspects) (by decide +kernel)
set_option maxRecDepth 100000 in
theorem zk_810_19 : zm1 zKS zuq zNS zm_810 4000 zt_810_19 = true := z1F (zdt_X5_suspects) (by decide +kernel)
set_option maxRecDepth 100000 in
theorem zk_810_20 : zm1 zKS zuq zNS zm_810 4000 zt_810_20 = true := z1F (zdt_X5_suspects) (by decide +kernel)
set_option maxRecDepth 100000 in
theorem zk_810_21 : zm1 zKS zuq zNS zm_810 4000 zt_810_21 = true := z1F (zdt_X5_suspects) (by decide +kernel)
set_option maxRecDepth 100000 in
theorem zk_810_22 : zm1 zKS zuq zNS zm_810 4000 zt_810_22 = true := z1F (zdt_X5_suspects) (by decide +kernel)
set_option maxRecDepth 100000 in
theorem zk_810_23 : zm1 zKS zuq zNS zm_810 4000 zt_810_23 = true := z1F (zdt_X5_suspects) (by decide +kernel)
set_option maxRecDepth 100000 in
theorem zk_810_24 : zm1 zKS zuq zNS zm_810 4000 zt_810_24 = true := z1F (zdt_X5_suspects) (by decide +kernel)
set_option maxRecDepth 100000 in
theorem zk_810_25 : zm1 zKS zuq zNS zm_810 4000 zt_810_25 = true := z1F (zdt_X5_suspects) (by decide +kernel)
set_option maxRecDepth 100000 in
theorem zk_810_26 : zm1 zKS zuq zNS zm_810 4000 zt_810_26 = true := z1F (zdt_X5_suspects) (by decide +kernel)
set_option maxRecDepth 100000 in
theorem zk_810_27 : zm1 zKS zuq zNS zm_810 4000 zt_810_27 = true := z1F (zdt_X5_suspects) (by decide +kernel)
set_option maxRecDepth 100000 in
theorem zk_810_28 : zm1 zKS zuq zNS zm_810 4000 zt_810_28 = true := z1F (zdt_X5_suspects) (by decide +kernel)
set_option maxRecDepth 100000 in
theorem zk_810_29 : zm1 zKS zuq zNS zm_810 4000 zt_810_29 = true := z1F (zdt_X5_suspects) (by decide +kernel)
set_option maxRecDepth 100000 in
theorem zk_810_30 : zm1 zKS zuq zNS zm_810 4000 zt_810_30 = true := z1F (zdt_X5_suspects) (by decide +kernel)
set_option maxRecDepth 100000 in
theorem zk_810_s : zm0 zKS zuq zNS zm_810 4000 = true := z0F (zdt_X5_suspects) (by decide +kernel)
set_option maxRecDepth 100000 in
theorem zk_810 : zmeth zKS zuq zNS zm_810 4000 = true := zmeth_by zk_810_s (List.forall_mem_cons.mpr ⟨zk_810_0, (List.forall_mem_cons.mpr ⟨zk_810_1, (List.forall_mem_cons.mpr ⟨zk_810_2, (List.forall_mem_cons.mpr ⟨zk_810_3, (List.forall_mem_cons.mpr ⟨zk_810_4, (List.forall_mem_cons.mpr ⟨zk_810_5, (List.forall_mem_cons.mpr ⟨zk_810_6, (List.forall_mem_cons.mpr ⟨zk_810_7, (List.forall_mem_cons.mpr ⟨zk_810_8, (List.forall_mem_cons.mpr ⟨zk_810_9, (List.forall_mem_cons.mpr ⟨zk_810_10, (List.forall_mem_cons.mpr ⟨zk_810_11, (List.forall_mem_cons.mpr ⟨zk_810_12, (List.forall_mem_cons.mpr ⟨zk_810_13, (List.forall_mem_cons.mpr ⟨zk_810_14, (List.forall_mem_cons.mpr ⟨zk_810_15, (List.forall_mem_cons.mpr ⟨zk_810_16, (List.forall_mem_cons.mpr ⟨zk_810_17, (List.forall_mem_cons.mpr ⟨zk_810_18, (List.forall_mem_cons.mpr ⟨zk_810_19, (List.forall_mem_cons.mpr ⟨zk_810_20, (List.forall_mem_cons.mpr ⟨zk_810_21, (List.forall_mem_cons.mpr ⟨zk_810_22, (List.forall_mem_cons.mpr ⟨zk_810_23, (List.forall_mem_cons.mpr ⟨zk_810_24, (List.forall_mem_cons.mpr ⟨zk_810_25, (List.forall_mem_cons.mpr ⟨zk_810_26, (List.forall_mem_cons.mpr ⟨zk_810_27, (List.forall_mem_cons.mpr ⟨zk_810_28, (List.forall_mem_cons.mpr ⟨zk_810_29, (List.forall_mem_cons.mpr ⟨zk_810_30, nilz⟩)⟩)⟩)⟩)⟩)⟩)⟩)⟩)⟩)⟩)⟩)⟩)⟩)⟩)⟩)⟩)⟩)⟩)⟩)⟩)⟩)⟩)⟩)⟩)⟩)⟩)⟩)⟩)⟩)⟩)⟩)
set_option maxRecDepth 100000 in
theorem zM_810 {l : Launch} {D : va_G} {cI cZ cB cJ cR : ClassId} {ks ad : List Nat} {Psi : va_W → Prop} (hw : zworld ks ad zuq zNS Psi) (hm : zMan l D cI cZ cB cJ cR ks ad Psi) : zMet l D cI cZ cB cJ cR zKS ks ad Psi yX5_suspects (.code yX5_suspects cX5_suspects 4 (some .int)) 4 zc_810 :=
  zmet_of hw 4 (by decide) 4000 zk_810 (by decide) (by decide) (fun X => ⟨zg_RX5 X, zp_RX5 X, zl1_RX5 X, zl2_RX5 X, nilz, (List.forall_mem_cons.mpr ⟨zq_RX5_220 X (zM_285 hw hm) (by decide) rfl rfl, (List.forall_mem_cons.mpr ⟨zq_RX5_239 X (zM_360 hw hm) (by decide) rfl rfl, (List.forall_mem_cons.mpr ⟨zq_RX5_239 X (zM_361 hw hm) (by decide) rfl rfl, (List.forall_mem_cons.mpr ⟨zq_RX5_239 X (zM_362 hw hm) (by decide) rfl rfl, (List.forall_mem_cons.mpr ⟨zq_RX5_239 X (zM_363 hw hm) (by decide) rfl rfl, (List.forall_mem_cons.mpr ⟨zq_RX5_239 X (zM_364 hw hm) (by decide) rfl rfl, (List.forall_mem_cons.mpr ⟨zq_RX5_239 X (zM_365 hw hm) (by decide) rfl rfl, (List.forall_mem_cons.mpr ⟨zq_RX5_239 X (zM_366 hw hm) (by decide) rfl rfl, (List.forall_mem_cons.mpr ⟨zq_RX5_239 X (zM_367 hw hm) (by decide) rfl rfl, (List.forall_mem_cons.mpr ⟨zq_RX5_239 X (zM_368 hw hm) (by decide) rfl rfl, (List.forall_mem_cons.mpr ⟨zq_RX5_239 X (zM_369 hw hm) (by decide) rfl rfl, (List.forall_mem_cons.mpr ⟨zq_RX5_239 X (zM_370 hw hm) (by decide) rfl rfl, (List.forall_mem_cons.mpr ⟨zq_RX5_239 X (zM_371 hw hm) (by decide) rfl rfl, (List.forall_mem_cons.mpr ⟨zq_RX5_239 X (zM_372 hw hm) (by decide) rfl rfl, (List.forall_mem_cons.mpr ⟨zq_RX5_239 X (zM_373 hw hm) (by decide) rfl rfl, (List.forall_mem_cons.mpr ⟨zq_RX5_239 X (zM_374 hw hm) (by decide) rfl rfl, (List.forall_mem_cons.mpr ⟨zq_RX5_239 X (zM_375 hw hm) (by decide) rfl rfl, (List.forall_mem_cons.mpr ⟨zq_RX5_239 X (zM_376 hw hm) (by decide) rfl rfl, (List.forall_mem_cons.mpr ⟨zq_RX5_239 X (zM_377 hw hm) (by decide) rfl rfl, (List.forall_mem_cons.mpr ⟨zq_RX5_239 X (zM_378 hw hm) (by decide) rfl rfl, (List.forall_mem_cons.mpr ⟨zq_RX5_239 X (zM_379 hw hm) (by decide) rfl rfl, (List.forall_mem_cons.mpr ⟨zq_RX5_239 X (zM_380 hw hm) (by decide) rfl rfl, (List.forall_mem_cons.mpr ⟨zq_RX5_239 X (zM_381 hw hm) (by decide) rfl rfl, (List.forall_mem_cons.mpr ⟨zq_RX5_239 X (zM_382 hw hm) (by decide) rfl rfl, (List.forall_mem_cons.mpr ⟨zq_RX5_239 X (zM_383 hw hm) (by decide) rfl rfl, (List.forall_mem_cons.mpr ⟨zq_RX5_239 X (zM_384 hw hm) (by decide) rfl rfl, (List.forall_mem_cons.mpr ⟨zq_RX5_239 X (zM_385 hw hm) (by decide) rfl rfl, (List.forall_mem_cons.mpr ⟨zq_RX5_239 X (zM_386 hw hm) (by decide) rfl rfl, (List.forall_mem_cons.mpr ⟨zq_RX5_239 X (zM_387 hw hm) (by decide) rfl rfl, (List.forall_mem_cons.mpr ⟨zq_RX5_239 X (zM_388 hw hm) (by decide) rfl rfl, (List.forall_mem_cons.mpr ⟨zq_RX5_239 X (zM_389 hw hm) (by decide) rfl rfl, (List.forall_mem_cons.mpr ⟨zq_RX5_239 X (zM_390 hw hm) (by decide) rfl rfl, (List.forall_mem_cons.mpr ⟨zq_RX5_239 X (zM_391 hw hm) (by decide) rfl rfl, (List.forall_mem_cons.mpr ⟨zq_RX5_239 X (zM_392 hw hm) (by decide) rfl rfl, (List.forall_mem_cons.mpr ⟨zq_RX5_239 X (zM_393 hw hm) (by decide) rfl rfl, (List.forall_mem_cons.mpr ⟨zq_RX5_239 X (zM_394 hw hm) (by decide) rfl rfl, (List.forall_mem_cons.mpr ⟨zq_RX5_239 X (zM_395 hw hm) (by decide) rfl rfl, (List.forall_mem_cons.mpr ⟨zq_RX5_239 X (zM_396 hw hm) (by decide) rfl rfl, (List.forall_mem_cons.mpr ⟨zq_RX5_239 X (zM_397 hw hm) (by decide) rfl rfl, (List.forall_mem_cons.mpr ⟨zq_RX5_239 X (zM_398 hw hm) (by decide) rfl rfl, (List.forall_mem_cons.mpr ⟨zq_RX5_239 X (zM_399 hw hm) (by decide) rfl rfl, (List.forall_mem_cons.mpr ⟨zq_RX5_239 X (zM_400 hw hm) (by decide) rfl rfl, (List.forall_mem_cons.mpr ⟨zq_RX5_239 X (zM_401 hw hm) (by decide) rfl rfl, (List.forall_mem_cons.mpr ⟨zq_RX5_239 X (zM_402 hw hm) (by decide) rfl rfl, (List.forall_mem_cons.mpr ⟨zq_RX5_239 X (zM_403 hw hm) (by decide) rfl rfl, (List.forall_mem_cons.mpr ⟨zq_RX5_239 X (zM_404 hw hm) (by decide) rfl rfl, (List.forall_mem_cons.mpr ⟨zq_RX5_239 X (zM_405 hw hm) (by decide) rfl rfl, (List.forall_mem_cons.mpr ⟨zq_RX5_239 X (zM_406 hw hm) (by decide) rfl rfl, (List.forall_mem_cons.mpr ⟨zq_RX5_239 X (zM_407 hw hm) (by decide) rfl rfl, (List.forall_mem_cons.mpr ⟨zq_RX5_239 X (zM_408 hw hm) (by decide) rfl rfl, (List.forall_mem_cons.mpr ⟨zq_RX5_239 X (zM_409 hw hm) (by decide) rfl rfl, (List.forall_mem_cons.mpr ⟨zq_RX5_239 X (zM_410 hw hm) (by decide) rfl rfl, (List.forall_mem_cons.mpr ⟨zq_RX5_239 X (zM_411 hw hm) (by decide) rfl rfl, (List.forall_mem_cons.mpr ⟨zq_RX5_239 X (zM_412 hw hm) (by decide) rfl rfl, (List.forall_mem_cons.mpr ⟨zq_RX5_239 X (zM_413 hw hm) (by decide) rfl rfl, (List.forall_mem_cons.mpr ⟨zq_RX5_239 X (zM_414 hw hm) (by decide) rfl rfl, (List.forall_mem_cons.mpr ⟨zq_RX5_239 X (zM_415 hw hm) (by decide) rfl rfl, (List.forall_mem_cons.mpr ⟨zq_RX5_239 X (zM_416 hw hm) (by decide) rfl rfl, (List.forall_mem_cons.mpr ⟨zq_RX5_239 X (zM_417 hw hm) (by decide) rfl rfl, (List.forall_mem_cons.mpr ⟨zq_RX5_239 X (zM_418 hw hm) (by decide) rfl rfl, (List.forall_mem_cons.mpr ⟨zq_RX5_239 X (zM_419 hw hm) (by decide) rfl rfl, (List.forall_mem_cons.mpr ⟨zq_RX5_250 X (zM_601 hw hm) (by decide) rfl rfl, nilz⟩)⟩)⟩)⟩)⟩)⟩)⟩)⟩)⟩)⟩)⟩)⟩)⟩)⟩)⟩)⟩)⟩)⟩)⟩)⟩)⟩)⟩)⟩)⟩)⟩)⟩)⟩)⟩)⟩)⟩)⟩)⟩)⟩)⟩)⟩)⟩)⟩)⟩)⟩)⟩)⟩)⟩)⟩)⟩)⟩)⟩)⟩)⟩)⟩)⟩)⟩)⟩)⟩)⟩)⟩)⟩)⟩)⟩)⟩)⟩)⟩)⟩)⟩)
set_option maxRecDepth 100000 in
theorem zk_811_0 : zm1 zKS zuq zNS zm_811 4000 zt_811_0 = true := z1F (zdt_X5_suspects) (by decide +kernel)
set_option maxRecDepth 100000 in
theorem zk_811_1 : zm1 zKS zuq zNS zm_811 4000 zt_811_1 = true := z1F (zdt_X5_suspects) (by decide +kernel)
set_option maxRecDepth 100000 in
theorem zk_811_2 : zm1 zKS zuq zNS zm_811 4000 zt_811_2 = true := z1F (zdt_X5_suspects) (by decide +kernel)
set_option maxRecDepth 100000 in
theorem zk_811_3 : zm1 zKS zuq zNS zm_811 4000 zt_811_3 = true := z1F (zdt_X5_suspects) (by decide +kernel)
set_option maxRecDepth 100000 in
theorem zk_811_4 : zm1 zKS zuq zNS zm_811 4000 zt_811_4 = true := z1F (zdt_X5_suspects) (by decide +kernel)
set_option maxRecDepth 100000 in
theorem zk_811_5 : zm1 zKS zuq zNS zm_811 4000 zt_811_5 = true := z1F (zdt_X5_suspects) (by decide +kernel)
set_option maxRecDepth 100000 in
theorem zk_811_6 : zm1 zKS zuq zNS zm_811 4000 zt_811_6 = true := z1F (zdt_X5_suspects) (by decide +kernel)
set_option maxRecDepth 100000 in
theorem zk_811_7 : zm1 zKS zuq zNS zm_811 4000 zt_811_7 = true := z1F (zdt_X5_suspects) (by decide +kernel)
set_option maxRecDepth 100000 in
theorem zk_811_8 : zm1 zKS zuq zNS zm_811 4000 zt_811_8 = true := z1F (zdt_X5_suspects) (by decide +kernel)
set_option maxRecDepth 100000 in
theorem zk_811_9 : zm1 zKS zuq zNS zm_811 4000 zt_811_9 = true := z1F (zdt_X5_suspects) (by decide +kernel)
set_option maxRecDepth 100000 in
theorem zk_811_10 : zm1 zKS zuq zNS zm_811 4000 zt_811_10 = true := z1F (zdt_X5_suspects) (by decide +kernel)
set_option maxRecDepth 100000 in
theorem zk_811_11 : zm1 zKS zuq zNS zm_811 4000 zt_811_11 = true := z1F (zdt_X5_suspects) (by decide +kernel)
set_option maxRecDepth 100000 in
theorem zk_811_12 : zm1 zKS zuq zNS zm_811 4000 zt_811_12 = true := z1F (zdt_X5_suspects) (by decide +kernel)
set_option maxRecDepth 100000 in
theorem zk_811_13 : zm1 zKS zuq zNS zm_811 4000 zt_811_13 = true := z1F (zdt_X5_suspects) (by decide +kernel)
set_option maxRecDepth 100000 in
theorem zk_811_14 : zm1 zKS zuq zNS zm_811 4000 zt_811_14 = true := z1F (zdt_X5_suspects) (by decide +kernel)
set_option maxRecDepth 100000 in
theorem zk_811_15 : zm1 zKS zuq zNS zm_811 4000 zt_811_15 = true := z1F (zdt_X5_suspects) (by decide +kernel)
set_option maxRecDepth 100000 in
theorem zk_811_16 : zm1 zKS zuq zNS zm_811 4000 zt_811_16 = true := z1F (zdt_X5_suspects) (by decide +kernel)
set_option maxRecDepth 100000 in
theorem zk_811_17 : zm1 zKS zuq zNS zm_811 4000 zt_811_17 = true := z1F (zdt_X5_suspects) (by decide +kernel)
set_option maxRecDepth 100000 in
theorem zk_811_18 : zm1 zKS zuq zNS zm_811 4000 zt_811_18 = true := z1F (zdt_X5_suspects) (by decide +kernel)
set_option maxRecDepth 100000 in
theorem zk_811_19 : zm1 zKS zuq zNS zm_811 4000 zt_811_19 = true := z1F (zdt_X5_suspects) (by decide +kernel)
set_option maxRecDepth 100000 in
theorem zk_811_20 : zm1 zKS zuq zNS zm_811 4000 zt_811_20 = true := z1F (zdt_X5_suspects) (by decide +kernel)
set_option maxRecDepth 100000 in
theorem zk_811_21 : zm1 zKS zuq zNS zm_811 4000 zt_811_21 = true := z1F (zdt_X5_suspects) (by decide +kernel)
set_option maxRecDepth 100000 in
theorem zk_811_22 : zm1 zKS zuq zNS zm_811 4000 zt_811_22 = true := z1F (zdt_X5_suspects) (by decide +kernel)
set_option maxRecDepth 100000 in
theorem zk_811_23 : zm1 zKS zuq zNS zm_811 4000 zt_811_23 = true := z1F (zdt_X5_suspects) (by decide +kernel)
set_option maxRecDepth 100000 in
theorem zk_811_24 : zm1 zKS zuq zNS zm_811 4000 zt_811_24 = true := z1F (zdt_X5_suspects) (by decide +kernel)
set_option maxRecDepth 100000 in
theorem zk_811_25 : zm1 zKS zuq zNS zm_811 4000 zt_811_25 = true := z1F (zdt_X5_suspects) (by decide +kernel)
set_option maxRecDepth 100000 in
theorem zk_811_26 : zm1 zKS zuq zNS zm_811 4000 zt_811_26 = true := z1F (zdt_X5_suspects) (by decide +kernel)
set_option maxRecDepth 100000 in
theorem zk_811_27 : zm1 zKS zuq zNS zm_811 4000 zt_811_27 = true := z1F (zdt_X5_suspects) (by decide +kernel)
set_option maxRecDepth 100000 in
theorem zk_811_28 : zm1 zKS zuq zNS zm_811 4000 zt_811_28 = true := z1F (zdt_X5_suspects) (by decide +kernel)
set_option maxRecDepth 100000 in
theorem zk_811_29 : zm1 zKS zuq zNS zm_811 4000 zt_811_29 = true := z1F (zdt_X5_suspects) (by decide +kernel)
set_option maxRecDepth 100000 in
theorem zk_811_30 : zm1 zKS zuq zNS zm_811 4000 zt_811_30 = true := z1F (zdt_X5_suspects) (by decide +kernel)
set_option maxRecDepth 100000 in
theorem zk_811_s : zm0 zKS zuq zNS zm_811 4000 = true := z0F (zdt_X5_suspects) (by decide +kernel)
set_option maxRecDepth 100000 in
theorem zk_811 : zmeth zKS zuq zNS zm_811 4000 = true := zmeth_by zk_811_s (List.forall_mem_cons.mpr ⟨zk_811_0, (List.forall_mem_cons.mpr ⟨zk_811_1, (List.forall_mem_cons.mpr ⟨zk_811_2, (List.forall_mem_cons.mpr ⟨zk_811_3, (List.forall_mem_cons.mpr ⟨zk_811_4, (List.forall_mem_cons.mpr ⟨zk_811_5, (List.forall_mem_cons.mpr ⟨zk_811_6, (List.forall_mem_cons.mpr ⟨zk_811_7, (List.forall_mem_cons.mpr ⟨zk_811_8, (List.forall_mem_cons.mpr ⟨zk_811_9, (List.forall_mem_cons.mpr ⟨zk_811_10, (List.forall_mem_cons.mpr ⟨zk_811_11, (List.forall_mem_cons.mpr ⟨zk_811_12, (List.forall_mem_cons.mpr ⟨zk_811_13, (List.forall_mem_cons.mpr ⟨zk_811_14, (List.forall_mem_cons.mpr ⟨zk_811_15, (List.forall_mem_cons.mpr ⟨zk_811_16, (List.forall_mem_cons.mpr ⟨zk_811_17, (List.forall_mem_cons.mpr ⟨zk_811_18, (List.forall_mem_cons.mpr ⟨zk_811_19, (List.forall_mem_cons.mpr ⟨zk_811_20, (List.forall_mem_cons.mpr ⟨zk_811_21, (List.forall_mem_cons.mpr ⟨zk_811_22, (List.forall_mem_cons.mpr ⟨zk_811_23, (List.forall_mem_cons.mpr ⟨zk_811_24, (List.forall_mem_cons.mpr ⟨zk_811_25, (List.forall_mem_cons.mpr ⟨zk_811_26, (List.forall_mem_cons.mpr ⟨zk_811_27, (List.forall_mem_cons.mpr ⟨zk_811_28, (List.forall_mem_cons.mpr ⟨zk_811_29, (List.forall_mem_cons.mpr ⟨zk_811_30, nilz⟩)⟩)⟩)⟩)⟩)⟩)⟩)⟩)⟩)⟩)⟩)⟩)⟩)⟩)⟩)⟩)⟩)⟩)⟩)⟩)⟩)⟩)⟩)⟩)⟩)⟩)⟩)⟩)⟩)⟩)⟩)
set_option maxRecDepth 100000 in
theorem zM_811 {l : Launch} {D : va_G} {cI cZ cB cJ cR : ClassId} {ks ad : List Nat} {Psi : va_W → Prop} (hw : zworld ks ad zuq zNS Psi) (hm : zMan l D cI cZ cB cJ cR ks ad Psi) : zMet l D cI cZ cB cJ cR zKS ks ad Psi yX5_suspects (.code yX5_suspects cX5_suspects 4 (some .int)) 4 zc_811 :=
  zmet_of hw 4 (by decide) 4000 zk_811 (by decide) (by decide) (fun X => ⟨zg_RX5 X, zp_RX5 X, zl1_RX5 X, zl2_RX5 X, nilz, (List.forall_mem_cons.mpr ⟨zq_RX5_220 X (zM_285 hw hm) (by decide) rfl rfl, (List.forall_mem_cons.mpr ⟨zq_RX5_239 X (zM_420 hw hm) (by decide) rfl rfl, (List.forall_mem_cons.mpr ⟨zq_RX5_239 X (zM_421 hw hm) (by decide) rfl rfl, (List.forall_mem_cons.mpr ⟨zq_RX5_239 X (zM_422 hw hm) (by decide) rfl rfl, (List.forall_mem_cons.mpr ⟨zq_RX5_239 X (zM_423 hw hm) (by decide) rfl rfl, (List.forall_mem_cons.mpr ⟨zq_RX5_239 X (zM_424 hw hm) (by decide) rfl rfl, (List.forall_mem_cons.mpr ⟨zq_RX5_239 X (zM_425 hw hm) (by decide) rfl rfl, (List.forall_mem_cons.mpr ⟨zq_RX5_239 X (zM_426 hw hm) (by decide) rfl rfl, (List.forall_mem_cons.mpr ⟨zq_RX5_239 X (zM_427 hw hm) (by decide) rfl rfl, (List.forall_mem_cons.mpr ⟨zq_RX5_239 X (zM_428 hw hm) (by decide) rfl rfl, (List.forall_mem_cons.mpr ⟨zq_RX5_239 X (zM_429 hw hm) (by decide) rfl rfl, (List.forall_mem_cons.mpr ⟨zq_RX5_239 X (zM_430 hw hm) (by decide) rfl rfl, (List.forall_mem_cons.mpr ⟨zq_RX5_239 X (zM_431 hw hm) (by decide) rfl rfl, (List.forall_mem_cons.mpr ⟨zq_RX5_239 X (zM_432 hw hm) (by decide) rfl rfl, (List.forall_mem_cons.mpr ⟨zq_RX5_239 X (zM_433 hw hm) (by decide) rfl rfl, (List.forall_mem_cons.mpr ⟨zq_RX5_239 X (zM_434 hw hm) (by decide) rfl rfl, (List.forall_mem_cons.mpr ⟨zq_RX5_239 X (zM_435 hw hm) (by decide) rfl rfl, (List.forall_mem_cons.mpr ⟨zq_RX5_239 X (zM_436 hw hm) (by decide) rfl rfl, (List.forall_mem_cons.mpr ⟨zq_RX5_239 X (zM_437 hw hm) (by decide) rfl rfl, (List.forall_mem_cons.mpr ⟨zq_RX5_239 X (zM_438 hw hm) (by decide) rfl rfl, (List.forall_mem_cons.mpr ⟨zq_RX5_239 X (zM_439 hw hm) (by decide) rfl rfl, (List.forall_mem_cons.mpr ⟨zq_RX5_239 X (zM_440 hw hm) (by decide) rfl rfl, (List.forall_mem_cons.mpr ⟨zq_RX5_239 X (zM_441 hw hm) (by decide) rfl rfl, (List.forall_mem_cons.mpr ⟨zq_RX5_239 X (zM_442 hw hm) (by decide) rfl rfl, (List.forall_mem_cons.mpr ⟨zq_RX5_239 X (zM_443 hw hm) (by decide) rfl rfl, (List.forall_mem_cons.mpr ⟨zq_RX5_239 X (zM_444 hw hm) (by decide) rfl rfl, (List.forall_mem_cons.mpr ⟨zq_RX5_239 X (zM_445 hw hm) (by decide) rfl rfl, (List.forall_mem_cons.mpr ⟨zq_RX5_239 X (zM_446 hw hm) (by decide) rfl rfl, (List.forall_mem_cons.mpr ⟨zq_RX5_239 X (zM_447 hw hm) (by decide) rfl rfl, (List.forall_mem_cons.mpr ⟨zq_RX5_239 X (zM_448 hw hm) (by decide) rfl rfl, (List.forall_mem_cons.mpr ⟨zq_RX5_239 X (zM_449 hw hm) (by decide) rfl rfl, (List.forall_mem_cons.mpr ⟨zq_RX5_239 X (zM_450 hw hm) (by decide) rfl rfl, (List.forall_mem_cons.mpr ⟨zq_RX5_239 X (zM_451 hw hm) (by decide) rfl rfl, (List.forall_mem_cons.mpr ⟨zq_RX5_239 X (zM_452 hw hm) (by decide) rfl rfl, (List.forall_mem_cons.mpr ⟨zq_RX5_239 X (zM_453 hw hm) (by decide) rfl rfl, (List.forall_mem_cons.mpr ⟨zq_RX5_239 X (zM_454 hw hm) (by decide) rfl rfl, (List.forall_mem_cons.mpr ⟨zq_RX5_239 X (zM_455 hw hm) (by decide) rfl rfl, (List.forall_mem_cons.mpr ⟨zq_RX5_239 X (zM_456 hw hm) (by decide) rfl rfl, (List.forall_mem_cons.mpr ⟨zq_RX5_239 X (zM_457 hw hm) (by decide) rfl rfl, (List.forall_mem_cons.mpr ⟨zq_RX5_239 X (zM_458 hw hm) (by decide) rfl rfl, (List.forall_mem_cons.mpr ⟨zq_RX5_239 X (zM_459 hw hm) (by decide) rfl rfl, (List.forall_mem_cons.mpr ⟨zq_RX5_239 X (zM_460 hw hm) (by decide) rfl rfl, (List.forall_mem_cons.mpr ⟨zq_RX5_239 X (zM_461 hw hm) (by decide) rfl rfl, (List.forall_mem_cons.mpr ⟨zq_RX5_239 X (zM_462 hw hm) (by decide) rfl rfl, (List.forall_mem_cons.mpr ⟨zq_RX5_239 X (zM_463 hw hm) (by decide) rfl rfl, (List.forall_mem_cons.mpr ⟨zq_RX5_239 X (zM_464 hw hm) (by decide) rfl rfl, (List.forall_mem_cons.mpr ⟨zq_RX5_239 X (zM_465 hw hm) (by decide) rfl rfl, (List.forall_mem_cons.mpr ⟨zq_RX5_239 X (zM_466 hw hm) (by decide) rfl rfl, (List.forall_mem_cons.mpr ⟨zq_RX5_239 X (zM_467 hw hm) (by decide) rfl rfl, (List.forall_mem_cons.mpr ⟨zq_RX5_239 X (zM_468 hw hm) (by decide) rfl rfl, (List.forall_mem_cons.mpr ⟨zq_RX5_239 X (zM_469 hw hm) (by decide) rfl rfl, (List.forall_mem_cons.mpr ⟨zq_RX5_239 X (zM_470 hw hm) (by decide) rfl rfl, (List.forall_mem_cons.mpr ⟨zq_RX5_239 X (zM_471 hw hm) (by decide) rfl rfl, (List.forall_mem_cons.mpr ⟨zq_RX5_239 X (zM_472 hw hm) (by decide) rfl rfl, (List.forall_mem_cons.mpr ⟨zq_RX5_239 X (zM_473 hw hm) (by decide) rfl rfl, (List.forall_mem_cons.mpr ⟨zq_RX5_239 X (zM_474 hw hm) (by decide) rfl rfl, (List.forall_mem_cons.mpr ⟨zq_RX5_239 X (zM_475 hw hm) (by decide) rfl rfl, (List.forall_mem_cons.mpr ⟨zq_RX5_239 X (zM_476 hw hm) (by decide) rfl rfl, (List.forall_mem_cons.mpr ⟨zq_RX5_239 X (zM_477 hw hm) (by decide) rfl rfl, (List.forall_mem_cons.mpr ⟨zq_RX5_239 X (zM_478 hw hm) (by decide) rfl rfl, (List.forall_mem_cons.mpr ⟨zq_RX5_239 X (zM_479 hw hm) (by decide) rfl rfl, (List.forall_mem_cons.mpr ⟨zq_RX5_250 X (zM_603 hw hm) (by decide) rfl rfl, nilz⟩)⟩)⟩)⟩)⟩)⟩)⟩)⟩)⟩)⟩)⟩)⟩)⟩)⟩)⟩)⟩)⟩)⟩)⟩)⟩)⟩)⟩)⟩)⟩)⟩)⟩)⟩)⟩)⟩)⟩)⟩)⟩)⟩)⟩)⟩)⟩)⟩)⟩)⟩)⟩)⟩)⟩)⟩)⟩)⟩)⟩)⟩)⟩)⟩)⟩)⟩)⟩)⟩)⟩)⟩)⟩)⟩)⟩)⟩)⟩)⟩)⟩)⟩)
