set_option maxRecDepth 100000 in
theorem zk_806_0 : zm1 zKS zuq zNS zm_806 4000 zt_806_0 = true := z1F (zdt_X5_suspects) (by decide +kernel)
set_option maxRecDepth 100000 in
theorem zk_806_1 : zm1 zKS zuq zNS zm_806 4000 zt_806_1 = true := z1F (zdt_X5_suspects) (by decide +kernel)
set_option maxRecDepth 100000 in
theorem zk_806_2 : zm1 zKS zuq zNS zm_806 4000 zt_806_2 = true := z1F (zdt_X5_suspects) (by decide +kernel)
set_option maxRecDepth 100000 in
theorem zk_806_3 : zm1 zKS zuq zNS zm_806 4000 zt_806_3 = true := z1F (zdt_X5_suspects) (by decide +kernel)
set_option maxRecDepth 100000 in
theorem zk_806_4 : zm1 zKS zuq zNS zm_806 4000 zt_806_4 = true := z1F (zdt_X5_suspects) (by decide +kernel)
set_option maxRecDepth 100000 in
theorem zk_806_5 : zm1 zKS zuq zNS zm_806 4000 zt_806_5 = true := z1F (zdt_X5_suspects) (by decide +kernel)
set_option maxRecDepth 100000 in
theorem zk_806_6 : zm1 zKS zuq zNS zm_806 4000 zt_806_6 = true := z1F (zdt_X5_suspects) (by decide +kernel)
set_option maxRecDepth 100000 in
theorem zk_806_7 : zm1 zKS zuq zNS zm_806 4000 zt_806_7 = true := z1F (zdt_X5_suspects) (by decide +kernel)
set_option maxRecDepth 100000 in
theorem zk_806_8 : zm1 zKS zuq zNS zm_806 4000 zt_806_8 = true := z1F (zdt_X5_suspects) (by decide +kernel)
set_option maxRecDepth 100000 in
theorem zk_806_9 : zm1 zKS zuq zNS zm_806 4000 zt_806_9 = true := z1F (zdt_X5_suspects) (by decide +kernel)
set_option maxRecDepth 100000 in
theorem zk_806_10 : zm1 zKS zuq zNS zm_806 4000 zt_806_10 = true := z1F (zdt_X5_suspects) (by decide +kernel)
set_option maxRecDepth 100000 in
theorem zk_806_11 : zm1 zKS zuq zNS zm_806 4000 zt_806_11 = true := z1F (zdt_X5_suspects) (by decide +kernel)
set_option maxRecDepth 100000 in
theorem zk_806_12 : zm1 zKS zuq zNS zm_806 4000 zt_806_12 = true := z1F (zdt_X5_suspects) (by decide +kernel)
set_option maxRecDepth 100000 in
theorem zk_806_13 : zm1 zKS zuq zNS zm_806 4000 zt_806_13 = true := z1F (zdt_X5_suspects) (by decide +kernel)
set_option maxRecDepth 100000 in
theorem zk_806_14 : zm1 zKS zuq zNS zm_806 4000 zt_806_14 = true := z1F (zdt_X5_suspects) (by decide +kernel)
set_option maxRecDepth 100000 in
theorem zk_806_15 : zm1 zKS zuq zNS zm_806 4000 zt_806_15 = true := z1F (zdt_X5_suspects) (by decide +kernel)
set_option maxRecDepth 100000 in
theorem zk_806_16 : zm1 zKS zuq zNS zm_806 4000 zt_806_16 = true := z1F (zdt_X5_suspects) (by decide +kernel)
set_option maxRecDepth 100000 in
theorem zk_806_17 : zm1 zKS zuq zNS zm_806 4000 zt_806_17 = true := z1F (zdt_X5_suspects) (by decide +kernel)
set_option maxRecDepth 100000 in
theorem zk_806_18 : zm1 zKS zuq zNS zm_806 4000 zt_806_18 = true := z1F (zdt_X5_suspects) (by decide +kernel)
set_option maxRecDepth 100000 in
theorem zk_806_19 : zm1 zKS zuq zNS zm_806 4000 zt_806_19 = true := z1F (zdt_X5_suspects) (by decide +kernel)
set_option maxRecDepth 100000 in
theorem zk_806_20 : zm1 zKS zuq zNS zm_806 4000 zt_806_20 = true := z1F (zdt_X5_suspects) (by decide +kernel)
set_option maxRecDepth 100000 in
theorem zk_806_21 : zm1 zKS zuq zNS zm_806 4000 zt_806_21 = true := z1F (zdt_X5_suspects) (by decide +kernel)
set_option maxRecDepth 100000 in
theorem zk_806_22 : zm1 zKS zuq zNS zm_806 4000 zt_806_22 = true := z1F (zdt_X5_suspects) (by decide +kernel)
set_option maxRecDepth 100000 in
theorem zk_806_23 : zm1 zKS zuq zNS zm_806 4000 zt_806_23 = true := z1F (zdt_X5_suspects) (by decide +kernel)
set_option maxRecDepth 100000 in
theorem zk_806_24 : zm1 zKS zuq zNS zm_806 4000 zt_806_24 = true := z1F (zdt_X5_suspects) (by decide +kernel)
set_option maxRecDepth 100000 in
theorem zk_806_25 : zm1 zKS zuq zNS zm_806 4000 zt_806_25 = true := z1F (zdt_X5_suspects) (by decide +kernel)
set_option maxRecDepth 100000 in
theorem zk_806_26 : zm1 zKS zuq zNS zm_806 4000 zt_806_26 = true := z1F (zdt_X5_suspects) (by decide +kernel)
set_option maxRecDepth 100000 in
theorem zk_806_27 : zm1 zKS zuq zNS zm_806 4000 zt_806_27 = true := z1F (zdt_X5_suspects) (by decide +kernel)
set_option maxRecDepth 100000 in
theorem zk_806_28 : zm1 zKS zuq zNS zm_806 4000 zt_806_28 = true := z1F (zdt_X5_suspects) (by decide +kernel)
set_option maxRecDepth 100000 in
theorem zk_806_29 : zm1 zKS zuq zNS zm_806 4000 zt_806_29 = true := z1F (zdt_X5_suspects) (by decide +kernel)
set_option maxRecDepth 100000 in
theorem zk_806_30 : zm1 zKS zuq zNS zm_806 4000 zt_806_30 = true := z1F (zdt_X5_suspects) (by decide +kernel)
set_option maxRecDepth 100000 in
theorem zk_806_s : zm0 zKS zuq zNS zm_806 4000 = true := z0F (zdt_X5_suspects) (by decide +kernel)
set_option maxRecDepth 100000 in
theorem zk_806 : zmeth zKS zuq zNS zm_806 4000 = true := zmeth_by zk_806_s (List.forall_mem_cons.mpr ⟨zk_806_0, (List.forall_mem_cons.mpr ⟨zk_806_1, (List.forall_mem_cons.mpr ⟨zk_806_2, (List.forall_mem_cons.mpr ⟨zk_806_3, (List.forall_mem_cons.mpr ⟨zk_806_4, (List.forall_mem_cons.mpr ⟨zk_806_5, (List.forall_mem_cons.mpr ⟨zk_806_6, (List.forall_mem_cons.mpr ⟨zk_806_7, (List.forall_mem_cons.mpr ⟨zk_806_8, (List.forall_mem_cons.mpr ⟨zk_806_9, (List.forall_mem_cons.mpr ⟨zk_806_10, (List.forall_mem_cons.mpr ⟨zk_806_11, (List.forall_mem_cons.mpr ⟨zk_806_12, (List.forall_mem_cons.mpr ⟨zk_806_13, (List.forall_mem_cons.mpr ⟨zk_806_14, (List.forall_mem_cons.mpr ⟨zk_806_15, (List.forall_mem_cons.mpr ⟨zk_806_16, (List.forall_mem_cons.mpr ⟨zk_806_17, (List.forall_mem_cons.mpr ⟨zk_806_18, (List.forall_mem_cons.mpr ⟨zk_806_19, (List.forall_mem_cons.mpr ⟨zk_806_20, (List.forall_mem_cons.mpr ⟨zk_806_21, (List.forall_mem_cons.mpr ⟨zk_806_22, (List.forall_mem_cons.mpr ⟨zk_806_23, (List.forall_mem_cons.mpr ⟨zk_806_24, (List.forall_mem_cons.mpr ⟨zk_806_25, (List.forall_mem_cons.mpr ⟨zk_806_26, (List.forall_mem_cons.mpr ⟨zk_806_27, (List.forall_mem_cons.mpr ⟨zk_806_28, (List.forall_mem_cons.mpr ⟨zk_806_29, (List.forall_mem_cons.mpr ⟨zk_806_30, nilz⟩)⟩)⟩)⟩)⟩)⟩)⟩)⟩)⟩)⟩)⟩)⟩)⟩)⟩)⟩)⟩)⟩)⟩)⟩)⟩)⟩)⟩)⟩)⟩)⟩)⟩)⟩)⟩)⟩)⟩)⟩)
set_option maxRecDepth 100000 in
theorem zM_806 {l : Launch} {D : va_G} {cI cZ cB cJ cR : ClassId} {ks ad : List Nat} {Psi : va_W → Prop} (hw : zworld ks ad zuq zNS Psi) (hm : zMan l D cI cZ cB cJ cR ks ad Psi) : zMet l D cI cZ cB cJ cR zKS ks ad Psi yX5_suspects (.code yX5_suspects cX5_suspects 4 (some .int)) 4 zc_806 :=
  zmet_of hw 4 (by decide) 4000 zk_806 (by decide) (by decide) (fun X => ⟨zg_RX5 X, zp_RX5 X, zl1_RX5 X, zl2_RX5 X, nilz, (List.forall_mem_cons.mpr ⟨zq_RX5_220 X (zM_285 hw hm) (by decide) rfl rfl, (List.forall_mem_cons.mpr ⟨zq_RX5_239 X (zM_356 hw hm) (by decide) rfl rfl, (List.forall_mem_cons.mpr ⟨zq_RX5_239 X (zM_357 hw hm) (by decide) rfl rfl, (List.forall_mem_cons.mpr ⟨zq_RX5_239 X (zM_358 hw hm) (by decide) rfl rfl, (List.forall_mem_cons.mpr ⟨zq_RX5_239 X (zM_359 hw hm) (by decide) rfl rfl, (List.forall_mem_cons.mpr ⟨zq_RX5_239 X (zM_360 hw hm) (by decide) rfl rfl, (List.forall_mem_cons.mpr ⟨zq_RX5_239 X (zM_361 hw hm) (by decide) rfl rfl, (List.forall_mem_cons.mpr ⟨zq_RX5_239 X (zM_362 hw hm) (by decide) rfl rfl, (List.forall_mem_cons.mpr ⟨zq_RX5_239 X (zM_363 hw hm) (by decide) rfl rfl, (List.forall_mem_cons.mpr ⟨zq_RX5_239 X (zM_364 hw hm) (by decide) rfl rfl, (List.forall_mem_cons.mpr ⟨zq_RX5_239 X (zM_365 hw hm) (by decide) rfl rfl, (List.forall_mem_cons.mpr ⟨zq_RX5_239 X (zM_366 hw hm) (by decide) rfl rfl, (List.forall_mem_cons.mpr ⟨zq_RX5_239 X (zM_367 hw hm) (by decide) rfl rfl, (List.forall_mem_cons.mpr ⟨zq_RX5_239 X (zM_368 hw hm) (by decide) rfl rfl, (List.forall_mem_cons.mpr ⟨zq_RX5_239 X (zM_369 hw hm) (by decide) rfl rfl, (List.forall_mem_cons.mpr ⟨zq_RX5_239 X (zM_370 hw hm) (by decide) rfl rfl, (List.forall_mem_cons.mpr ⟨zq_RX5_239 X (zM_371 hw hm) (by decide) rfl rfl, (List.forall_mem_cons.mpr ⟨zq_RX5_239 X (zM_372 hw hm) (by decide) rfl rfl, (List.forall_mem_cons.mpr ⟨zq_RX5_239 X (zM_373 hw hm) (by decide) rfl rfl, (List.forall_mem_cons.mpr ⟨zq_RX5_239 X (zM_374 hw hm) (by decide) rfl rfl, (List.forall_mem_cons.mpr ⟨zq_RX5_239 X (zM_375 hw hm) (by decide) rfl rfl, (List.forall_mem_cons.mpr ⟨zq_RX5_239 X (zM_376 hw hm) (by decide) rfl rfl, (List.forall_mem_cons.mpr ⟨zq_RX5_239 X (zM_377 hw hm) (by decide) rfl rfl, (List.forall_mem_cons.mpr ⟨zq_RX5_239 X (zM_378 hw hm) (by decide) rfl rfl, (List.forall_mem_cons.mpr ⟨zq_RX5_239 X (zM_379 hw hm) (by decide) rfl rfl, (List.forall_mem_cons.mpr ⟨zq_RX5_239 X (zM_380 hw hm) (by decide) rfl rfl, (List.forall_mem_cons.mpr ⟨zq_RX5_239 X (zM_381 hw hm) (by decide) rfl rfl, (List.forall_mem_cons.mpr ⟨zq_RX5_239 X (zM_382 hw hm) (by decide) rfl rfl, (List.forall_mem_cons.mpr ⟨zq_RX5_239 X (zM_383 hw hm) (by decide) rfl rfl, (List.forall_mem_cons.mpr ⟨zq_RX5_239 X (zM_384 hw hm) (by decide) rfl rfl, (List.forall_mem_cons.mpr ⟨zq_RX5_239 X (zM_385 hw hm) (by decide) rfl rfl, (List.forall_mem_cons.mpr ⟨zq_RX5_239 X (zM_386 hw hm) (by decide) rfl rfl, (List.forall_mem_cons.mpr ⟨zq_RX5_239 X (zM_387 hw hm) (by decide) rfl rfl, (List.forall_mem_cons.mpr ⟨zq_RX5_239 X (zM_388 hw hm) (by decide) rfl rfl, (List.forall_mem_cons.mpr ⟨zq_RX5_239 X (zM_389 hw hm) (by decide) rfl rfl, (List.forall_mem_cons.mpr ⟨zq_RX5_239 X (zM_390 hw hm) (by decide) rfl rfl, (List.forall_mem_cons.mpr ⟨zq_RX5_239 X (zM_391 hw hm) (by decide) rfl rfl, (List.forall_mem_cons.mpr ⟨zq_RX5_239 X (zM_392 hw hm) (by decide) rfl rfl, (List.forall_mem_cons.mpr ⟨zq_RX5_239 X (zM_393 hw hm) (by decide) rfl rfl, (List.forall_mem_cons.mpr ⟨zq_RX5_239 X (zM_394 hw hm) (by decide) rfl rfl, (List.forall_mem_cons.mpr ⟨zq_RX5_239 X (zM_395 hw hm) (by decide) rfl rfl, (List.forall_mem_cons.mpr ⟨zq_RX5_239 X (zM_396 hw hm) (by decide) rfl rfl, (List.forall_mem_cons.mpr ⟨zq_RX5_239 X (zM_397 hw hm) (by decide) rfl rfl, (List.forall_mem_cons.mpr ⟨zq_RX5_239 X (zM_398 hw hm) (by decide) rfl rfl, (List.forall_mem_cons.mpr ⟨zq_RX5_239 X (zM_399 hw hm) (by decide) rfl rfl, (List.forall_mem_cons.mpr ⟨zq_RX5_239 X (zM_400 hw hm) (by decide) rfl rfl, (List.forall_mem_cons.mpr ⟨zq_RX5_239 X (zM_401 hw hm) (by decide) rfl rfl, (List.forall_mem_cons.mpr ⟨zq_RX5_239 X (zM_402 hw hm) (by decide) rfl rfl, (List.forall_mem_cons.mpr ⟨zq_RX5_239 X (zM_403 hw hm) (by decide) rfl rfl, (List.forall_mem_cons.mpr ⟨zq_RX5_239 X (zM_404 hw hm) (by decide) rfl rfl, (List.forall_mem_cons.mpr ⟨zq_RX5_239 X (zM_405 hw hm) (by decide) rfl rfl, (List.forall_mem_cons.mpr ⟨zq_RX5_239 X (zM_406 hw hm) (by decide) rfl rfl, (List.forall_mem_cons.mpr ⟨zq_RX5_239 X (zM_407 hw hm) (by decide) rfl rfl, (List.forall_mem_cons.mpr ⟨zq_RX5_239 X (zM_408 hw hm) (by decide) rfl rfl, (List.forall_mem_cons.mpr ⟨zq_RX5_239 X (zM_409 hw hm) (by decide) rfl rfl, (List.forall_mem_cons.mpr ⟨zq_RX5_239 X (zM_410 hw hm) (by decide) rfl rfl, (List.forall_mem_cons.mpr ⟨zq_RX5_239 X (zM_411 hw hm) (by decide) rfl rfl, (List.forall_mem_cons.mpr ⟨zq_RX5_239 X (zM_412 hw hm) (by decide) rfl rfl, (List.forall_mem_cons.mpr ⟨zq_RX5_239 X (zM_413 hw hm) (by decide) rfl rfl, (List.forall_mem_cons.mpr ⟨zq_RX5_239 X (zM_414 hw hm) (by decide) rfl rfl, (List.forall_mem_cons.mpr ⟨zq_RX5_239 X (zM_415 hw hm) (by decide) rfl rfl, (List.forall_mem_cons.mpr ⟨zq_RX5_250 X (zM_597 hw hm) (by decide) rfl rfl, nilz⟩)⟩)⟩)⟩)⟩)⟩)⟩)⟩)⟩)⟩)⟩)⟩)⟩)⟩)⟩)⟩)⟩)⟩)⟩)⟩)⟩)⟩)⟩)⟩)⟩)⟩)⟩)⟩)⟩)⟩)⟩)⟩)⟩)⟩)⟩)⟩)⟩)⟩)⟩)⟩)⟩)⟩)⟩)⟩)⟩)⟩)⟩)⟩)⟩)⟩)⟩)⟩)⟩)⟩)⟩)⟩)⟩)⟩)⟩)⟩)⟩)⟩)⟩)
set_option maxRecDepth 100000 in
theorem zk_807_0 : zm1 zKS zuq zNS zm_807 4000 zt_807_0 = true := z1F (zdt_X5_suspects) (by decide +kernel)
set_option maxRecDepth 100000 in
theorem zk_807_1 : zm1 zKS zuq zNS zm_807 4000 zt_807_1 = true := z1F (zdt_X5_suspects) (by decide +kernel)
set_option maxRecDepth 100000 in
theorem zk_807_2 : zm1 zKS zuq zNS zm_807 4000 zt_807_2 = true := z1F (zdt_X5_suspects) (by decide +kernel)
set_option maxRecDepth 100000 in
theorem zk_807_3 : zm1 zKS zuq zNS zm_807 4000 zt_807_3 = true := z1F (zdt_X5_suspects) (by decide +kernel)
set_option maxRecDepth 100000 in
theorem zk_807_4 : zm1 zKS zuq zNS zm_807 4000 zt_807_4 = true := z1F (zdt_X5_suspects) (by decide +kernel)
set_option maxRecDepth 100000 in
theorem zk_807_5 : zm1 zKS zuq zNS zm_807 4000 zt_807_5 = true := z1F (zdt_X5_suspects) (by decide +kernel)
set_option maxRecDepth 100000 in
theorem zk_807_6 : zm1 zKS zuq zNS zm_807 4000 zt_807_6 = true := z1F (zdt_X5_suspects) (by decide +kernel)
set_option maxRecDepth 100000 in
theorem zk_807_7 : zm1 zKS zuq zNS zm_807 4000 zt_807_7 = true := z1F (zdt_X5_suspects) (by decide +kernel)
set_option maxRecDepth 100000 in
theorem zk_807_8 : zm1 zKS zuq zNS zm_807 4000 zt_807_8 = true := z1F (zdt_X5_suspects) (by decide +kernel)
set_option maxRecDepth 100000 in
theorem zk_807_9 : zm1 zKS zuq zNS zm_807 4000 zt_807_9 = true := z1F (zdt_X5_suspects) (by decide +kernel)
set_option maxRecDepth 100000 in
theorem zk_807_10 : zm1 zKS zuq zNS zm_807 4000 zt_807_10 = true := z1F (zdt_X5_suspects) (by decide +kernel)
set_option maxRecDepth 100000 in
theorem zk_807_11 : zm1 zKS zuq zNS zm_807 4000 zt_807_11 = true := z1F (zdt_X5_suspects) (by decide +kernel)
set_option maxRecDepth 100000 in
theorem zk_807_12 : zm1 zKS zuq zNS zm_807 4000 zt_807_12 = true := z1F (zdt_X5_suspects) (by decide +kernel)
set_option maxRecDepth 100000 in
theorem zk_807_13 : zm1 zKS zuq zNS zm_807 4000 zt_807_13 = true := z1F (zdt_X5_suspects) (by decide +kernel)
set_option maxRecDepth 100000 in
theorem zk_807_14 : zm1 zKS zuq zNS zm_807 4000 zt_807_14 = true := z1F (zdt_X5_suspects) (by decide +kernel)
set_option maxRecDepth 100000 in
theorem zk_807_15 : zm1 zKS zuq zNS zm_807 4000 zt_807_15 = true := z1F (zdt_X5_suspects) (by decide +kernel)
set_option maxRecDepth 100000 in
theorem zk_807_16 : zm1 zKS zuq zNS zm_807 4000 zt_807_16 = true := z1F (zdt_X5_suspects) (by decide +kernel)
set_option maxRecDepth 100000 in
theorem zk_807_17 : zm1 zKS zuq zNS zm_807 4000 zt_807_17 = true := z1F (zdt_X5_suspects) (by decide +kernel)
set_option maxRecDepth 100000 in
theorem zk_807_18 : zm1 zKS zuq zNS zm_807 4000 zt_807_18 = true := z1F (zdt_X5_suspects) (by decide +kernel)
set_option maxRecDepth 100000 in
theorem zk_807_19 : zm1 zKS zuq zNS zm_807 4000 zt_807_19 = true := z1F (zdt_X5_suspects) (by decide +kernel)
set_option maxRecDepth 100000 in
theorem zk_807_20 : zm1 zKS zuq zNS zm_807 4000 zt_807_20 = true := z1F (zdt_X5_suspects) (by decide +kernel)
set_option maxRecDepth 100000 in
theorem zk_807_21 : zm1 zKS zuq zNS zm_807 4000 zt_807_21 = true := z1F (zdt_X5_suspects) (by decide +kernel)
set_option maxRecDepth 100000 in
theorem zk_807_22 : zm1 zKS zuq zNS zm_807 4000 zt_807_22 = true := z1F (zdt_X5_suspects) (by decide +kernel)
set_option maxRecDepth 100000 in
theorem zk_807_23 : zm1 zKS zuq zNS zm_807 4000 zt_807_23 = true := z1F (zdt_X5_suspects) (by decide +kernel)
set_option maxRecDepth 100000 in
theorem zk_807_24 : zm1 zKS zuq zNS zm_807 4000 zt_807_24 = true := z1F (zdt_X5_suspects) (by decide +kernel)
set_option maxRecDepth 100000 in
theorem zk_807_25 : zm1 zKS zuq zNS zm_807 4000 zt_807_25 = true := z1F (zdt_X5_suspects) (by decide +kernel)
set_option maxRecDepth 100000 in
theorem zk_807_26 : zm1 zKS zuq zNS zm_807 4000 zt_807_26 = true := z1F (zdt_X5_suspects) (by decide +kernel)
set_option maxRecDepth 100000 in
theorem zk_807_27 : zm1 zKS zuq zNS zm_807 4000 zt_807_27 = true := z1F (zdt_X5_suspects) (by decide +kernel)
set_option maxRecDepth 100000 in
theorem zk_807_28 : zm1 zKS zuq zNS zm_807 4000 zt_807_28 = true := z1F (zdt_X5_suspects) (by decide +kernel)
set_option maxRecDepth 100000 in
theorem zk_807_29 : zm1 zKS zuq zNS zm_807 4000 zt_807_29 = true := z1F (zdt_X5_suspects) (by decide +kernel)
set_option maxRecDepth 100000 in
theorem zk_807_30 : zm1 zKS zuq zNS zm_807 4000 zt_807_30 = true := z1F (zdt_X5_suspects) (by decide +kernel)
set_option maxRecDepth 100000 in
theorem zk_807_s : zm0 zKS zuq zNS zm_807 4000 = true := z0F (zdt_X5_suspects) (by decide +kernel)
set_option maxRecDepth 100000 in
theorem zk_807 : zmeth zKS zuq zNS zm_807 4000 = true := zmeth_by zk_807_s (List.forall_mem_cons.mpr ⟨zk_807_0, (List.forall_mem_cons.mpr ⟨zk_807_1, (List.forall_mem_cons.mpr ⟨zk_807_2, (List.forall_mem_cons.mpr ⟨zk_807_3, (List.forall_mem_cons.mpr ⟨zk_807_4, (List.forall_mem_cons.mpr ⟨zk_807_5, (List.forall_mem_cons.mpr ⟨zk_807_6, (List.forall_mem_cons.mpr ⟨zk_807_7, (List.forall_mem_cons.mpr ⟨zk_807_8, (List.forall_mem_cons.mpr ⟨zk_807_9, (List.forall_mem_cons.mpr ⟨zk_807_10, (List.forall_mem_cons.mpr ⟨zk_807_11, (List.forall_mem_cons.mpr ⟨zk_807_12, (List.forall_mem_cons.mpr ⟨zk_807_13, (List.forall_mem_cons.mpr ⟨zk_807_14, (List.forall_mem_cons.mpr ⟨zk_807_15, (List.forall_mem_cons.mpr ⟨zk_807_16, (List.forall_mem_cons.mpr ⟨zk_807_17, (List.forall_mem_cons.mpr ⟨zk_807_18, (List.forall_mem_cons.mpr ⟨zk_807_19, (List.forall_mem_cons.mpr ⟨zk_807_20, (List.forall_mem_cons.mpr ⟨zk_807_21, (List.forall_mem_cons.mpr ⟨zk_807_22, (List.forall_mem_cons.mpr ⟨zk_807_23, (List.forall_mem_cons.mpr ⟨zk_807_24, (List.forall_mem_cons.mpr ⟨zk_807_25, (List.forall_mem_cons.mpr ⟨zk_807_26, (List.forall_mem_cons.mpr ⟨zk_807_27, (List.forall_mem_cons.mpr ⟨zk_807_28, (List.forall_mem_cons.mpr ⟨zk_807_29, (List.forall_mem_cons.mpr ⟨zk_807_30, nilz⟩)⟩)⟩)⟩)⟩)⟩)⟩)⟩)⟩)⟩)⟩)⟩)⟩)⟩)⟩)⟩)⟩)⟩)⟩)⟩)⟩)⟩)⟩)⟩)⟩)⟩)⟩)⟩)⟩)⟩)⟩)
set_option maxRecDepth 100000 in
theorem zM_807 {l : Launch} {D : va_G} {cI cZ cB cJ cR : ClassId} {ks ad : List Nat} {Psi : va_W → Prop} (hw : zworld ks ad zuq zNS Psi) (hm : zMan l D cI cZ cB cJ cR ks ad Psi) : zMet l D cI cZ cB cJ cR zKS ks ad Psi yX5_suspects (.code yX5_suspects cX5_suspects 4 (some .int)) 4 zc_807 :=
  zmet_of hw 4 (by decide) 4000 zk_807 (by decide) (by decide) (fun X => ⟨zg_RX5 X, zp_RX5 X, zl1_RX5 X, zl2_RX5 X, nilz, (List.forall_mem_cons.mpr ⟨zq_RX5_220 X (zM_285 hw hm) (by decide) rfl rfl, (List.forall_mem_cons.mpr ⟨zq_RX5_239 X (zM_416 hw hm) (by decide) rfl rfl, (List.forall_mem_cons.mpr ⟨zq_RX5_239 X (zM_417 hw hm) (by decide) rfl rfl, (List.forall_mem_cons.mpr ⟨zq_RX5_239 X (zM_418 hw hm) (by decide) rfl rfl, (List.forall_mem_cons.mpr ⟨zq_RX5_239 X (zM_419 hw hm) (by decide) rfl rfl, (List.forall_mem_cons.mpr ⟨zq_RX5_239 X (zM_420 hw hm) (by decide) rfl rfl, (List.forall_mem_cons.mpr ⟨zq_RX5_239 X (zM_421 hw hm) (by decide) rfl rfl, (List.forall_mem_cons.mpr ⟨zq_RX5_239 X (zM_422 hw hm) (by decide) rfl rfl, (List.forall_mem_cons.mpr ⟨zq_RX5_239 X (zM_423 hw hm) (by decide) rfl rfl, (List.forall_mem_cons.mpr ⟨zq_RX5_239 X (zM_424 hw hm) (by decide) rfl rfl, (List.forall_mem_cons.mpr ⟨zq_RX5_239 X (zM_425 hw hm) (by decide) rfl rfl, (List.forall_mem_cons.mpr ⟨zq_RX5_239 X (zM_426 hw hm) (by decide) rfl rfl, (List.forall_mem_cons.mpr ⟨zq_RX5_239 X (zM_427 hw hm) (by decide) rfl rfl, (List.forall_mem_cons.mpr ⟨zq_RX5_239 X (zM_428 hw hm) (by decide) rfl rfl, (List.forall_mem_cons.mpr ⟨zq_RX5_239 X (zM_429 hw hm) (by decide) rfl rfl, (List.forall_mem_cons.mpr ⟨zq_RX5_239 X (zM_430 hw hm) (by decide) rfl rfl, (List.forall_mem_cons.mpr ⟨zq_RX5_239 X (zM_431 hw hm) (by decide) rfl rfl, (List.forall_mem_cons.mpr ⟨zq_RX5_239 X (zM_432 hw hm) (by decide) rfl rfl, (List.forall_mem_cons.mpr ⟨zq_RX5_239 X (zM_433 hw hm) (by decide) rfl rfl, (List.forall_mem_cons.mpr ⟨zq_RX5_239 X (zM_434 hw hm) (by decide) rfl rfl, (List.forall_mem_cons.mpr ⟨zq_RX5_239 X (zM_435 hw hm) (by decide) rfl rfl, (List.forall_mem_cons.mpr ⟨zq_RX5_239 X (zM_436 hw hm) (by decide) rfl rfl, (List.forall_mem_cons.mpr ⟨zq_RX5_239 X (zM_437 hw hm) (by decide) rfl rfl, (List.forall_mem_cons.mpr ⟨zq_RX5_239 X (zM_438 hw hm) (by decide) rfl rfl, (List.forall_mem_cons.mpr ⟨zq_RX5_239 X (zM_439 hw hm) (by decide) rfl rfl, (List.forall_mem_cons.mpr ⟨zq_RX5_239 X (zM_440 hw hm) (by decide) rfl rfl, (List.forall_mem_cons.mpr ⟨zq_RX5_239 X (zM_441 hw hm) (by decide) rfl rfl, (List.forall_mem_cons.mpr ⟨zq_RX5_239 X (zM_442 hw hm) (by decide) rfl rfl, (List.forall_mem_cons.mpr ⟨zq_RX5_239 X (zM_443 hw hm) (by decide) rfl rfl, (List.forall_mem_cons.mpr ⟨zq_RX5_239 X (zM_444 hw hm) (by decide) rfl rfl, (List.forall_mem_cons.mpr ⟨zq_RX5_239 X (zM_445 hw hm) (by decide) rfl rfl, (List.forall_mem_cons.mpr ⟨zq_RX5_239 X (zM_446 hw hm) (by decide) rfl rfl, (List.forall_mem_cons.mpr ⟨zq_RX5_239 X (zM_447 hw hm) (by decide) rfl rfl, (List.forall_mem_cons.mpr ⟨zq_RX5_239 X (zM_448 hw hm) (by decide) rfl rfl, (List.forall_mem_cons.mpr ⟨zq_RX5_239 X (zM_449 hw hm) (by decide) rfl rfl, (List.forall_mem_cons.mpr ⟨zq_RX5_239 X (zM_450 hw hm) (by decide) rfl rfl, (List.forall_mem_cons.mpr ⟨zq_RX5_239 X (zM_451 hw hm) (by decide) rfl rfl, (List.forall_mem_cons.mpr ⟨zq_RX5_239 X (zM_452 hw hm) (by decide) rfl rfl, (List.forall_mem_cons.mpr ⟨zq_RX5_239 X (zM_453 hw hm) (by decide) rfl rfl, (List.forall_mem_cons.mpr ⟨zq_RX5_239 X (zM_454 hw hm) (by decide) rfl rfl, (List.forall_mem_cons.mpr ⟨zq_RX5_239 X (zM_455 hw hm) (by decide) rfl rfl, (List.forall_mem_cons.mpr ⟨zq_RX5_239 X (zM_456 hw hm) (by decide) rfl rfl, (List.forall_mem_cons.mpr ⟨zq_RX5_239 X (zM_457 hw hm) (by decide) rfl rfl, (List.forall_mem_cons.mpr ⟨zq_RX5_239 X (zM_458 hw hm) (by decide) rfl rfl, (List.forall_mem_cons.mpr ⟨zq_RX5_239 X (zM_459 hw hm) (by decide) rfl rfl, (List.forall_mem_cons.mpr ⟨zq_RX5_239 X (zM_460 hw hm) (by decide) rfl rfl, (List.forall_mem_cons.mpr ⟨zq_RX5_239 X (zM_461 hw hm) (by decide) rfl rfl, (List.forall_mem_cons.mpr ⟨zq_RX5_239 X (zM_462 hw hm) (by decide) rfl rfl, (List.forall_mem_cons.mpr ⟨zq_RX5_239 X (zM_463 hw hm) (by decide) rfl rfl, (List.forall_mem_cons.mpr ⟨zq_RX5_239 X (zM_464 hw hm) (by decide) rfl rfl, (List.forall_mem_cons.mpr ⟨zq_RX5_239 X (zM_465 hw hm) (by decide) rfl rfl, (List.forall_mem_cons.mpr ⟨zq_RX5_239 X (zM_466 hw hm) (by decide) rfl rfl, (List.forall_mem_cons.mpr ⟨zq_RX5_239 X (zM_467 hw hm) (by decide) rfl rfl, (List.forall_mem_cons.mpr ⟨zq_RX5_239 X (zM_468 hw hm) (by decide) rfl rfl, (List.forall_mem_cons.mpr ⟨zq_RX5_239 X (zM_469 hw hm) (by decide) rfl rfl, (List.forall_mem_cons.mpr ⟨zq_RX5_239 X (zM_470 hw hm) (by decide) rfl rfl, (List.forall_mem_cons.mpr ⟨zq_RX5_239 X (zM_471 hw hm) (by decide) rfl rfl, (List.forall_mem_cons.mpr ⟨zq_RX5_239 X (zM_472 hw hm) (by decide) rfl rfl, (List.forall_mem_cons.mpr ⟨zq_RX5_239 X (zM_473 hw hm) (by decide) rfl rfl, (List.forall_mem_cons.mpr ⟨zq_RX5_239 X (zM_474 hw hm) (by decide) rfl rfl, (List.forall_mem_cons.mpr ⟨zq_RX5_239 X (zM_475 hw hm) (by decide) rfl rfl, (List.forall_mem_cons.mpr ⟨zq_RX5_250 X (zM_599 hw hm) (by decide) rfl rfl, nilz⟩)⟩)⟩)⟩)⟩)⟩)⟩)⟩)⟩)⟩)⟩)⟩)⟩)⟩)⟩)⟩)⟩)⟩)⟩)⟩)⟩)⟩)⟩)⟩)⟩)⟩)⟩)⟩)⟩)⟩)⟩)⟩)⟩)⟩)⟩)⟩)⟩)⟩)⟩)⟩)⟩)⟩)⟩)⟩)⟩)⟩)⟩)⟩)⟩)⟩)⟩)⟩)⟩)⟩)⟩)⟩)⟩)⟩)⟩)⟩)⟩)⟩)⟩)
