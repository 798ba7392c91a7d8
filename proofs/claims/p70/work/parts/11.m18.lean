set_option maxRecDepth 100000 in
theorem zk_795_0 : zm1 zKS zuq zNS zm_795 4000 zt_795_0 = true := z1F (zdt_X5_refuseWorn) (by decide +kernel)
set_option maxRecDepth 100000 in
theorem zk_795_1 : zm1 zKS zuq zNS zm_795 4000 zt_795_1 = true := z1F (zdt_X5_refuseWorn) (by decide +kernel)
set_option maxRecDepth 100000 in
theorem zk_795_2 : zm1 zKS zuq zNS zm_795 4000 zt_795_2 = true := z1F (zdt_X5_refuseWorn) (by decide +kernel)
set_option maxRecDepth 100000 in
theorem zk_795_3 : zm1 zKS zuq zNS zm_795 4000 zt_795_3 = true := z1F (zdt_X5_refuseWorn) (by decide +kernel)
set_option maxRecDepth 100000 in
theorem zk_795_4 : zm1 zKS zuq zNS zm_795 4000 zt_795_4 = true := z1F (zdt_X5_refuseWorn) (by decide +kernel)
set_option maxRecDepth 100000 in
theorem zk_795_5 : zm1 zKS zuq zNS zm_795 4000 zt_795_5 = true := z1F (zdt_X5_refuseWorn) (by decide +kernel)
set_option maxRecDepth 100000 in
theorem zk_795_6 : zm1 zKS zuq zNS zm_795 4000 zt_795_6 = true := z1F (zdt_X5_refuseWorn) (by decide +kernel)
set_option maxRecDepth 100000 in
theorem zk_795_7 : zm1 zKS zuq zNS zm_795 4000 zt_795_7 = true := z1F (zdt_X5_refuseWorn) (by decide +kernel)
set_option maxRecDepth 100000 in
theorem zk_795_8 : zm1 zKS zuq zNS zm_795 4000 zt_795_8 = true := z1F (zdt_X5_refuseWorn) (by decide +kernel)
set_option maxRecDepth 100000 in
theorem zk_795_9 : zm1 zKS zuq zNS zm_795 4000 zt_795_9 = true := z1F (zdt_X5_refuseWorn) (by decide +kernel)
set_option maxRecDepth 100000 in
theorem zk_795_10 : zm1 zKS zuq zNS zm_795 4000 zt_795_10 = true := z1F (zdt_X5_refuseWorn) (by decide +kernel)
set_option maxRecDepth 100000 in
theorem zk_795_11 : zm1 zKS zuq zNS zm_795 4000 zt_795_11 = true := z1F (zdt_X5_refuseWorn) (by decide +kernel)
set_option maxRecDepth 100000 in
theorem zk_795_12 : zm1 zKS zuq zNS zm_795 4000 zt_795_12 = true := z1F (zdt_X5_refuseWorn) (by decide +kernel)
set_option maxRecDepth 100000 in
theorem zk_795_13 : zm1 zKS zuq zNS zm_795 4000 zt_795_13 = true := z1F (zdt_X5_refuseWorn) (by decide +kernel)
set_option maxRecDepth 100000 in
theorem zk_795_14 : zm1 zKS zuq zNS zm_795 4000 zt_795_14 = true := z1F (zdt_X5_refuseWorn) (by decide +kernel)
set_option maxRecDepth 100000 in
theorem zk_795_15 : zm1 zKS zuq zNS zm_795 4000 zt_795_15 = true := z1F (zdt_X5_refuseWorn) (by decide +kernel)
set_option maxRecDepth 100000 in
theorem zk_795_16 : zm1 zKS zuq zNS zm_795 4000 zt_795_16 = true := z1F (zdt_X5_refuseWorn) (by decide +kernel)
set_option maxRecDepth 100000 in
theorem zk_795_17 : zm1 zKS zuq zNS zm_795 4000 zt_795_17 = true := z1F (zdt_X5_refuseWorn) (by decide +kernel)
set_option maxRecDepth 100000 in
theorem zk_795_18 : zm1 zKS zuq zNS zm_795 4000 zt_795_18 = true := z1F (zdt_X5_refuseWorn) (by decide +kernel)
set_option maxRecDepth 100000 in
theorem zk_795_19 : zm1 zKS zuq zNS zm_795 4000 zt_795_19 = true := z1F (zdt_X5_refuseWorn) (by decide +kernel)
set_option maxRecDepth 100000 in
theorem zk_795_20 : zm1 zKS zuq zNS zm_795 4000 zt_795_20 = true := z1F (zdt_X5_refuseWorn) (by decide +kernel)
set_option maxRecDepth 100000 in
theorem zk_795_s : zm0 zKS zuq zNS zm_795 4000 = true := z0F (zdt_X5_refuseWorn) (by decide +kernel)
set_option maxRecDepth 100000 in
theorem zk_795 : zmeth zKS zuq zNS zm_795 4000 = true := zmeth_by zk_795_s (List.forall_mem_cons.mpr ⟨zk_795_0, (List.forall_mem_cons.mpr ⟨zk_795_1, (List.forall_mem_cons.mpr ⟨zk_795_2, (List.forall_mem_cons.mpr ⟨zk_795_3, (List.forall_mem_cons.mpr ⟨zk_795_4, (List.forall_mem_cons.mpr ⟨zk_795_5, (List.forall_mem_cons.mpr ⟨zk_795_6, (List.forall_mem_cons.mpr ⟨zk_795_7, (List.forall_mem_cons.mpr ⟨zk_795_8, (List.forall_mem_cons.mpr ⟨zk_795_9, (List.forall_mem_cons.mpr ⟨zk_795_10, (List.forall_mem_cons.mpr ⟨zk_795_11, (List.forall_mem_cons.mpr ⟨zk_795_12, (List.forall_mem_cons.mpr ⟨zk_795_13, (List.forall_mem_cons.mpr ⟨zk_795_14, (List.forall_mem_cons.mpr ⟨zk_795_15, (List.forall_mem_cons.mpr ⟨zk_795_16, (List.forall_mem_cons.mpr ⟨zk_795_17, (List.forall_mem_cons.mpr ⟨zk_795_18, (List.forall_mem_cons.mpr ⟨zk_795_19, (List.forall_mem_cons.mpr ⟨zk_795_20, nilz⟩)⟩)⟩)⟩)⟩)⟩)⟩)⟩)⟩)⟩)⟩)⟩)⟩)⟩)⟩)⟩)⟩)⟩)⟩)⟩)⟩)
set_option maxRecDepth 100000 in
theorem zM_795 {l : Launch} {D : va_G} {cI cZ cB cJ cR : ClassId} {ks ad : List Nat} {Psi : va_W → Prop} (hw : zworld ks ad zuq zNS Psi) (hm : zMan l D cI cZ cB cJ cR ks ad Psi) : zMet l D cI cZ cB cJ cR zKS ks ad Psi yX5_refuseWorn (.code yX5_refuseWorn cX5_refuseWorn 6 (some .int)) 2 zc_795 :=
  zmet_of hw 2 (by decide) 4000 zk_795 (by decide) (by decide) (fun X => ⟨zg_RX5 X, zp_RX5 X, zl1_RX5 X, zl2_RX5 X, nilz, (List.forall_mem_cons.mpr ⟨zq_RX5_83 X (zM_303 hw hm) (by decide) rfl rfl, (List.forall_mem_cons.mpr ⟨zq_RX5_87 X (zM_301 hw hm) (by decide) rfl rfl, (List.forall_mem_cons.mpr ⟨zq_RX5_239 X (zM_360 hw hm) (by decide) rfl rfl, (List.forall_mem_cons.mpr ⟨zq_RX5_239 X (zM_361 hw hm) (by decide) rfl rfl, (List.forall_mem_cons.mpr ⟨zq_RX5_239 X (zM_362 hw hm) (by decide) rfl rfl, (List.forall_mem_cons.mpr ⟨zq_RX5_239 X (zM_363 hw hm) (by decide) rfl rfl, (List.forall_mem_cons.mpr ⟨zq_RX5_239 X (zM_364 hw hm) (by decide) rfl rfl, (List.forall_mem_cons.mpr ⟨zq_RX5_239 X (zM_365 hw hm) (by decide) rfl rfl, (List.forall_mem_cons.mpr ⟨zq_RX5_239 X (zM_366 hw hm) (by decide) rfl rfl, (List.forall_mem_cons.mpr ⟨zq_RX5_239 X (zM_367 hw hm) (by decide) rfl rfl, (List.forall_mem_cons.mpr ⟨zq_RX5_239 X (zM_368 hw hm) (by decide) rfl rfl, (List.forall_mem_cons.mpr ⟨zq_RX5_239 X (zM_369 hw hm) (by decide) rfl rfl, (List.forall_mem_cons.mpr ⟨zq_RX5_239 X (zM_370 hw hm) (by decide) rfl rfl, (List.forall_mem_cons.mpr ⟨zq_RX5_239 X (zM_371 hw hm) (by decide) rfl rfl, (List.forall_mem_cons.mpr ⟨zq_RX5_239 X (zM_372 hw hm) (by decide) rfl rfl, (List.forall_mem_cons.mpr ⟨zq_RX5_239 X (zM_373 hw hm) (by decide) rfl rfl, (List.forall_mem_cons.mpr ⟨zq_RX5_239 X (zM_374 hw hm) (by decide) rfl rfl, (List.forall_mem_cons.mpr ⟨zq_RX5_239 X (zM_375 hw hm) (by decide) rfl rfl, (List.forall_mem_cons.mpr ⟨zq_RX5_239 X (zM_376 hw hm) (by decide) rfl rfl, (List.forall_mem_cons.mpr ⟨zq_RX5_239 X (zM_377 hw hm) (by decide) rfl rfl, (List.forall_mem_cons.mpr ⟨zq_RX5_239 X (zM_378 hw hm) (by decide) rfl rfl, (List.forall_mem_cons.mpr ⟨zq_RX5_239 X (zM_379 hw hm) (by decide) rfl rfl, (List.forall_mem_cons.mpr ⟨zq_RX5_239 X (zM_380 hw hm) (by decide) rfl rfl, (List.forall_mem_cons.mpr ⟨zq_RX5_239 X (zM_381 hw hm) (by decide) rfl rfl, (List.forall_mem_cons.mpr ⟨zq_RX5_239 X (zM_382 hw hm) (by decide) rfl rfl, (List.forall_mem_cons.mpr ⟨zq_RX5_239 X (zM_383 hw hm) (by decide) rfl rfl, (List.forall_mem_cons.mpr ⟨zq_RX5_239 X (zM_384 hw hm) (by decide) rfl rfl, (List.forall_mem_cons.mpr ⟨zq_RX5_239 X (zM_385 hw hm) (by decide) rfl rfl, (List.forall_mem_cons.mpr ⟨zq_RX5_239 X (zM_386 hw hm) (by decide) rfl rfl, (List.forall_mem_cons.mpr ⟨zq_RX5_239 X (zM_387 hw hm) (by decide) rfl rfl, (List.forall_mem_cons.mpr ⟨zq_RX5_239 X (zM_388 hw hm) (by decide) rfl rfl, (List.forall_mem_cons.mpr ⟨zq_RX5_239 X (zM_389 hw hm) (by decide) rfl rfl, (List.forall_mem_cons.mpr ⟨zq_RX5_239 X (zM_390 hw hm) (by decide) rfl rfl, (List.forall_mem_cons.mpr ⟨zq_RX5_239 X (zM_391 hw hm) (by decide) rfl rfl, (List.forall_mem_cons.mpr ⟨zq_RX5_239 X (zM_392 hw hm) (by decide) rfl rfl, (List.forall_mem_cons.mpr ⟨zq_RX5_239 X (zM_393 hw hm) (by decide) rfl rfl, (List.forall_mem_cons.mpr ⟨zq_RX5_239 X (zM_394 hw hm) (by decide) rfl rfl, (List.forall_mem_cons.mpr ⟨zq_RX5_239 X (zM_395 hw hm) (by decide) rfl rfl, (List.forall_mem_cons.mpr ⟨zq_RX5_239 X (zM_396 hw hm) (by decide) rfl rfl, (List.forall_mem_cons.mpr ⟨zq_RX5_239 X (zM_397 hw hm) (by decide) rfl rfl, (List.forall_mem_cons.mpr ⟨zq_RX5_239 X (zM_398 hw hm) (by decide) rfl rfl, (List.forall_mem_cons.mpr ⟨zq_RX5_239 X (zM_399 hw hm) (by decide) rfl rfl, (List.forall_mem_cons.mpr ⟨zq_RX5_239 X (zM_400 hw hm) (by decide) rfl rfl, (List.forall_mem_cons.mpr ⟨zq_RX5_239 X (zM_401 hw hm) (by decide) rfl rfl, (List.forall_mem_cons.mpr ⟨zq_RX5_239 X (zM_402 hw hm) (by decide) rfl rfl, (List.forall_mem_cons.mpr ⟨zq_RX5_239 X (zM_403 hw hm) (by decide) rfl rfl, (List.forall_mem_cons.mpr ⟨zq_RX5_239 X (zM_404 hw hm) (by decide) rfl rfl, (List.forall_mem_cons.mpr ⟨zq_RX5_239 X (zM_405 hw hm) (by decide) rfl rfl, (List.forall_mem_cons.mpr ⟨zq_RX5_239 X (zM_406 hw hm) (by decide) rfl rfl, (List.forall_mem_cons.mpr ⟨zq_RX5_239 X (zM_407 hw hm) (by decide) rfl rfl, (List.forall_mem_cons.mpr ⟨zq_RX5_239 X (zM_408 hw hm) (by decide) rfl rfl, (List.forall_mem_cons.mpr ⟨zq_RX5_239 X (zM_409 hw hm) (by decide) rfl rfl, (List.forall_mem_cons.mpr ⟨zq_RX5_239 X (zM_410 hw hm) (by decide) rfl rfl, (List.forall_mem_cons.mpr ⟨zq_RX5_239 X (zM_411 hw hm) (by decide) rfl rfl, (List.forall_mem_cons.mpr ⟨zq_RX5_239 X (zM_412 hw hm) (by decide) rfl rfl, (List.forall_mem_cons.mpr ⟨zq_RX5_239 X (zM_413 hw hm) (by decide) rfl rfl, (List.forall_mem_cons.mpr ⟨zq_RX5_239 X (zM_414 hw hm) (by decide) rfl rfl, (List.forall_mem_cons.mpr ⟨zq_RX5_239 X (zM_415 hw hm) (by decide) rfl rfl, (List.forall_mem_cons.mpr ⟨zq_RX5_239 X (zM_416 hw hm) (by decide) rfl rfl, (List.forall_mem_cons.mpr ⟨zq_RX5_239 X (zM_417 hw hm) (by decide) rfl rfl, (List.forall_mem_cons.mpr ⟨zq_RX5_239 X (zM_418 hw hm) (by decide) rfl rfl, (List.forall_mem_cons.mpr ⟨zq_RX5_239 X (zM_419 hw hm) (by decide) rfl rfl, (List.forall_mem_cons.mpr ⟨zq_RX5_250 X (zM_601 hw hm) (by decide) rfl rfl, (List.forall_mem_cons.mpr ⟨zq_RX5_355 X (zM_785 hw hm) (by decide) rfl rfl, nilz⟩)⟩)⟩)⟩)⟩)⟩)⟩)⟩)⟩)⟩)⟩)⟩)⟩)⟩)⟩)⟩)⟩)⟩)⟩)⟩)⟩)⟩)⟩)⟩)⟩)⟩)⟩)⟩)⟩)⟩)⟩)⟩)⟩)⟩)⟩)⟩)⟩)⟩)⟩)⟩)⟩)⟩)⟩)⟩)⟩)⟩)⟩)⟩)⟩)⟩)⟩)⟩)⟩)⟩)⟩)⟩)⟩)⟩)⟩)⟩)⟩)⟩)⟩)⟩)⟩)
set_option maxRecDepth 100000 in
theorem zk_796_0 : zm1 zKS zuq zNS zm_796 4000 zt_796_0 = true := z1F (zdt_X5_refuseWorn) (by decide +kernel)
set_option maxRecDepth 100000 in
theorem zk_796_1 : zm1 zKS zuq zNS zm_796 4000 zt_796_1 = true := z1F (zdt_X5_refuseWorn) (by decide +kernel)
set_option maxRecDepth 100000 in
theorem zk_796_2 : zm1 zKS zuq zNS zm_796 4000 zt_796_2 = true := z1F (zdt_X5_refuseWorn) (by decide +kernel)
set_option maxRecDepth 100000 in
theorem zk_796_3 : zm1 zKS zuq zNS zm_796 4000 zt_796_3 = true := z1F (zdt_X5_refuseWorn) (by decide +kernel)
set_option maxRecDepth 100000 in
theorem zk_796_4 : zm1 zKS zuq zNS zm_796 4000 zt_796_4 = true := z1F (zdt_X5_refuseWorn) (by decide +kernel)
set_option maxRecDepth 100000 in
theorem zk_796_5 : zm1 zKS zuq zNS zm_796 4000 zt_796_5 = true := z1F (zdt_X5_refuseWorn) (by decide +kernel)
set_option maxRecDepth 100000 in
theorem zk_796_6 : zm1 zKS zuq zNS zm_796 4000 zt_796_6 = true := z1F (zdt_X5_refuseWorn) (by decide +kernel)
set_option maxRecDepth 100000 in
theorem zk_796_7 : zm1 zKS zuq zNS zm_796 4000 zt_796_7 = true := z1F (zdt_X5_refuseWorn) (by decide +kernel)
set_option maxRecDepth 100000 in
theorem zk_796_8 : zm1 zKS zuq zNS zm_796 4000 zt_796_8 = true := z1F (zdt_X5_refuseWorn) (by decide +kernel)
set_option maxRecDepth 100000 in
theorem zk_796_9 : zm1 zKS zuq zNS zm_796 4000 zt_796_9 = true := z1F (zdt_X5_refuseWorn) (by decide +kernel)
set_option maxRecDepth 100000 in
theorem zk_796_10 : zm1 zKS zuq zNS zm_796 4000 zt_796_10 = true := z1F (zdt_X5_refuseWorn) (by decide +kernel)
set_option maxRecDepth 100000 in
theorem zk_796_11 : zm1 zKS zuq zNS zm_796 4000 zt_796_11 = true := z1F (zdt_X5_refuseWorn) (by decide +kernel)
set_option maxRecDepth 100000 in
theorem zk_796_12 : zm1 zKS zuq zNS zm_796 4000 zt_796_12 = true := z1F (zdt_X5_refuseWorn) (by decide +kernel)
set_option maxRecDepth 100000 in
theorem zk_796_13 : zm1 zKS zuq zNS zm_796 4000 zt_796_13 = true := z1F (zdt_X5_refuseWorn) (by decide +kernel)
set_option maxRecDepth 100000 in
theorem zk_796_14 : zm1 zKS zuq zNS zm_796 4000 zt_796_14 = true := z1F (zdt_X5_refuseWorn) (by decide +kernel)
set_option maxRecDepth 100000 in
theorem zk_796_15 : zm1 zKS zuq zNS zm_796 4000 zt_796_15 = true := z1F (zdt_X5_refuseWorn) (by decide +kernel)
set_option maxRecDepth 100000 in
theorem zk_796_16 : zm1 zKS zuq zNS zm_796 4000 zt_796_16 = true := z1F (zdt_X5_refuseWorn) (by decide +kernel)
set_option maxRecDepth 100000 in
theorem zk_796_17 : zm1 zKS zuq zNS zm_796 4000 zt_796_17 = true := z1F (zdt_X5_refuseWorn) (by decide +kernel)
set_option maxRecDepth 100000 in
theorem zk_796_18 : zm1 zKS zuq zNS zm_796 4000 zt_796_18 = true := z1F (zdt_X5_refuseWorn) (by decide +kernel)
set_option maxRecDepth 100000 in
theorem zk_796_19 : zm1 zKS zuq zNS zm_796 4000 zt_796_19 = true := z1F (zdt_X5_refuseWorn) (by decide +kernel)
set_option maxRecDepth 100000 in
theorem zk_796_20 : zm1 zKS zuq zNS zm_796 4000 zt_796_20 = true := z1F (zdt_X5_refuseWorn) (by decide +kernel)
set_option maxRecDepth 100000 in
theorem zk_796_s : zm0 zKS zuq zNS zm_796 4000 = true := z0F (zdt_X5_refuseWorn) (by decide +kernel)
set_option maxRecDepth 100000 in
theorem zk_796 : zmeth zKS zuq zNS zm_796 4000 = true := zmeth_by zk_796_s (List.forall_mem_cons.mpr ⟨zk_796_0, (List.forall_mem_cons.mpr ⟨zk_796_1, (List.forall_mem_cons.mpr ⟨zk_796_2, (List.forall_mem_cons.mpr ⟨zk_796_3, (List.forall_mem_cons.mpr ⟨zk_796_4, (List.forall_mem_cons.mpr ⟨zk_796_5, (List.forall_mem_cons.mpr ⟨zk_796_6, (List.forall_mem_cons.mpr ⟨zk_796_7, (List.forall_mem_cons.mpr ⟨zk_796_8, (List.forall_mem_cons.mpr ⟨zk_796_9, (List.forall_mem_cons.mpr ⟨zk_796_10, (List.forall_mem_cons.mpr ⟨zk_796_11, (List.forall_mem_cons.mpr ⟨zk_796_12, (List.forall_mem_cons.mpr ⟨zk_796_13, (List.forall_mem_cons.mpr ⟨zk_796_14, (List.forall_mem_cons.mpr ⟨zk_796_15, (List.forall_mem_cons.mpr ⟨zk_796_16, (List.forall_mem_cons.mpr ⟨zk_796_17, (List.forall_mem_cons.mpr ⟨zk_796_18, (List.forall_mem_cons.mpr ⟨zk_796_19, (List.forall_mem_cons.mpr ⟨zk_796_20, nilz⟩)⟩)⟩)⟩)⟩)⟩)⟩)⟩)⟩)⟩)⟩)⟩)⟩)⟩)⟩)⟩)⟩)⟩)⟩)⟩)⟩)
set_option maxRecDepth 100000 in
theorem zM_796 {l : Launch} {D : va_G} {cI cZ cB cJ cR : ClassId} {ks ad : List Nat} {Psi : va_W → Prop} (hw : zworld ks ad zuq zNS Psi) (hm : zMan l D cI cZ cB cJ cR ks ad Psi) : zMet l D cI cZ cB cJ cR zKS ks ad Psi yX5_refuseWorn (.code yX5_refuseWorn cX5_refuseWorn 6 (some .int)) 2 zc_796 :=
  zmet_of hw 2 (by decide) 4000 zk_796 (by decide) (by decide) (fun X => ⟨zg_RX5 X, zp_RX5 X, zl1_RX5 X, zl2_RX5 X, nilz, (List.forall_mem_cons.mpr ⟨zq_RX5_83 X (zM_303 hw hm) (by decide) rfl rfl, (List.forall_mem_cons.mpr ⟨zq_RX5_87 X (zM_301 hw hm) (by decide) rfl rfl, (List.forall_mem_cons.mpr ⟨zq_RX5_239 X (zM_420 hw hm) (by decide) rfl rfl, (List.forall_mem_cons.mpr ⟨zq_RX5_239 X (zM_421 hw hm) (by decide) rfl rfl, (List.forall_mem_cons.mpr ⟨zq_RX5_239 X (zM_422 hw hm) (by decide) rfl rfl, (List.forall_mem_cons.mpr ⟨zq_RX5_239 X (zM_423 hw hm) (by decide) rfl rfl, (List.forall_mem_cons.mpr ⟨zq_RX5_239 X (zM_424 hw hm) (by decide) rfl rfl, (List.forall_mem_cons.mpr ⟨zq_RX5_239 X (zM_425 hw hm) (by decide) rfl rfl, (List.forall_mem_cons.mpr ⟨zq_RX5_239 X (zM_426 hw hm) (by decide) rfl rfl, (List.forall_mem_cons.mpr ⟨zq_RX5_239 X (zM_427 hw hm) (by decide) rfl rfl, (List.forall_mem_cons.mpr ⟨zq_RX5_239 X (zM_428 hw hm) (by decide) rfl rfl, (List.forall_mem_cons.mpr ⟨zq_RX5_239 X (zM_429 hw hm) (by decide) rfl rfl, (List.forall_mem_cons.mpr ⟨zq_RX5_239 X (zM_430 hw hm) (by decide) rfl rfl, (List.forall_mem_cons.mpr ⟨zq_RX5_239 X (zM_431 hw hm) (by decide) rfl rfl, (List.forall_mem_cons.mpr ⟨zq_RX5_239 X (zM_432 hw hm) (by decide) rfl rfl, (List.forall_mem_cons.mpr ⟨zq_RX5_239 X (zM_433 hw hm) (by decide) rfl rfl, (List.forall_mem_cons.mpr ⟨zq_RX5_239 X (zM_434 hw hm) (by decide) rfl rfl, (List.forall_mem_cons.mpr ⟨zq_RX5_239 X (zM_435 hw hm) (by decide) rfl rfl, (List.forall_mem_cons.mpr ⟨zq_RX5_239 X (zM_436 hw hm) (by decide) rfl rfl, (List.forall_mem_cons.mpr ⟨zq_RX5_239 X (zM_437 hw hm) (by decide) rfl rfl, (List.forall_mem_cons.mpr ⟨zq_RX5_239 X (zM_438 hw hm) (by decide) rfl rfl, (List.forall_mem_cons.mpr ⟨zq_RX5_239 X (zM_439 hw hm) (by decide) rfl rfl, (List.forall_mem_cons.mpr ⟨zq_RX5_239 X (zM_440 hw hm) (by decide) rfl rfl, (List.forall_mem_cons.mpr ⟨zq_RX5_239 X (zM_441 hw hm) (by decide) rfl rfl, (List.forall_mem_cons.mpr ⟨zq_RX5_239 X (zM_442 hw hm) (by decide) rfl rfl, (List.forall_mem_cons.mpr ⟨zq_RX5_239 X (zM_443 hw hm) (by decide) rfl rfl, (List.forall_mem_cons.mpr ⟨zq_RX5_239 X (zM_444 hw hm) (by decide) rfl rfl, (List.forall_mem_cons.mpr ⟨zq_RX5_239 X (zM_445 hw hm) (by decide) rfl rfl, (List.forall_mem_cons.mpr ⟨zq_RX5_239 X (zM_446 hw hm) (by decide) rfl rfl, (List.forall_mem_cons.mpr ⟨zq_RX5_239 X (zM_447 hw hm) (by decide) rfl rfl, (List.forall_mem_cons.mpr ⟨zq_RX5_239 X (zM_448 hw hm) (by decide) rfl rfl, (List.forall_mem_cons.mpr ⟨zq_RX5_239 X (zM_449 hw hm) (by decide) rfl rfl, (List.forall_mem_cons.mpr ⟨zq_RX5_239 X (zM_450 hw hm) (by decide) rfl rfl, (List.forall_mem_cons.mpr ⟨zq_RX5_239 X (zM_451 hw hm) (by decide) rfl rfl, (List.forall_mem_cons.mpr ⟨zq_RX5_239 X (zM_452 hw hm) (by decide) rfl rfl, (List.forall_mem_cons.mpr ⟨zq_RX5_239 X (zM_453 hw hm) (by decide) rfl rfl, (List.forall_mem_cons.mpr ⟨zq_RX5_239 X (zM_454 hw hm) (by decide) rfl rfl, (List.forall_mem_cons.mpr ⟨zq_RX5_239 X (zM_455 hw hm) (by decide) rfl rfl, (List.forall_mem_cons.mpr ⟨zq_RX5_239 X (zM_456 hw hm) (by decide) rfl rfl, (List.forall_mem_cons.mpr ⟨zq_RX5_239 X (zM_457 hw hm) (by decide) rfl rfl, (List.forall_mem_cons.mpr ⟨zq_RX5_239 X (zM_458 hw hm) (by decide) rfl rfl, (List.forall_mem_cons.mpr ⟨zq_RX5_239 X (zM_459 hw hm) (by decide) rfl rfl, (List.forall_mem_cons.mpr ⟨zq_RX5_239 X (zM_460 hw hm) (by decide) rfl rfl, (List.forall_mem_cons.mpr ⟨zq_RX5_239 X (zM_461 hw hm) (by decide) rfl rfl, (List.forall_mem_cons.mpr ⟨zq_RX5_239 X (zM_462 hw hm) (by decide) rfl rfl, (List.forall_mem_cons.mpr ⟨zq_RX5_239 X (zM_463 hw hm) (by decide) rfl rfl, (List.forall_mem_cons.mpr ⟨zq_RX5_239 X (zM_464 hw hm) (by decide) rfl rfl, (List.forall_mem_cons.mpr ⟨zq_RX5_239 X (zM_465 hw hm) (by decide) rfl rfl, (List.forall_mem_cons.mpr ⟨zq_RX5_239 X (zM_466 hw hm) (by decide) rfl rfl, (List.forall_mem_cons.mpr ⟨zq_RX5_239 X (zM_467 hw hm) (by decide) rfl rfl, (List.forall_mem_cons.mpr ⟨zq_RX5_239 X (zM_468 hw hm) (by decide) rfl rfl, (List.forall_mem_cons.mpr ⟨zq_RX5_239 X (zM_469 hw hm) (by decide) rfl rfl, (List.forall_mem_cons.mpr ⟨zq_RX5_239 X (zM_470 hw hm) (by decide) rfl rfl, (List.forall_mem_cons.mpr ⟨zq_RX5_239 X (zM_471 hw hm) (by decide) rfl rfl, (List.forall_mem_cons.mpr ⟨zq_RX5_239 X (zM_472 hw hm) (by decide) rfl rfl, (List.forall_mem_cons.mpr ⟨zq_RX5_239 X (zM_473 hw hm) (by decide) rfl rfl, (List.forall_mem_cons.mpr ⟨zq_RX5_239 X (zM_474 hw hm) (by decide) rfl rfl, (List.forall_mem_cons.mpr ⟨zq_RX5_239 X (zM_475 hw hm) (by decide) rfl rfl, (List.forall_mem_cons.mpr ⟨zq_RX5_239 X (zM_476 hw hm) (by decide) rfl rfl, (List.forall_mem_cons.mpr ⟨zq_RX5_239 X (zM_477 hw hm) (by decide) rfl rfl, (List.forall_mem_cons.mpr ⟨zq_RX5_239 X (zM_478 hw hm) (by decide) rfl rfl, (List.forall_mem_cons.mpr ⟨zq_RX5_239 X (zM_479 hw hm) (by decide) rfl rfl, (List.forall_mem_cons.mpr ⟨zq_RX5_250 X (zM_603 hw hm) (by decide) rfl rfl, (List.forall_mem_cons.mpr ⟨zq_RX5_355 X (zM_787 hw hm) (by decide) rfl rfl, nilz⟩)⟩)⟩)⟩)⟩)⟩)⟩)⟩)⟩)⟩)⟩)⟩)⟩)⟩)⟩)⟩)⟩)⟩)⟩)⟩)⟩)⟩)⟩)⟩)⟩)⟩)⟩)⟩)⟩)⟩)⟩)⟩)⟩)⟩)⟩)⟩)⟩)⟩)⟩)⟩)⟩)⟩)⟩)⟩)⟩)⟩)⟩)⟩)⟩)⟩)⟩)⟩)⟩)⟩)⟩)⟩)⟩)⟩)⟩)⟩)⟩)⟩)⟩)⟩)⟩)
set_option maxRecDepth 100000 in
theorem zk_797_0 : zm1 zKS zuq zNS zm_797 4000 zt_797_0 = true := z1F (zdt_X5_refuseWorn) (by decide +kernel)
set_option maxRecDepth 100000 in
theorem zk_797_1 : zm1 zKS zuq zNS zm_797 4000 zt_797_1 = true := z1F (zdt_X5_refuseWorn) (by decide +kernel)
set_option maxRecDepth 100000 in
theorem zk_797_2 : zm1 zKS zuq zNS zm_797 4000 zt_797_2 = true := z1F (zdt_X5_refuseWorn) (by decide +kernel)
set_option maxRecDepth 100000 in
theorem zk_797_3 : zm1 zKS zuq zNS zm_797 4000 zt_797_3 = true := z1F (zdt_X5_refuseWorn) (by decide +kernel)
set_option maxRecDepth 100000 in
theorem zk_797_4 : zm1 zKS zuq zNS zm_797 4000 zt_797_4 = true := z1F (zdt_X5_refuseWorn) (by decide +kernel)
set_option maxRecDepth 100000 in
theorem zk_797_5 : zm1 zKS zuq zNS zm_797 4000 zt_797_5 = true := z1F (zdt_X5_refuseWorn) (by decide +kernel)
set_option maxRecDepth 100000 in
theorem zk_797_6 : zm1 zKS zuq zNS zm_797 4000 zt_797_6 = true := z1F (zdt_X5_refuseWorn) (by decide +kernel)
set_option maxRecDepth 100000 in
theorem zk_797_7 : zm1 zKS zuq zNS zm_797 4000 zt_797_7 = true := z1F (zdt_X5_refuseWorn) (by decide +kernel)
set_option maxRecDepth 100000 in
theorem zk_797_8 : zm1 zKS zuq zNS zm_797 4000 zt_797_8 = true := z1F (zdt_X5_refuseWorn) (by decide +kernel)
set_option maxRecDepth 100000 in
theorem zk_797_9 : zm1 zKS zuq zNS zm_797 4000 zt_797_9 = true := z1F (zdt_X5_refuseWorn) (by decide +kernel)
set_option maxRecDepth 100000 in
theorem zk_797_10 : zm1 zKS zuq zNS zm_797 4000 zt_797_10 = true := z1F (zdt_X5_refuseWorn) (by decide +kernel)
set_option maxRecDepth 100000 in
theorem zk_797_11 : zm1 zKS zuq zNS zm_797 4000 zt_797_11 = true := z1F (zdt_X5_refuseWorn) (by decide +kernel)
set_option maxRecDepth 100000 in
theorem zk_797_12 : zm1 zKS zuq zNS zm_797 4000 zt_797_12 = true := z1F (zdt_X5_refuseWorn) (by decide +kernel)
set_option maxRecDepth 100000 in
theorem zk_797_13 : zm1 zKS zuq zNS zm_797 4000 zt_797_13 = true := z1F (zdt_X5_refuseWorn) (by decide +kernel)
set_option maxRecDepth 100000 in
theorem zk_797_14 : zm1 zKS zuq zNS zm_797 4000 zt_797_14 = true := z1F (zdt_X5_refuseWorn) (by decide +kernel)
set_option maxRecDepth 100000 in
theorem zk_797_15 : zm1 zKS zuq zNS zm_797 4000 zt_797_15 = true := z1F (zdt_X5_refuseWorn) (by decide +kernel)
set_option maxRecDepth 100000 in
theorem zk_797_16 : zm1 zKS zuq zNS zm_797 4000 zt_797_16 = true := z1F (zdt_X5_refuseWorn) (by decide +kernel)
set_option maxRecDepth 100000 in
theorem zk_797_17 : zm1 zKS zuq zNS zm_797 4000 zt_797_17 = true := z1F (zdt_X5_refuseWorn) (by decide +kernel)
set_option maxRecDepth 100000 in
theorem zk_797_18 : zm1 zKS zuq zNS zm_797 4000 zt_797_18 = true := z1F (zdt_X5_refuseWorn) (by decide +kernel)
set_option maxRecDepth 100000 in
theorem zk_797_19 : zm1 zKS zuq zNS zm_797 4000 zt_797_19 = true := z1F (zdt_X5_refuseWorn) (by decide +kernel)
set_option maxRecDepth 100000 in
theorem zk_797_20 : zm1 zKS zuq zNS zm_797 4000 zt_797_20 = true := z1F (zdt_X5_refuseWorn) (by decide +kernel)
set_option maxRecDepth 100000 in
theorem zk_797_s : zm0 zKS zuq zNS zm_797 4000 = true := z0F (zdt_X5_refuseWorn) (by decide +kernel)
set_option maxRecDepth 100000 in
theorem zk_797 : zmeth zKS zuq zNS zm_797 4000 = true := zmeth_by zk_797_s (List.forall_mem_cons.mpr ⟨zk_797_0, (List.forall_mem_cons.mpr ⟨zk_797_1, (List.forall_mem_cons.mpr ⟨zk_797_2, (List.forall_mem_cons.mpr ⟨zk_797_3, (List.forall_mem_cons.mpr ⟨zk_797_4, (List.forall_mem_cons.mpr ⟨zk_797_5, (List.forall_mem_cons.mpr ⟨zk_797_6, (List.forall_mem_cons.mpr ⟨zk_797_7, (List.forall_mem_cons.mpr ⟨zk_797_8, (List.forall_mem_cons.mpr ⟨zk_797_9, (List.forall_mem_cons.mpr ⟨zk_797_10, (List.forall_mem_cons.mpr ⟨zk_797_11, (List.forall_mem_cons.mpr ⟨zk_797_12, (List.forall_mem_cons.mpr ⟨zk_797_13, (List.forall_mem_cons.mpr ⟨zk_797_14, (List.forall_mem_cons.mpr ⟨zk_797_15, (List.forall_mem_cons.mpr ⟨zk_797_16, (List.forall_mem_cons.mpr ⟨zk_797_17, (List.forall_mem_cons.mpr ⟨zk_797_18, (List.forall_mem_cons.mpr ⟨zk_797_19, (List.forall_mem_cons.mpr ⟨zk_797_20, nilz⟩)⟩)⟩)⟩)⟩)⟩)⟩)⟩)⟩)⟩)⟩)⟩)⟩)⟩)⟩)⟩)⟩)⟩)⟩)⟩)⟩)
set_option maxRecDepth 100000 in
theorem zM_797 {l : Launch} {D : va_G} {cI cZ cB cJ cR : ClassId} {ks ad : List Nat} {Psi : va_W → Prop} (hw : zworld ks ad zuq zNS Psi) (hm : zMan l D cI cZ cB cJ cR ks ad Psi) : zMet l D cI cZ cB cJ cR zKS ks ad Psi yX5_refuseWorn (.code yX5_refuseWorn cX5_refuseWorn 6 (some .int)) 2 zc_797 :=
  zmet_of hw 2 (by decide) 4000 zk_797 (by decide) (by decide) (fun X => ⟨zg_RX5 X, zp_RX5 X, zl1_RX5 X, zl2_RX5 X, nilz, (List.forall_mem_cons.mpr ⟨zq_RX5_83 X (zM_303 hw hm) (by decide) rfl rfl, (List.forall_mem_cons.mpr ⟨zq_RX5_87 X (zM_301 hw hm) (by decide) rfl rfl, (List.forall_mem_cons.mpr ⟨zq_RX5_239 X (zM_480 hw hm) (by decide) rfl rfl, (List.forall_mem_cons.mpr ⟨zq_RX5_239 X (zM_481 hw hm) (by decide) rfl rfl, (List.forall_mem_cons.mpr ⟨zq_RX5_239 X (zM_482 hw hm) (by decide) rfl rfl, (List.forall_mem_cons.mpr ⟨zq_RX5_239 X (zM_483 hw hm) (by decide) rfl rfl, (List.forall_mem_cons.mpr ⟨zq_RX5_239 X (zM_484 hw hm) (by decide) rfl rfl, (List.forall_mem_cons.mpr ⟨zq_RX5_239 X (zM_485 hw hm) (by decide) rfl rfl, (List.forall_mem_cons.mpr ⟨zq_RX5_239 X (zM_486 hw hm) (by decide) rfl rfl, (List.forall_mem_cons.mpr ⟨zq_RX5_239 X (zM_487 hw hm) (by decide) rfl rfl, (List.forall_mem_cons.mpr ⟨zq_RX5_239 X (zM_488 hw hm) (by decide) rfl rfl, (List.forall_mem_cons.mpr ⟨zq_RX5_239 X (zM_489 hw hm) (by decide) rfl rfl, (List.forall_mem_cons.mpr ⟨zq_RX5_239 X (zM_490 hw hm) (by decide) rfl rfl, (List.forall_mem_cons.mpr ⟨zq_RX5_239 X (zM_491 hw hm) (by decide) rfl rfl, (List.forall_mem_cons.mpr ⟨zq_RX5_239 X (zM_492 hw hm) (by decide) rfl rfl, (List.forall_mem_cons.mpr ⟨zq_RX5_239 X (zM_493 hw hm) (by decide) rfl rfl, (List.forall_mem_cons.mpr ⟨zq_RX5_239 X (zM_494 hw hm) (by decide) rfl rfl, (List.forall_mem_cons.mpr ⟨zq_RX5_239 X (zM_495 hw hm) (by decide) rfl rfl, (List.forall_mem_cons.mpr ⟨zq_RX5_239 X (zM_496 hw hm) (by decide) rfl rfl, (List.forall_mem_cons.mpr ⟨zq_RX5_239 X (zM_497 hw hm) (by decide) rfl rfl, (List.forall_mem_cons.mpr ⟨zq_RX5_239 X (zM_498 hw hm) (by decide) rfl rfl, (List.forall_mem_cons.mpr ⟨zq_RX5_239 X (zM_499 hw hm) (by decide) rfl rfl, (List.forall_mem_cons.mpr ⟨zq_RX5_239 X (zM_500 hw hm) (by decide) rfl rfl, (List.forall_mem_cons.mpr ⟨zq_RX5_239 X (zM_501 hw hm) (by decide) rfl rfl, (List.forall_mem_cons.mpr ⟨zq_RX5_239 X (zM_502 hw hm) (by decide) rfl rfl, (List.forall_mem_cons.mpr ⟨zq_RX5_239 X (zM_503 hw hm) (by decide) rfl rfl, (List.forall_mem_cons.mpr ⟨zq_RX5_239 X (zM_504 hw hm) (by decide) rfl rfl, (List.forall_mem_cons.mpr ⟨zq_RX5_239 X (zM_505 hw hm) (by decide) rfl rfl, (List.forall_mem_cons.mpr ⟨zq_RX5_239 X (zM_506 hw hm) (by decide) rfl rfl, (List.forall_mem_cons.mpr ⟨zq_RX5_239 X (zM_507 hw hm) (by decide) rfl rfl, (List.forall_mem_cons.mpr ⟨zq_RX5_239 X (zM_508 hw hm) (by decide) rfl rfl, (List.forall_mem_cons.mpr ⟨zq_RX5_239 X (zM_509 hw hm) (by decide) rfl rfl, (List.forall_mem_cons.mpr ⟨zq_RX5_239 X (zM_510 hw hm) (by decide) rfl rfl, (List.forall_mem_cons.mpr ⟨zq_RX5_239 X (zM_511 hw hm) (by decide) rfl rfl, (List.forall_mem_cons.mpr ⟨zq_RX5_239 X (zM_512 hw hm) (by decide) rfl rfl, (List.forall_mem_cons.mpr ⟨zq_RX5_239 X (zM_513 hw hm) (by decide) rfl rfl, (List.forall_mem_cons.mpr ⟨zq_RX5_239 X (zM_514 hw hm) (by decide) rfl rfl, (List.forall_mem_cons.mpr ⟨zq_RX5_239 X (zM_515 hw hm) (by decide) rfl rfl, (List.forall_mem_cons.mpr ⟨zq_RX5_239 X (zM_516 hw hm) (by decide) rfl rfl, (List.forall_mem_cons.mpr ⟨zq_RX5_239 X (zM_517 hw hm) (by decide) rfl rfl, (List.forall_mem_cons.mpr ⟨zq_RX5_239 X (zM_518 hw hm) (by decide) rfl rfl, (List.forall_mem_cons.mpr ⟨zq_RX5_239 X (zM_519 hw hm) (by decide) rfl rfl, (List.forall_mem_cons.mpr ⟨zq_RX5_239 X (zM_520 hw hm) (by decide) rfl rfl, (List.forall_mem_cons.mpr ⟨zq_RX5_239 X (zM_521 hw hm) (by decide) rfl rfl, (List.forall_mem_cons.mpr ⟨zq_RX5_239 X (zM_522 hw hm) (by decide) rfl rfl, (List.forall_mem_cons.mpr ⟨zq_RX5_239 X (zM_523 hw hm) (by decide) rfl rfl, (List.forall_mem_cons.mpr ⟨zq_RX5_239 X (zM_524 hw hm) (by decide) rfl rfl, (List.forall_mem_cons.mpr ⟨zq_RX5_239 X (zM_525 hw hm) (by decide) rfl rfl, (List.forall_mem_cons.mpr ⟨zq_RX5_239 X (zM_526 hw hm) (by decide) rfl rfl, (List.forall_mem_cons.mpr ⟨zq_RX5_239 X (zM_527 hw hm) (by decide) rfl rfl, (List.forall_mem_cons.mpr ⟨zq_RX5_239 X (zM_528 hw hm) (by decide) rfl rfl, (List.forall_mem_cons.mpr ⟨zq_RX5_239 X (zM_529 hw hm) (by decide) rfl rfl, (List.forall_mem_cons.mpr ⟨zq_RX5_239 X (zM_530 hw hm) (by decide) rfl rfl, (List.forall_mem_cons.mpr ⟨zq_RX5_239 X (zM_531 hw hm) (by decide) rfl rfl, (List.forall_mem_cons.mpr ⟨zq_RX5_239 X (zM_532 hw hm) (by decide) rfl rfl, (List.forall_mem_cons.mpr ⟨zq_RX5_239 X (zM_533 hw hm) (by decide) rfl rfl, (List.forall_mem_cons.mpr ⟨zq_RX5_239 X (zM_534 hw hm) (by decide) rfl rfl, (List.forall_mem_cons.mpr ⟨zq_RX5_239 X (zM_535 hw hm) (by decide) rfl rfl, (List.forall_mem_cons.mpr ⟨zq_RX5_239 X (zM_536 hw hm) (by decide) rfl rfl, (List.forall_mem_cons.mpr ⟨zq_RX5_239 X (zM_537 hw hm) (by decide) rfl rfl, (List.forall_mem_cons.mpr ⟨zq_RX5_239 X (zM_538 hw hm) (by decide) rfl rfl, (List.forall_mem_cons.mpr ⟨zq_RX5_239 X (zM_539 hw hm) (by decide) rfl rfl, (List.forall_mem_cons.mpr ⟨zq_RX5_250 X (zM_604 hw hm) (by decide) rfl rfl, (List.forall_mem_cons.mpr ⟨zq_RX5_355 X (zM_789 hw hm) (by decide) rfl rfl, nilz⟩)⟩)⟩)⟩)⟩)⟩)⟩)⟩)⟩)⟩)⟩)⟩)⟩)⟩)⟩)⟩)⟩)⟩)⟩)⟩)⟩)⟩)⟩)⟩)⟩)⟩)⟩)⟩)⟩)⟩)⟩)⟩)⟩)⟩)⟩)⟩)⟩)⟩)⟩)⟩)⟩)⟩)⟩)⟩)⟩)⟩)⟩)⟩)⟩)⟩)⟩)⟩)⟩)⟩)⟩)⟩)⟩)⟩)⟩)⟩)⟩)⟩)⟩)⟩)⟩)
