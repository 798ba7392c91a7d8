theorem law_0 {p : Program} {l : Launch} {e : Env} {s : State} {m : MethodId} {below : List Frame} {meth : Method} {c : Code} {Q : State → Prop} {D : va_G} {cI cZ cB cJ cR : ClassId} {ks ad : List Nat} {b L h g : Nat} {xs : Nat → Int32} (hZ : zLaw p l s m c D cI cZ cB cJ cR ks ad b L h g xs) (hm : zMan l D cI cZ cB cJ cR ks ad (zPsi ks ad)) {x : Int32} (hx0 : 0 ≤ x.toInt) (hx1 : x.toInt + 6 ≤ (L : Int)) (hT : ∀ (ls : Array Slot) (w : va_W) (H : Heap) (locs : List Loc), lv_has ls 4 [(0, .ref b), (1, .ref h), (2, .ref g), (3, .int x)] → zINV D cI cZ cB cJ cR ks ad s w H locs → W p l e room_1 s m #[Value.ref b] below meth c H locs 98 7042 Q (F0 m 2131 ls [])) {ls : Array Slot} {w : va_W} {H : Heap} {locs : List Loc} (hl : lv_has ls 4 [(0, .ref b), (1, .ref h), (2, .ref g), (3, .int x)]) (hI : zINV D cI cZ cB cJ cR ks ad s w H locs) : W p l e room_1 s m #[Value.ref b] below meth c H locs 98 7042 Q (F0 m 324 ls []) := by
  obtain ⟨X, hX, hbl, hL, hw, ⟨i5, hk5⟩, ⟨i6, hk6⟩⟩ := hZ
  have hx := X.1.1
  have hb := X.1.2.1
  have hbA : ¬ lwA s b := Nat.not_le.mpr hbl
  obtain ⟨hI, hq⟩ := hI
  refine lv_aload_n hx hb dL_law_324 rfl (lv_at hl 1 rfl) ?_
  refine lv_aload_n hx hb dL_law_325 rfl (lv_at hl 0 rfl) ?_
  refine lv_iload_n hx hb dL_law_326 rfl (lv_at hl 3 rfl) ?_
  refine lv_iconst (v := 1) hx hb dL_law_327 (by decide) ?_
  refine lv_iadd hx hb dL_law_328 ?_
  refine lv_topi (fun y1 hy1 => ?_)
  have ey1 : y1.toInt = x.toInt + 1 := by rw [hy1, addI _ _ (by simp only [Int32.reduceToInt]; omega)]; rfl
  refine va_sld hx hb hX hbl hbA hI.2.2.1 (vp_in_iff.mpr ⟨by omega, by omega⟩) dL_law_329 ?_
  refine lv_topi (fun a2 ha2 => ?_)
  refine lv_aload_n hx hb dL_law_330 rfl (lv_at hl 0 rfl) ?_
  refine lv_iload_n hx hb dL_law_331 rfl (lv_at hl 3 rfl) ?_
  refine lv_iconst (v := 2) hx hb dL_law_332 (by decide) ?_
  refine lv_iadd hx hb dL_law_333 ?_
  refine lv_topi (fun y3 hy3 => ?_)
  have ey3 : y3.toInt = x.toInt + 2 := by rw [hy3, addI _ _ (by simp only [Int32.reduceToInt]; omega)]; rfl
  refine va_sld hx hb hX hbl hbA hI.2.2.1 (vp_in_iff.mpr ⟨by omega, by omega⟩) dL_law_334 ?_
  refine lv_topi (fun a4 ha4 => ?_)
  refine lv_aload_n hx hb dL_law_335 rfl (lv_at hl 0 rfl) ?_
  refine lv_iload_n hx hb dL_law_336 rfl (lv_at hl 3 rfl) ?_
  refine lv_iconst (v := 3) hx hb dL_law_337 (by decide) ?_
  refine lv_iadd hx hb dL_law_338 ?_
  refine lv_topi (fun y5 hy5 => ?_)
  have ey5 : y5.toInt = x.toInt + 3 := by rw [hy5, addI _ _ (by simp only [Int32.reduceToInt]; omega)]; rfl
  refine va_sld hx hb hX hbl hbA hI.2.2.1 (vp_in_iff.mpr ⟨by omega, by omega⟩) dL_law_339 ?_
  refine lv_topi (fun a6 ha6 => ?_)
  refine lv_aload_n hx hb dL_law_340 rfl (lv_at hl 0 rfl) ?_
  refine lv_iload_n hx hb dL_law_341 rfl (lv_at hl 3 rfl) ?_
  refine lv_iconst (v := 4) hx hb dL_law_342 (by decide) ?_
  refine lv_iadd hx hb dL_law_343 ?_
  refine lv_topi (fun y7 hy7 => ?_)
  have ey7 : y7.toInt = x.toInt + 4 := by rw [hy7, addI _ _ (by simp only [Int32.reduceToInt]; omega)]; rfl
  refine va_sld hx hb hX hbl hbA hI.2.2.1 (vp_in_iff.mpr ⟨by omega, by omega⟩) dL_law_344 ?_
  refine lv_topi (fun a8 ha8 => ?_)
  refine lv_aload_n hx hb dL_law_345 rfl (lv_at hl 0 rfl) ?_
  refine lv_iload_n hx hb dL_law_346 rfl (lv_at hl 3 rfl) ?_
  refine lv_iconst (v := 5) hx hb dL_law_347 (by decide) ?_
  refine lv_iadd hx hb dL_law_348 ?_
  refine lv_topi (fun y9 hy9 => ?_)
  have ey9 : y9.toInt = x.toInt + 5 := by rw [hy9, addI _ _ (by simp only [Int32.reduceToInt]; omega)]; rfl
  refine va_sld hx hb hX hbl hbA hI.2.2.1 (vp_in_iff.mpr ⟨by omega, by omega⟩) dL_law_349 ?_
  refine lv_topi (fun a10 ha10 => ?_)
  refine zlcall (con := zc_666) (zq_RL_13 X (zM_666 hw hm) (by decide) rfl rfl) rfl hI (As := [.ref h, .int a2, .int a4, .int a6, .int a8, .int a10]) (rest := []) ⟨⟨_, _, rfl, hk5.1, hk5.2⟩, ⟨_, rfl, bT _⟩, ⟨_, rfl, bT _⟩, ⟨_, rfl, bT _⟩, ⟨_, rfl, bT _⟩, ⟨_, rfl, bT _⟩, trivial⟩ (Nat.le_of_ble_eq_true rfl) hl.1 dL_law_350 (fun H locs w r hI hr hk hp => ?_)
  have hq := zrel_keep hk (by decide +kernel) hq
  have hr : zF2 (zok ks ad) [(0, (-1), (1200))] r := hr
  obtain ⟨_, _, rfl, ⟨z11, rfl, lz11⟩, hr2⟩ := zst1 hr
  obtain rfl := zst0 hr2
  dsimp only at lz11
  dsimp only [List.cons_append, List.nil_append]
  refine lv_pop hx hb dL_law_353 rfl ?_
  refine lv_aload_n hx hb dL_law_354 rfl (lv_at hl 2 rfl) ?_
  refine lv_aload_n hx hb dL_law_355 rfl (lv_at hl 0 rfl) ?_
  refine lv_iload_n hx hb dL_law_356 rfl (lv_at hl 3 rfl) ?_
  refine lv_iconst (v := 1) hx hb dL_law_357 (by decide) ?_
  refine lv_iadd hx hb dL_law_358 ?_
  refine lv_topi (fun y12 hy12 => ?_)
  have ey12 : y12.toInt = x.toInt + 1 := by rw [hy12, addI _ _ (by simp only [Int32.reduceToInt]; omega)]; rfl
  refine va_sld hx hb hX hbl hbA hI.2.2.1 (vp_in_iff.mpr ⟨by omega, by omega⟩) dL_law_359 ?_
  refine lv_topi (fun a13 ha13 => ?_)
  refine lv_aload_n hx hb dL_law_360 rfl (lv_at hl 0 rfl) ?_
  refine lv_iload_n hx hb dL_law_361 rfl (lv_at hl 3 rfl) ?_
  refine lv_iconst (v := 2) hx hb dL_law_362 (by decide) ?_
  refine lv_iadd hx hb dL_law_363 ?_
  refine lv_topi (fun y14 hy14 => ?_)
  have ey14 : y14.toInt = x.toInt + 2 := by rw [hy14, addI _ _ (by simp only [Int32.reduceToInt]; omega)]; rfl
  refine va_sld hx hb hX hbl hbA hI.2.2.1 (vp_in_iff.mpr ⟨by omega, by omega⟩) dL_law_364 ?_
  refine lv_topi (fun a15 ha15 => ?_)
  refine lv_aload_n hx hb dL_law_365 rfl (lv_at hl 0 rfl) ?_
  refine lv_iload_n hx hb dL_law_366 rfl (lv_at hl 3 rfl) ?_
  refine lv_iconst (v := 3) hx hb dL_law_367 (by decide) ?_
  refine lv_iadd hx hb dL_law_368 ?_
  refine lv_topi (fun y16 hy16 => ?_)
  have ey16 : y16.toInt = x.toInt + 3 := by rw [hy16, addI _ _ (by simp only [Int32.reduceToInt]; omega)]; rfl
  refine va_sld hx hb hX hbl hbA hI.2.2.1 (vp_in_iff.mpr ⟨by omega, by omega⟩) dL_law_369 ?_
  refine lv_topi (fun a17 ha17 => ?_)
  refine lv_aload_n hx hb dL_law_370 rfl (lv_at hl 0 rfl) ?_
  refine lv_iload_n hx hb dL_law_371 rfl (lv_at hl 3 rfl) ?_
  refine lv_iconst (v := 4) hx hb dL_law_372 (by decide) ?_
  refine lv_iadd hx hb dL_law_373 ?_
  refine lv_topi (fun y18 hy18 => ?_)
  have ey18 : y18.toInt = x.toInt + 4 := by rw [hy18, addI _ _ (by simp only [Int32.reduceToInt]; omega)]; rfl
  refine va_sld hx hb hX hbl hbA hI.2.2.1 (vp_in_iff.mpr ⟨by omega, by omega⟩) dL_law_374 ?_
  refine lv_topi (fun a19 ha19 => ?_)
  refine lv_aload_n hx hb dL_law_375 rfl (lv_at hl 0 rfl) ?_
  refine lv_iload_n hx hb dL_law_376 rfl (lv_at hl 3 rfl) ?_
  refine lv_iconst (v := 5) hx hb dL_law_377 (by decide) ?_
  refine lv_iadd hx hb dL_law_378 ?_
  refine lv_topi (fun y20 hy20 => ?_)
  have ey20 : y20.toInt = x.toInt + 5 := by rw [hy20, addI _ _ (by simp only [Int32.reduceToInt]; omega)]; rfl
  refine va_sld hx hb hX hbl hbA hI.2.2.1 (vp_in_iff.mpr ⟨by omega, by omega⟩) dL_law_379 ?_
  refine lv_topi (fun a21 ha21 => ?_)
  refine zlcall (con := zc_884) (zq_RL_17 X (zM_884 hw hm) (by decide) rfl rfl) rfl hI (As := [.ref g, .int a13, .int a15, .int a17, .int a19, .int a21]) (rest := []) ⟨⟨_, _, rfl, hk6.1, hk6.2⟩, ⟨_, rfl, bT _⟩, ⟨_, rfl, bT _⟩, ⟨_, rfl, bT _⟩, ⟨_, rfl, bT _⟩, ⟨_, rfl, bT _⟩, trivial⟩ (Nat.le_of_ble_eq_true rfl) hl.1 dL_law_380 (fun H locs w r hI hr hk hp => ?_)
  have hq := zrel_keep hk (by decide +kernel) hq
  have hr : zF2 (zok ks ad) [(0, (-1), (1200))] r := hr
  obtain ⟨_, _, rfl, ⟨z22, rfl, lz22⟩, hr2⟩ := zst1 hr
  obtain rfl := zst0 hr2
  dsimp only at lz22
  dsimp only [List.cons_append, List.nil_append]
  refine lv_pop hx hb dL_law_383 rfl ?_
  refine lv_goto (tgt := 2131) hx hb dL_law_384 (by decide) ?_
  exact hT ls _ _ _ hl ⟨hI, hq⟩
theorem law_1 {p : Program} {l : Launch} {e : Env} {s : State} {m : MethodId} {below : List Frame} {meth : Method} {c : Code} {Q : State → Prop} {D : va_G} {cI cZ cB cJ cR : ClassId} {ks ad : List Nat} {b L h g : Nat} {xs : Nat → Int32} (hZ : zLaw p l s m c D cI cZ cB cJ cR ks ad b L h g xs) (hm : zMan l D cI cZ cB cJ cR ks ad (zPsi ks ad)) {x : Int32} (hx0 : 0 ≤ x.toInt) (hx1 : x.toInt + 6 ≤ (L : Int)) (hT : ∀ (ls : Array Slot) (w : va_W) (H : Heap) (locs : List Loc), lv_has ls 4 [(0, .ref b), (1, .ref h), (2, .ref g), (3, .int x)] → zINV D cI cZ cB cJ cR ks ad s w H locs → W p l e room_1 s m #[Value.ref b] below meth c H locs 98 7042 Q (F0 m 2131 ls [])) {ls : Array Slot} {w : va_W} {H : Heap} {locs : List Loc} (hl : lv_has ls 4 [(0, .ref b), (1, .ref h), (2, .ref g), (3, .int x)]) (hI : zINV D cI cZ cB cJ cR ks ad s w H locs) : W p l e room_1 s m #[Value.ref b] below meth c H locs 98 7042 Q (F0 m 387 ls []) := by
  obtain ⟨X, hX, hbl, hL, hw, ⟨i5, hk5⟩, ⟨i6, hk6⟩⟩ := hZ
  have hx := X.1.1
  have hb := X.1.2.1
  have hbA : ¬ lwA s b := Nat.not_le.mpr hbl
  obtain ⟨hI, hq⟩ := hI
  refine lv_aload_n hx hb dL_law_387 rfl (lv_at hl 1 rfl) ?_
  refine lv_aload_n hx hb dL_law_388 rfl (lv_at hl 0 rfl) ?_
  refine lv_iload_n hx hb dL_law_389 rfl (lv_at hl 3 rfl) ?_
  refine lv_iconst (v := 1) hx hb dL_law_390 (by decide) ?_
  refine lv_iadd hx hb dL_law_391 ?_
  refine lv_topi (fun y1 hy1 => ?_)
  have ey1 : y1.toInt = x.toInt + 1 := by rw [hy1, addI _ _ (by simp only [Int32.reduceToInt]; omega)]; rfl
  refine va_sld hx hb hX hbl hbA hI.2.2.1 (vp_in_iff.mpr ⟨by omega, by omega⟩) dL_law_392 ?_
  refine lv_topi (fun a2 ha2 => ?_)
  refine zlcall (con := zc_657) (zq_RL_18 X (zM_657 hw hm) (by decide) rfl rfl) rfl hI (As := [.ref h, .int a2]) (rest := []) ⟨⟨_, _, rfl, hk5.1, hk5.2⟩, ⟨_, rfl, bT _⟩, trivial⟩ (Nat.le_of_ble_eq_true rfl) hl.1 dL_law_393 (fun H locs w r hI hr hk hp => ?_)
  have hq := zrel_keep hk (by decide +kernel) hq
  have hr : zF2 (zok ks ad) [(0, (-1), (1200))] r := hr
  obtain ⟨_, _, rfl, ⟨z3, rfl, lz3⟩, hr2⟩ := zst1 hr
  obtain rfl := zst0 hr2
  dsimp only at lz3
  dsimp only [List.cons_append, List.nil_append]
  refine lv_pop hx hb dL_law_396 rfl ?_
  refine lv_aload_n hx hb dL_law_397 rfl (lv_at hl 2 rfl) ?_
  refine lv_aload_n hx hb dL_law_398 rfl (lv_at hl 0 rfl) ?_
  refine lv_iload_n hx hb dL_law_399 rfl (lv_at hl 3 rfl) ?_
  refine lv_iconst (v := 1) hx hb dL_law_400 (by decide) ?_
  refine lv_iadd hx hb dL_law_401 ?_
  refine lv_topi (fun y4 hy4 => ?_)
  have ey4 : y4.toInt = x.toInt + 1 := by rw [hy4, addI _ _ (by simp only [Int32.reduceToInt]; omega)]; rfl
  refine va_sld hx hb hX hbl hbA hI.2.2.1 (vp_in_iff.mpr ⟨by omega, by omega⟩) dL_law_402 ?_
  refine lv_topi (fun a5 ha5 => ?_)
  refine zlcall (con := zc_875) (zq_RL_22 X (zM_875 hw hm) (by decide) rfl rfl) rfl hI (As := [.ref g, .int a5]) (rest := []) ⟨⟨_, _, rfl, hk6.1, hk6.2⟩, ⟨_, rfl, bT _⟩, trivial⟩ (Nat.le_of_ble_eq_true rfl) hl.1 dL_law_403 (fun H locs w r hI hr hk hp => ?_)
  have hq := zrel_keep hk (by decide +kernel) hq
  have hr : zF2 (zok ks ad) [(0, (-1), (1200))] r := hr
  obtain ⟨_, _, rfl, ⟨z6, rfl, lz6⟩, hr2⟩ := zst1 hr
  obtain rfl := zst0 hr2
  dsimp only at lz6
  dsimp only [List.cons_append, List.nil_append]
  refine lv_pop hx hb dL_law_406 rfl ?_
  refine lv_goto (tgt := 2131) hx hb dL_law_407 (by decide) ?_
  exact hT ls _ _ _ hl ⟨hI, hq⟩
theorem law_2 {p : Program} {l : Launch} {e : Env} {s : State} {m : MethodId} {below : List Frame} {meth : Method} {c : Code} {Q : State → Prop} {D : va_G} {cI cZ cB cJ cR : ClassId} {ks ad : List Nat} {b L h g : Nat} {xs : Nat → Int32} (hZ : zLaw p l s m c D cI cZ cB cJ cR ks ad b L h g xs) (hm : zMan l D cI cZ cB cJ cR ks ad (zPsi ks ad)) {x : Int32} (hx0 : 0 ≤ x.toInt) (hx1 : x.toInt + 6 ≤ (L : Int)) (hT : ∀ (ls : Array Slot) (w : va_W) (H : Heap) (locs : List Loc), lv_has ls 4 [(0, .ref b), (1, .ref h), (2, .ref g), (3, .int x)] → zINV D cI cZ cB cJ cR ks ad s w H locs → W p l e room_1 s m #[Value.ref b] below meth c H locs 98 7042 Q (F0 m 2131 ls [])) {ls : Array Slot} {w : va_W} {H : Heap} {locs : List Loc} (hl : lv_has ls 4 [(0, .ref b), (1, .ref h), (2, .ref g), (3, .int x)]) (hI : zINV D cI cZ cB cJ cR ks ad s w H locs) : W p l e room_1 s m #[Value.ref b] below meth c H locs 98 7042 Q (F0 m 410 ls []) := by
  obtain ⟨X, hX, hbl, hL, hw, ⟨i5, hk5⟩, ⟨i6, hk6⟩⟩ := hZ
  have hx := X.1.1
  have hb := X.1.2.1
  have hbA : ¬ lwA s b := Nat.not_le.mpr hbl
  obtain ⟨hI, hq⟩ := hI
  refine lv_aload_n hx hb dL_law_410 rfl (lv_at hl 1 rfl) ?_
  refine zlcall (con := zc_648) (zq_RL_23 X (zM_648 hw hm) (by decide) rfl rfl) rfl hI (As := [.ref h]) (rest := []) ⟨⟨_, _, rfl, hk5.1, hk5.2⟩, trivial⟩ (Nat.le_of_ble_eq_true rfl) hl.1 dL_law_411 (fun H locs w r hI hr hk hp => ?_)
  have hq := zrel_keep hk (by decide +kernel) hq
  have hr : zF2 (zok ks ad) [(0, (-2147483648), (2147483647))] r := hr
  obtain ⟨_, _, rfl, ⟨z1, rfl, lz1⟩, hr2⟩ := zst1 hr
  obtain rfl := zst0 hr2
  dsimp only at lz1
  dsimp only [List.cons_append, List.nil_append]
  refine lv_pop hx hb dL_law_414 rfl ?_
  refine lv_aload_n hx hb dL_law_415 rfl (lv_at hl 2 rfl) ?_
  refine zlcall (con := zc_850) (zq_RL_27 X (zM_850 hw hm) (by decide) rfl rfl) rfl hI (As := [.ref g]) (rest := []) ⟨⟨_, _, rfl, hk6.1, hk6.2⟩, trivial⟩ (Nat.le_of_ble_eq_true rfl) hl.1 dL_law_416 (fun H locs w r hI hr hk hp => ?_)
  have hq := zrel_keep hk (by decide +kernel) hq
  have hr : zF2 (zok ks ad) [(0, (-2147483648), (2147483647))] r := hr
  obtain ⟨_, _, rfl, ⟨z2, rfl, lz2⟩, hr2⟩ := zst1 hr
  obtain rfl := zst0 hr2
  dsimp only at lz2
  dsimp only [List.cons_append, List.nil_append]
  refine lv_pop hx hb dL_law_419 rfl ?_
  refine lv_goto (tgt := 2131) hx hb dL_law_420 (by decide) ?_
  exact hT ls _ _ _ hl ⟨hI, hq⟩
theorem law_3 {p : Program} {l : Launch} {e : Env} {s : State} {m : MethodId} {below : List Frame} {meth : Method} {c : Code} {Q : State → Prop} {D : va_G} {cI cZ cB cJ cR : ClassId} {ks ad : List Nat} {b L h g : Nat} {xs : Nat → Int32} (hZ : zLaw p l s m c D cI cZ cB cJ cR ks ad b L h g xs) (hm : zMan l D cI cZ cB cJ cR ks ad (zPsi ks ad)) {x : Int32} (hx0 : 0 ≤ x.toInt) (hx1 : x.toInt + 6 ≤ (L : Int)) (hT : ∀ (ls : Array Slot) (w : va_W) (H : Heap) (locs : List Loc), lv_has ls 4 [(0, .ref b), (1, .ref h), (2, .ref g), (3, .int x)] → zINV D cI cZ cB cJ cR ks ad s w H locs → W p l e room_1 s m #[Value.ref b] below meth c H locs 98 7042 Q (F0 m 2131 ls [])) {ls : Array Slot} {w : va_W} {H : Heap} {locs : List Loc} (hl : lv_has ls 4 [(0, .ref b), (1, .ref h), (2, .ref g), (3, .int x)]) (hI : zINV D cI cZ cB cJ cR ks ad s w H locs) : W p l e room_1 s m #[Value.ref b] below meth c H locs 98 7042 Q (F0 m 423 ls []) := by
  obtain ⟨X, hX, hbl, hL, hw, ⟨i5, hk5⟩, ⟨i6, hk6⟩⟩ := hZ
  have hx := X.1.1
  have hb := X.1.2.1
  have hbA : ¬ lwA s b := Nat.not_le.mpr hbl
  obtain ⟨hI, hq⟩ := hI
  refine lv_aload_n hx hb dL_law_423 rfl (lv_at hl 1 rfl) ?_
  refine lv_aload_n hx hb dL_law_424 rfl (lv_at hl 0 rfl) ?_
  refine lv_iload_n hx hb dL_law_425 rfl (lv_at hl 3 rfl) ?_
  refine lv_iconst (v := 1) hx hb dL_law_426 (by decide) ?_
  refine lv_iadd hx hb dL_law_427 ?_
  refine lv_topi (fun y1 hy1 => ?_)
  have ey1 : y1.toInt = x.toInt + 1 := by rw [hy1, addI _ _ (by simp only [Int32.reduceToInt]; omega)]; rfl
  refine va_sld hx hb hX hbl hbA hI.2.2.1 (vp_in_iff.mpr ⟨by omega, by omega⟩) dL_law_428 ?_
  refine lv_topi (fun a2 ha2 => ?_)
  refine zlcall (con := zc_665) (zq_RL_28 X (zM_665 hw hm) (by decide) rfl rfl) rfl hI (As := [.ref h, .int a2]) (rest := []) ⟨⟨_, _, rfl, hk5.1, hk5.2⟩, ⟨_, rfl, bT _⟩, trivial⟩ (Nat.le_of_ble_eq_true rfl) hl.1 dL_law_429 (fun H locs w r hI hr hk hp => ?_)
  have hq := zrel_keep hk (by decide +kernel) hq
  have hr : zF2 (zok ks ad) [(0, (-1), (1200))] r := hr
  obtain ⟨_, _, rfl, ⟨z3, rfl, lz3⟩, hr2⟩ := zst1 hr
  obtain rfl := zst0 hr2
  dsimp only at lz3
  dsimp only [List.cons_append, List.nil_append]
  refine lv_pop hx hb dL_law_432 rfl ?_
  refine lv_aload_n hx hb dL_law_433 rfl (lv_at hl 2 rfl) ?_
  refine lv_aload_n hx hb dL_law_434 rfl (lv_at hl 0 rfl) ?_
  refine lv_iload_n hx hb dL_law_435 rfl (lv_at hl 3 rfl) ?_
  refine lv_iconst (v := 1) hx hb dL_law_436 (by decide) ?_
  refine lv_iadd hx hb dL_law_437 ?_
  refine lv_topi (fun y4 hy4 => ?_)
  have ey4 : y4.toInt = x.toInt + 1 := by rw [hy4, addI _ _ (by simp only [Int32.reduceToInt]; omega)]; rfl
  refine va_sld hx hb hX hbl hbA hI.2.2.1 (vp_in_iff.mpr ⟨by omega, by omega⟩) dL_law_438 ?_
  refine lv_topi (fun a5 ha5 => ?_)
  refine zlcall (con := zc_883) (zq_RL_31 X (zM_883 hw hm) (by decide) rfl rfl) rfl hI (As := [.ref g, .int a5]) (rest := []) ⟨⟨_, _, rfl, hk6.1, hk6.2⟩, ⟨_, rfl, bT _⟩, trivial⟩ (Nat.le_of_ble_eq_true rfl) hl.1 dL_law_439 (fun H locs w r hI hr hk hp => ?_)
  have hq := zrel_keep hk (by decide +kernel) hq
  have hr : zF2 (zok ks ad) [(0, (-1), (1200))] r := hr
  obtain ⟨_, _, rfl, ⟨z6, rfl, lz6⟩, hr2⟩ := zst1 hr
  obtain rfl := zst0 hr2
  dsimp only at lz6
  dsimp only [List.cons_append, List.nil_append]
  refine lv_pop hx hb dL_law_442 rfl ?_
  refine lv_goto (tgt := 2131) hx hb dL_law_443 (by decide) ?_
  exact hT ls _ _ _ hl ⟨hI, hq⟩
theorem law_4 {p : Program} {l : Launch} {e : Env} {s : State} {m : MethodId} {below : List Frame} {meth : Method} {c : Code} {Q : State → Prop} {D : va_G} {cI cZ cB cJ cR : ClassId} {ks ad : List Nat} {b L h g : Nat} {xs : Nat → Int32} (hZ : zLaw p l s m c D cI cZ cB cJ cR ks ad b L h g xs) (hm : zMan l D cI cZ cB cJ cR ks ad (zPsi ks ad)) {x : Int32} (hx0 : 0 ≤ x.toInt) (hx1 : x.toInt + 6 ≤ (L : Int)) (hT : ∀ (ls : Array Slot) (w : va_W) (H : Heap) (locs : List Loc), lv_has ls 4 [(0, .ref b), (1, .ref h), (2, .ref g), (3, .int x)] → zINV D cI cZ cB cJ cR ks ad s w H locs → W p l e room_1 s m #[Value.ref b] below meth c H locs 98 7042 Q (F0 m 2131 ls [])) {ls : Array Slot} {w : va_W} {H : Heap} {locs : List Loc} (hl : lv_has ls 4 [(0, .ref b), (1, .ref h), (2, .ref g), (3, .int x)]) (hI : zINV D cI cZ cB cJ cR ks ad s w H locs) : W p l e room_1 s m #[Value.ref b] below meth c H locs 98 7042 Q (F0 m 446 ls []) := by
  obtain ⟨X, hX, hbl, hL, hw, ⟨i5, hk5⟩, ⟨i6, hk6⟩⟩ := hZ
  have hx := X.1.1
  have hb := X.1.2.1
  have hbA : ¬ lwA s b := Nat.not_le.mpr hbl
  obtain ⟨hI, hq⟩ := hI
  refine lv_aload_n hx hb dL_law_446 rfl (lv_at hl 1 rfl) ?_
  refine lv_aload_n hx hb dL_law_447 rfl (lv_at hl 0 rfl) ?_
  refine lv_iload_n hx hb dL_law_448 rfl (lv_at hl 3 rfl) ?_
  refine lv_iconst (v := 1) hx hb dL_law_449 (by decide) ?_
  refine lv_iadd hx hb dL_law_450 ?_
  refine lv_topi (fun y1 hy1 => ?_)
  have ey1 : y1.toInt = x.toInt + 1 := by rw [hy1, addI _ _ (by simp only [Int32.reduceToInt]; omega)]; rfl
  refine va_sld hx hb hX hbl hbA hI.2.2.1 (vp_in_iff.mpr ⟨by omega, by omega⟩) dL_law_451 ?_
  refine lv_topi (fun a2 ha2 => ?_)
  refine lv_aload_n hx hb dL_law_452 rfl (lv_at hl 0 rfl) ?_
  refine lv_iload_n hx hb dL_law_453 rfl (lv_at hl 3 rfl) ?_
  refine lv_iconst (v := 2) hx hb dL_law_454 (by decide) ?_
  refine lv_iadd hx hb dL_law_455 ?_
  refine lv_topi (fun y3 hy3 => ?_)
  have ey3 : y3.toInt = x.toInt + 2 := by rw [hy3, addI _ _ (by simp only [Int32.reduceToInt]; omega)]; rfl
  refine va_sld hx hb hX hbl hbA hI.2.2.1 (vp_in_iff.mpr ⟨by omega, by omega⟩) dL_law_456 ?_
  refine lv_topi (fun a4 ha4 => ?_)
  refine zlcall (con := zc_637) (zq_RL_32 X (zM_637 hw hm) (by decide) rfl rfl) rfl hI (As := [.ref h, .int a2, .int a4]) (rest := []) ⟨⟨_, _, rfl, hk5.1, hk5.2⟩, ⟨_, rfl, bT _⟩, ⟨_, rfl, bT _⟩, trivial⟩ (Nat.le_of_ble_eq_true rfl) hl.1 dL_law_457 (fun H locs w r hI hr hk hp => ?_)
  have hq := zrel_keep hk (by decide +kernel) hq
  have hr : zF2 (zok ks ad) [(0, (-2), (9))] r := hr
  obtain ⟨_, _, rfl, ⟨z5, rfl, lz5⟩, hr2⟩ := zst1 hr
  obtain rfl := zst0 hr2
  dsimp only at lz5
  dsimp only [List.cons_append, List.nil_append]
  refine lv_pop hx hb dL_law_460 rfl ?_
  refine lv_aload_n hx hb dL_law_461 rfl (lv_at hl 2 rfl) ?_
  refine lv_aload_n hx hb dL_law_462 rfl (lv_at hl 0 rfl) ?_
  refine lv_iload_n hx hb dL_law_463 rfl (lv_at hl 3 rfl) ?_
  refine lv_iconst (v := 1) hx hb dL_law_464 (by decide) ?_
  refine lv_iadd hx hb dL_law_465 ?_
  refine lv_topi (fun y6 hy6 => ?_)
  have ey6 : y6.toInt = x.toInt + 1 := by rw [hy6, addI _ _ (by simp only [Int32.reduceToInt]; omega)]; rfl
  refine va_sld hx hb hX hbl hbA hI.2.2.1 (vp_in_iff.mpr ⟨by omega, by omega⟩) dL_law_466 ?_
  refine lv_topi (fun a7 ha7 => ?_)
  refine lv_aload_n hx hb dL_law_467 rfl (lv_at hl 0 rfl) ?_
  refine lv_iload_n hx hb dL_law_468 rfl (lv_at hl 3 rfl) ?_
  refine lv_iconst (v := 2) hx hb dL_law_469 (by decide) ?_
  refine lv_iadd hx hb dL_law_470 ?_
  refine lv_topi (fun y8 hy8 => ?_)
  have ey8 : y8.toInt = x.toInt + 2 := by rw [hy8, addI _ _ (by simp only [Int32.reduceToInt]; omega)]; rfl
  refine va_sld hx hb hX hbl hbA hI.2.2.1 (vp_in_iff.mpr ⟨by omega, by omega⟩) dL_law_471 ?_
  refine lv_topi (fun a9 ha9 => ?_)
  refine zlcall (con := zc_839) (zq_RL_36 X (zM_839 hw hm) (by decide) rfl rfl) rfl hI (As := [.ref g, .int a7, .int a9]) (rest := []) ⟨⟨_, _, rfl, hk6.1, hk6.2⟩, ⟨_, rfl, bT _⟩, ⟨_, rfl, bT _⟩, trivial⟩ (Nat.le_of_ble_eq_true rfl) hl.1 dL_law_472 (fun H locs w r hI hr hk hp => ?_)
  have hq := zrel_keep hk (by decide +kernel) hq
  have hr : zF2 (zok ks ad) [(0, (-2), (9))] r := hr
  obtain ⟨_, _, rfl, ⟨z10, rfl, lz10⟩, hr2⟩ := zst1 hr
  obtain rfl := zst0 hr2
  dsimp only at lz10
  dsimp only [List.cons_append, List.nil_append]
  refine lv_pop hx hb dL_law_475 rfl ?_
  refine lv_goto (tgt := 2131) hx hb dL_law_476 (by decide) ?_
  exact hT ls _ _ _ hl ⟨hI, hq⟩
theorem law_5 {p : Program} {l : Launch} {e : Env} {s : State} {m : MethodId} {below : List Frame} {meth : Method} {c : Code} {Q : State → Prop} {D : va_G} {cI cZ cB cJ cR : ClassId} {ks ad : List Nat} {b L h g : Nat} {xs : Nat → Int32} (hZ : zLaw p l s m c D cI cZ cB cJ cR ks ad b L h g xs) (hm : zMan l D cI cZ cB cJ cR ks ad (zPsi ks ad)) {x : Int32} (hx0 : 0 ≤ x.toInt) (hx1 : x.toInt + 6 ≤ (L : Int)) (hT : ∀ (ls : Array Slot) (w : va_W) (H : Heap) (locs : List Loc), lv_has ls 4 [(0, .ref b), (1, .ref h), (2, .ref g), (3, .int x)] → zINV D cI cZ cB cJ cR ks ad s w H locs → W p l e room_1 s m #[Value.ref b] below meth c H locs 98 7042 Q (F0 m 2131 ls [])) {ls : Array Slot} {w : va_W} {H : Heap} {locs : List Loc} (hl : lv_has ls 4 [(0, .ref b), (1, .ref h), (2, .ref g), (3, .int x)]) (hI : zINV D cI cZ cB cJ cR ks ad s w H locs) : W p l e room_1 s m #[Value.ref b] below meth c H locs 98 7042 Q (F0 m 479 ls []) := by
  obtain ⟨X, hX, hbl, hL, hw, ⟨i5, hk5⟩, ⟨i6, hk6⟩⟩ := hZ
  have hx := X.1.1
  have hb := X.1.2.1
  have hbA : ¬ lwA s b := Nat.not_le.mpr hbl
  obtain ⟨hI, hq⟩ := hI
  refine lv_aload_n hx hb dL_law_479 rfl (lv_at hl 1 rfl) ?_
  refine lv_aload_n hx hb dL_law_480 rfl (lv_at hl 0 rfl) ?_
  refine lv_iload_n hx hb dL_law_481 rfl (lv_at hl 3 rfl) ?_
  refine lv_iconst (v := 1) hx hb dL_law_482 (by decide) ?_
  refine lv_iadd hx hb dL_law_483 ?_
  refine lv_topi (fun y1 hy1 => ?_)
  have ey1 : y1.toInt = x.toInt + 1 := by rw [hy1, addI _ _ (by simp only [Int32.reduceToInt]; omega)]; rfl
  refine va_sld hx hb hX hbl hbA hI.2.2.1 (vp_in_iff.mpr ⟨by omega, by omega⟩) dL_law_484 ?_
  refine lv_topi (fun a2 ha2 => ?_)
  refine lv_aload_n hx hb dL_law_485 rfl (lv_at hl 0 rfl) ?_
  refine lv_iload_n hx hb dL_law_486 rfl (lv_at hl 3 rfl) ?_
  refine lv_iconst (v := 2) hx hb dL_law_487 (by decide) ?_
  refine lv_iadd hx hb dL_law_488 ?_
  refine lv_topi (fun y3 hy3 => ?_)
  have ey3 : y3.toInt = x.toInt + 2 := by rw [hy3, addI _ _ (by simp only [Int32.reduceToInt]; omega)]; rfl
  refine va_sld hx hb hX hbl hbA hI.2.2.1 (vp_in_iff.mpr ⟨by omega, by omega⟩) dL_law_489 ?_
  refine lv_topi (fun a4 ha4 => ?_)
  refine lv_aload_n hx hb dL_law_490 rfl (lv_at hl 0 rfl) ?_
  refine lv_iload_n hx hb dL_law_491 rfl (lv_at hl 3 rfl) ?_
  refine lv_iconst (v := 3) hx hb dL_law_492 (by decide) ?_
  refine lv_iadd hx hb dL_law_493 ?_
  refine lv_topi (fun y5 hy5 => ?_)
  have ey5 : y5.toInt = x.toInt + 3 := by rw [hy5, addI _ _ (by simp only [Int32.reduceToInt]; omega)]; rfl
  refine va_sld hx hb hX hbl hbA hI.2.2.1 (vp_in_iff.mpr ⟨by omega, by omega⟩) dL_law_494 ?_
  refine lv_topi (fun a6 ha6 => ?_)
  refine zlcall (con := zc_805) (zq_RL_37 X (zM_805 hw hm) (by decide) rfl rfl) rfl hI (As := [.ref h, .int a2, .int a4, .int a6]) (rest := []) ⟨⟨_, _, rfl, hk5.1, hk5.2⟩, ⟨_, rfl, bT _⟩, ⟨_, rfl, bT _⟩, ⟨_, rfl, bT _⟩, trivial⟩ (Nat.le_of_ble_eq_true rfl) hl.1 dL_law_495 (fun H locs w r hI hr hk hp => ?_)
  have hq := zrel_keep hk (by decide +kernel) hq
  have hr : zF2 (zok ks ad) [(0, (-2), (1))] r := hr
  obtain ⟨_, _, rfl, ⟨z7, rfl, lz7⟩, hr2⟩ := zst1 hr
  obtain rfl := zst0 hr2
  dsimp only at lz7
  dsimp only [List.cons_append, List.nil_append]
  refine lv_pop hx hb dL_law_498 rfl ?_
  refine lv_aload_n hx hb dL_law_499 rfl (lv_at hl 2 rfl) ?_
  refine lv_aload_n hx hb dL_law_500 rfl (lv_at hl 0 rfl) ?_
  refine lv_iload_n hx hb dL_law_501 rfl (lv_at hl 3 rfl) ?_
  refine lv_iconst (v := 1) hx hb dL_law_502 (by decide) ?_
  refine lv_iadd hx hb dL_law_503 ?_
  refine lv_topi (fun y8 hy8 => ?_)
  have ey8 : y8.toInt = x.toInt + 1 := by rw [hy8, addI _ _ (by simp only [Int32.reduceToInt]; omega)]; rfl
  refine va_sld hx hb hX hbl hbA hI.2.2.1 (vp_in_iff.mpr ⟨by omega, by omega⟩) dL_law_504 ?_
  refine lv_topi (fun a9 ha9 => ?_)
  refine lv_aload_n hx hb dL_law_505 rfl (lv_at hl 0 rfl) ?_
  refine lv_iload_n hx hb dL_law_506 rfl (lv_at hl 3 rfl) ?_
  refine lv_iconst (v := 2) hx hb dL_law_507 (by decide) ?_
  refine lv_iadd hx hb dL_law_508 ?_
  refine lv_topi (fun y10 hy10 => ?_)
  have ey10 : y10.toInt = x.toInt + 2 := by rw [hy10, addI _ _ (by simp only [Int32.reduceToInt]; omega)]; rfl
  refine va_sld hx hb hX hbl hbA hI.2.2.1 (vp_in_iff.mpr ⟨by omega, by omega⟩) dL_law_509 ?_
  refine lv_topi (fun a11 ha11 => ?_)
  refine lv_aload_n hx hb dL_law_510 rfl (lv_at hl 0 rfl) ?_
  refine lv_iload_n hx hb dL_law_511 rfl (lv_at hl 3 rfl) ?_
  refine lv_iconst (v := 3) hx hb dL_law_512 (by decide) ?_
  refine lv_iadd hx hb dL_law_513 ?_
  refine lv_topi (fun y12 hy12 => ?_)
  have ey12 : y12.toInt = x.toInt + 3 := by rw [hy12, addI _ _ (by simp only [Int32.reduceToInt]; omega)]; rfl
  refine va_sld hx hb hX hbl hbA hI.2.2.1 (vp_in_iff.mpr ⟨by omega, by omega⟩) dL_law_514 ?_
  refine lv_topi (fun a13 ha13 => ?_)
  refine zlcall (con := zc_1120) (zq_RL_41 X (zM_1120 hw hm) (by decide) rfl rfl) rfl hI (As := [.ref g, .int a9, .int a11, .int a13]) (rest := []) ⟨⟨_, _, rfl, hk6.1, hk6.2⟩, ⟨_, rfl, bT _⟩, ⟨_, rfl, bT _⟩, ⟨_, rfl, bT _⟩, trivial⟩ (Nat.le_of_ble_eq_true rfl) hl.1 dL_law_515 (fun H locs w r hI hr hk hp => ?_)
  have hq := zrel_keep hk (by decide +kernel) hq
  have hr : zF2 (zok ks ad) [(0, (-2), (1))] r := hr
  obtain ⟨_, _, rfl, ⟨z14, rfl, lz14⟩, hr2⟩ := zst1 hr
  obtain rfl := zst0 hr2
  dsimp only at lz14
  dsimp only [List.cons_append, List.nil_append]
  refine lv_pop hx hb dL_law_518 rfl ?_
  refine lv_goto (tgt := 2131) hx hb dL_law_519 (by decide) ?_
  exact hT ls _ _ _ hl ⟨hI, hq⟩
theorem law_6 {p : Program} {l : Launch} {e : Env} {s : State} {m : MethodId} {below : List Frame} {meth : Method} {c : Code} {Q : State → Prop} {D : va_G} {cI cZ cB cJ cR : ClassId} {ks ad : List Nat} {b L h g : Nat} {xs : Nat → Int32} (hZ : zLaw p l s m c D cI cZ cB cJ cR ks ad b L h g xs) (hm : zMan l D cI cZ cB cJ cR ks ad (zPsi ks ad)) {x : Int32} (hx0 : 0 ≤ x.toInt) (hx1 : x.toInt + 6 ≤ (L : Int)) (hT : ∀ (ls : Array Slot) (w : va_W) (H : Heap) (locs : List Loc), lv_has ls 4 [(0, .ref b), (1, .ref h), (2, .ref g), (3, .int x)] → zINV D cI cZ cB cJ cR ks ad s w H locs → W p l e room_1 s m #[Value.ref b] below meth c H locs 98 7042 Q (F0 m 2131 ls [])) {ls : Array Slot} {w : va_W} {H : Heap} {locs : List Loc} (hl : lv_has ls 4 [(0, .ref b), (1, .ref h), (2, .ref g), (3, .int x)]) (hI : zINV D cI cZ cB cJ cR ks ad s w H locs) : W p l e room_1 s m #[Value.ref b] below meth c H locs 98 7042 Q (F0 m 522 ls []) := by
  obtain ⟨X, hX, hbl, hL, hw, ⟨i5, hk5⟩, ⟨i6, hk6⟩⟩ := hZ
  have hx := X.1.1
  have hb := X.1.2.1
  have hbA : ¬ lwA s b := Nat.not_le.mpr hbl
  obtain ⟨hI, hq⟩ := hI
  refine lv_aload_n hx hb dL_law_522 rfl (lv_at hl 1 rfl) ?_
  refine lv_aload_n hx hb dL_law_523 rfl (lv_at hl 0 rfl) ?_
  refine lv_iload_n hx hb dL_law_524 rfl (lv_at hl 3 rfl) ?_
  refine lv_iconst (v := 1) hx hb dL_law_525 (by decide) ?_
  refine lv_iadd hx hb dL_law_526 ?_
  refine lv_topi (fun y1 hy1 => ?_)
  have ey1 : y1.toInt = x.toInt + 1 := by rw [hy1, addI _ _ (by simp only [Int32.reduceToInt]; omega)]; rfl
  refine va_sld hx hb hX hbl hbA hI.2.2.1 (vp_in_iff.mpr ⟨by omega, by omega⟩) dL_law_527 ?_
  refine lv_topi (fun a2 ha2 => ?_)
  refine lv_aload_n hx hb dL_law_528 rfl (lv_at hl 0 rfl) ?_
  refine lv_iload_n hx hb dL_law_529 rfl (lv_at hl 3 rfl) ?_
  refine lv_iconst (v := 2) hx hb dL_law_530 (by decide) ?_
  refine lv_iadd hx hb dL_law_531 ?_
  refine lv_topi (fun y3 hy3 => ?_)
  have ey3 : y3.toInt = x.toInt + 2 := by rw [hy3, addI _ _ (by simp only [Int32.reduceToInt]; omega)]; rfl
  refine va_sld hx hb hX hbl hbA hI.2.2.1 (vp_in_iff.mpr ⟨by omega, by omega⟩) dL_law_532 ?_
  refine lv_topi (fun a4 ha4 => ?_)
  refine zlcall (con := zc_806) (zq_RL_42 X (zM_806 hw hm) (by decide) rfl rfl) rfl hI (As := [.ref h, .int a2, .int a4]) (rest := []) ⟨⟨_, _, rfl, hk5.1, hk5.2⟩, ⟨_, rfl, bT _⟩, ⟨_, rfl, bT _⟩, trivial⟩ (Nat.le_of_ble_eq_true rfl) hl.1 dL_law_533 (fun H locs w r hI hr hk hp => ?_)
  have hq := zrel_keep hk (by decide +kernel) hq
  have hr : zF2 (zok ks ad) [(0, (-2147483648), (2147483647))] r := hr
  obtain ⟨_, _, rfl, ⟨z5, rfl, lz5⟩, hr2⟩ := zst1 hr
  obtain rfl := zst0 hr2
  dsimp only at lz5
  dsimp only [List.cons_append, List.nil_append]
  refine lv_pop hx hb dL_law_536 rfl ?_
  refine lv_aload_n hx hb dL_law_537 rfl (lv_at hl 2 rfl) ?_
  refine lv_aload_n hx hb dL_law_538 rfl (lv_at hl 0 rfl) ?_
  refine lv_iload_n hx hb dL_law_539 rfl (lv_at hl 3 rfl) ?_
  refine lv_iconst (v := 1) hx hb dL_law_540 (by decide) ?_
  refine lv_iadd hx hb dL_law_541 ?_
  refine lv_topi (fun y6 hy6 => ?_)
  have ey6 : y6.toInt = x.toInt + 1 := by rw [hy6, addI _ _ (by simp only [Int32.reduceToInt]; omega)]; rfl
  refine va_sld hx hb hX hbl hbA hI.2.2.1 (vp_in_iff.mpr ⟨by omega, by omega⟩) dL_law_542 ?_
  refine lv_topi (fun a7 ha7 => ?_)
  refine lv_aload_n hx hb dL_law_543 rfl (lv_at hl 0 rfl) ?_
  refine lv_iload_n hx hb dL_law_544 rfl (lv_at hl 3 rfl) ?_
  refine lv_iconst (v := 2) hx hb dL_law_545 (by decide) ?_
  refine lv_iadd hx hb dL_law_546 ?_
  refine lv_topi (fun y8 hy8 => ?_)
  have ey8 : y8.toInt = x.toInt + 2 := by rw [hy8, addI _ _ (by simp only [Int32.reduceToInt]; omega)]; rfl
  refine va_sld hx hb hX hbl hbA hI.2.2.1 (vp_in_iff.mpr ⟨by omega, by omega⟩) dL_law_547 ?_
  refine lv_topi (fun a9 ha9 => ?_)
  refine zlcall (con := zc_1122) (zq_RL_45 X (zM_1122 hw hm) (by decide) rfl rfl) rfl hI (As := [.ref g, .int a7, .int a9]) (rest := []) ⟨⟨_, _, rfl, hk6.1, hk6.2⟩, ⟨_, rfl, bT _⟩, ⟨_, rfl, bT _⟩, trivial⟩ (Nat.le_of_ble_eq_true rfl) hl.1 dL_law_548 (fun H locs w r hI hr hk hp => ?_)
  have hq := zrel_keep hk (by decide +kernel) hq
  have hr : zF2 (zok ks ad) [(0, (-2147483648), (2147483647))] r := hr
  obtain ⟨_, _, rfl, ⟨z10, rfl, lz10⟩, hr2⟩ := zst1 hr
  obtain rfl := zst0 hr2
  dsimp only at lz10
  dsimp only [List.cons_append, List.nil_append]
  refine lv_pop hx hb dL_law_551 rfl ?_
  refine lv_goto (tgt := 2131) hx hb dL_law_552 (by decide) ?_
  exact hT ls _ _ _ hl ⟨hI, hq⟩
theorem law_7 {p : Program} {l : Launch} {e : Env} {s : State} {m : MethodId} {below : List Frame} {meth : Method} {c : Code} {Q : State → Prop} {D : va_G} {cI cZ cB cJ cR : ClassId} {ks ad : List Nat} {b L h g : Nat} {xs : Nat → Int32} (hZ : zLaw p l s m c D cI cZ cB cJ cR ks ad b L h g xs) (hm : zMan l D cI cZ cB cJ cR ks ad (zPsi ks ad)) {x : Int32} (hx0 : 0 ≤ x.toInt) (hx1 : x.toInt + 6 ≤ (L : Int)) (hT : ∀ (ls : Array Slot) (w : va_W) (H : Heap) (locs : List Loc), lv_has ls 4 [(0, .ref b), (1, .ref h), (2, .ref g), (3, .int x)] → zINV D cI cZ cB cJ cR ks ad s w H locs → W p l e room_1 s m #[Value.ref b] below meth c H locs 98 7042 Q (F0 m 2131 ls [])) {ls : Array Slot} {w : va_W} {H : Heap} {locs : List Loc} (hl : lv_has ls 4 [(0, .ref b), (1, .ref h), (2, .ref g), (3, .int x)]) (hI : zINV D cI cZ cB cJ cR ks ad s w H locs) : W p l e room_1 s m #[Value.ref b] below meth c H locs 98 7042 Q (F0 m 555 ls []) := by
  obtain ⟨X, hX, hbl, hL, hw, ⟨i5, hk5⟩, ⟨i6, hk6⟩⟩ := hZ
  have hx := X.1.1
  have hb := X.1.2.1
  have hbA : ¬ lwA s b := Nat.not_le.mpr hbl
  obtain ⟨hI, hq⟩ := hI
  refine lv_aload_n hx hb dL_law_555 rfl (lv_at hl 1 rfl) ?_
  refine lv_aload_n hx hb dL_law_556 rfl (lv_at hl 0 rfl) ?_
  refine lv_iload_n hx hb dL_law_557 rfl (lv_at hl 3 rfl) ?_
  refine lv_iconst (v := 1) hx hb dL_law_558 (by decide) ?_
  refine lv_iadd hx hb dL_law_559 ?_
  refine lv_topi (fun y1 hy1 => ?_)
  have ey1 : y1.toInt = x.toInt + 1 := by rw [hy1, addI _ _ (by simp only [Int32.reduceToInt]; omega)]; rfl
  refine va_sld hx hb hX hbl hbA hI.2.2.1 (vp_in_iff.mpr ⟨by omega, by omega⟩) dL_law_560 ?_
  refine lv_topi (fun a2 ha2 => ?_)
  refine zlcall (con := zc_815) (zq_RL_46 X (zM_815 hw hm) (by decide) rfl rfl) rfl hI (As := [.ref h, .int a2]) (rest := []) ⟨⟨_, _, rfl, hk5.1, hk5.2⟩, ⟨_, rfl, bT _⟩, trivial⟩ (Nat.le_of_ble_eq_true rfl) hl.1 dL_law_561 (fun H locs w r hI hr hk hp => ?_)
  have hq := zrel_keep hk (by decide +kernel) hq
  have hr : zF2 (zok ks ad) [(0, (-2), (6))] r := hr
  obtain ⟨_, _, rfl, ⟨z3, rfl, lz3⟩, hr2⟩ := zst1 hr
  obtain rfl := zst0 hr2
  dsimp only at lz3
  dsimp only [List.cons_append, List.nil_append]
  refine lv_pop hx hb dL_law_564 rfl ?_
  refine lv_aload_n hx hb dL_law_565 rfl (lv_at hl 2 rfl) ?_
  refine lv_aload_n hx hb dL_law_566 rfl (lv_at hl 0 rfl) ?_
  refine lv_iload_n hx hb dL_law_567 rfl (lv_at hl 3 rfl) ?_
  refine lv_iconst (v := 1) hx hb dL_law_568 (by decide) ?_
  refine lv_iadd hx hb dL_law_569 ?_
  refine lv_topi (fun y4 hy4 => ?_)
  have ey4 : y4.toInt = x.toInt + 1 := by rw [hy4, addI _ _ (by simp only [Int32.reduceToInt]; omega)]; rfl
  refine va_sld hx hb hX hbl hbA hI.2.2.1 (vp_in_iff.mpr ⟨by omega, by omega⟩) dL_law_570 ?_
  refine lv_topi (fun a5 ha5 => ?_)
  refine zlcall (con := zc_1127) (zq_RL_49 X (zM_1127 hw hm) (by decide) rfl rfl) rfl hI (As := [.ref g, .int a5]) (rest := []) ⟨⟨_, _, rfl, hk6.1, hk6.2⟩, ⟨_, rfl, bT _⟩, trivial⟩ (Nat.le_of_ble_eq_true rfl) hl.1 dL_law_571 (fun H locs w r hI hr hk hp => ?_)
  have hq := zrel_keep hk (by decide +kernel) hq
  have hr : zF2 (zok ks ad) [(0, (-2), (6))] r := hr
  obtain ⟨_, _, rfl, ⟨z6, rfl, lz6⟩, hr2⟩ := zst1 hr
  obtain rfl := zst0 hr2
  dsimp only at lz6
  dsimp only [List.cons_append, List.nil_append]
  refine lv_pop hx hb dL_law_574 rfl ?_
  refine lv_goto (tgt := 2131) hx hb dL_law_575 (by decide) ?_
  exact hT ls _ _ _ hl ⟨hI, hq⟩
theorem law_8 {p : Program} {l : Launch} {e : Env} {s : State} {m : MethodId} {below : List Frame} {meth : Method} {c : Code} {Q : State → Prop} {D : va_G} {cI cZ cB cJ cR : ClassId} {ks ad : List Nat} {b L h g : Nat} {xs : Nat → Int32} (hZ : zLaw p l s m c D cI cZ cB cJ cR ks ad b L h g xs) (hm : zMan l D cI cZ cB cJ cR ks ad (zPsi ks ad)) {x : Int32} (hx0 : 0 ≤ x.toInt) (hx1 : x.toInt + 6 ≤ (L : Int)) (hT : ∀ (ls : Array Slot) (w : va_W) (H : Heap) (locs : List Loc), lv_has ls 4 [(0, .ref b), (1, .ref h), (2, .ref g), (3, .int x)] → zINV D cI cZ cB cJ cR ks ad s w H locs → W p l e room_1 s m #[Value.ref b] below meth c H locs 98 7042 Q (F0 m 2131 ls [])) {ls : Array Slot} {w : va_W} {H : Heap} {locs : List Loc} (hl : lv_has ls 4 [(0, .ref b), (1, .ref h), (2, .ref g), (3, .int x)]) (hI : zINV D cI cZ cB cJ cR ks ad s w H locs) : W p l e room_1 s m #[Value.ref b] below meth c H locs 98 7042 Q (F0 m 578 ls []) := by
  obtain ⟨X, hX, hbl, hL, hw, ⟨i5, hk5⟩, ⟨i6, hk6⟩⟩ := hZ
  have hx := X.1.1
  have hb := X.1.2.1
  have hbA : ¬ lwA s b := Nat.not_le.mpr hbl
  obtain ⟨hI, hq⟩ := hI
  refine lv_aload_n hx hb dL_law_578 rfl (lv_at hl 1 rfl) ?_
  refine lv_aload_n hx hb dL_law_579 rfl (lv_at hl 0 rfl) ?_
  refine lv_iload_n hx hb dL_law_580 rfl (lv_at hl 3 rfl) ?_
  refine lv_iconst (v := 1) hx hb dL_law_581 (by decide) ?_
  refine lv_iadd hx hb dL_law_582 ?_
  refine lv_topi (fun y1 hy1 => ?_)
  have ey1 : y1.toInt = x.toInt + 1 := by rw [hy1, addI _ _ (by simp only [Int32.reduceToInt]; omega)]; rfl
  refine va_sld hx hb hX hbl hbA hI.2.2.1 (vp_in_iff.mpr ⟨by omega, by omega⟩) dL_law_583 ?_
  refine lv_topi (fun a2 ha2 => ?_)
  refine zlcall (con := zc_816) (zq_RL_50 X (zM_816 hw hm) (by decide) rfl rfl) rfl hI (As := [.ref h, .int a2]) (rest := []) ⟨⟨_, _, rfl, hk5.1, hk5.2⟩, ⟨_, rfl, bT _⟩, trivial⟩ (Nat.le_of_ble_eq_true rfl) hl.1 dL_law_584 (fun H locs w r hI hr hk hp => ?_)
  have hq := zrel_keep hk (by decide +kernel) hq
  have hr : zF2 (zok ks ad) [(0, (-2147483648), (2147483647))] r := hr
  obtain ⟨_, _, rfl, ⟨z3, rfl, lz3⟩, hr2⟩ := zst1 hr
  obtain rfl := zst0 hr2
  dsimp only at lz3
  dsimp only [List.cons_append, List.nil_append]
  refine lv_pop hx hb dL_law_587 rfl ?_
  refine lv_aload_n hx hb dL_law_588 rfl (lv_at hl 2 rfl) ?_
  refine lv_aload_n hx hb dL_law_589 rfl (lv_at hl 0 rfl) ?_
  refine lv_iload_n hx hb dL_law_590 rfl (lv_at hl 3 rfl) ?_
  refine lv_iconst (v := 1) hx hb dL_law_591 (by decide) ?_
  refine lv_iadd hx hb dL_law_592 ?_
  refine lv_topi (fun y4 hy4 => ?_)
  have ey4 : y4.toInt = x.toInt + 1 := by rw [hy4, addI _ _ (by simp only [Int32.reduceToInt]; omega)]; rfl
  refine va_sld hx hb hX hbl hbA hI.2.2.1 (vp_in_iff.mpr ⟨by omega, by omega⟩) dL_law_593 ?_
  refine lv_topi (fun a5 ha5 => ?_)
  refine zlcall (con := zc_1128) (zq_RL_53 X (zM_1128 hw hm) (by decide) rfl rfl) rfl hI (As := [.ref g, .int a5]) (rest := []) ⟨⟨_, _, rfl, hk6.1, hk6.2⟩, ⟨_, rfl, bT _⟩, trivial⟩ (Nat.le_of_ble_eq_true rfl) hl.1 dL_law_594 (fun H locs w r hI hr hk hp => ?_)
  have hq := zrel_keep hk (by decide +kernel) hq
  have hr : zF2 (zok ks ad) [(0, (-2147483648), (2147483647))] r := hr
  obtain ⟨_, _, rfl, ⟨z6, rfl, lz6⟩, hr2⟩ := zst1 hr
  obtain rfl := zst0 hr2
  dsimp only at lz6
  dsimp only [List.cons_append, List.nil_append]
  refine lv_pop hx hb dL_law_597 rfl ?_
  refine lv_goto (tgt := 2131) hx hb dL_law_598 (by decide) ?_
  exact hT ls _ _ _ hl ⟨hI, hq⟩
theorem law_9 {p : Program} {l : Launch} {e : Env} {s : State} {m : MethodId} {below : List Frame} {meth : Method} {c : Code} {Q : State → Prop} {D : va_G} {cI cZ cB cJ cR : ClassId} {ks ad : List Nat} {b L h g : Nat} {xs : Nat → Int32} (hZ : zLaw p l s m c D cI cZ cB cJ cR ks ad b L h g xs) (hm : zMan l D cI cZ cB cJ cR ks ad (zPsi ks ad)) {x : Int32} (hx0 : 0 ≤ x.toInt) (hx1 : x.toInt + 6 ≤ (L : Int)) (hT : ∀ (ls : Array Slot) (w : va_W) (H : Heap) (locs : List Loc), lv_has ls 4 [(0, .ref b), (1, .ref h), (2, .ref g), (3, .int x)] → zINV D cI cZ cB cJ cR ks ad s w H locs → W p l e room_1 s m #[Value.ref b] below meth c H locs 98 7042 Q (F0 m 2131 ls [])) {ls : Array Slot} {w : va_W} {H : Heap} {locs : List Loc} (hl : lv_has ls 4 [(0, .ref b), (1, .ref h), (2, .ref g), (3, .int x)]) (hI : zINV D cI cZ cB cJ cR ks ad s w H locs) : W p l e room_1 s m #[Value.ref b] below meth c H locs 98 7042 Q (F0 m 601 ls []) := by
  obtain ⟨X, hX, hbl, hL, hw, ⟨i5, hk5⟩, ⟨i6, hk6⟩⟩ := hZ
  have hx := X.1.1
  have hb := X.1.2.1
  have hbA : ¬ lwA s b := Nat.not_le.mpr hbl
  obtain ⟨hI, hq⟩ := hI
  refine lv_aload_n hx hb dL_law_601 rfl (lv_at hl 1 rfl) ?_
  refine lv_aload_n hx hb dL_law_602 rfl (lv_at hl 0 rfl) ?_
  refine lv_iload_n hx hb dL_law_603 rfl (lv_at hl 3 rfl) ?_
  refine lv_iconst (v := 1) hx hb dL_law_604 (by decide) ?_
  refine lv_iadd hx hb dL_law_605 ?_
  refine lv_topi (fun y1 hy1 => ?_)
  have ey1 : y1.toInt = x.toInt + 1 := by rw [hy1, addI _ _ (by simp only [Int32.reduceToInt]; omega)]; rfl
  refine va_sld hx hb hX hbl hbA hI.2.2.1 (vp_in_iff.mpr ⟨by omega, by omega⟩) dL_law_606 ?_
  refine lv_topi (fun a2 ha2 => ?_)
  refine zlcall (con := zc_670) (zq_RL_54 X (zM_670 hw hm) (by decide) rfl rfl) rfl hI (As := [.ref h, .int a2]) (rest := []) ⟨⟨_, _, rfl, hk5.1, hk5.2⟩, ⟨_, rfl, bT _⟩, trivial⟩ (Nat.le_of_ble_eq_true rfl) hl.1 dL_law_607 (fun H locs w r hI hr hk hp => ?_)
  have hq := zrel_keep hk (by decide +kernel) hq
  have hr : zF2 (zok ks ad) [(0, (-2147483648), (2147483647))] r := hr
  obtain ⟨_, _, rfl, ⟨z3, rfl, lz3⟩, hr2⟩ := zst1 hr
  obtain rfl := zst0 hr2
  dsimp only at lz3
  dsimp only [List.cons_append, List.nil_append]
  refine lv_pop hx hb dL_law_610 rfl ?_
  refine lv_aload_n hx hb dL_law_611 rfl (lv_at hl 2 rfl) ?_
  refine lv_aload_n hx hb dL_law_612 rfl (lv_at hl 0 rfl) ?_
  refine lv_iload_n hx hb dL_law_613 rfl (lv_at hl 3 rfl) ?_
  refine lv_iconst (v := 1) hx hb dL_law_614 (by decide) ?_
  refine lv_iadd hx hb dL_law_615 ?_
  refine lv_topi (fun y4 hy4 => ?_)
  have ey4 : y4.toInt = x.toInt + 1 := by rw [hy4, addI _ _ (by simp only [Int32.reduceToInt]; omega)]; rfl
  refine va_sld hx hb hX hbl hbA hI.2.2.1 (vp_in_iff.mpr ⟨by omega, by omega⟩) dL_law_616 ?_
  refine lv_topi (fun a5 ha5 => ?_)
  refine zlcall (con := zc_890) (zq_RL_57 X (zM_890 hw hm) (by decide) rfl rfl) rfl hI (As := [.ref g, .int a5]) (rest := []) ⟨⟨_, _, rfl, hk6.1, hk6.2⟩, ⟨_, rfl, bT _⟩, trivial⟩ (Nat.le_of_ble_eq_true rfl) hl.1 dL_law_617 (fun H locs w r hI hr hk hp => ?_)
  have hq := zrel_keep hk (by decide +kernel) hq
  have hr : zF2 (zok ks ad) [(0, (-2147483648), (2147483647))] r := hr
  obtain ⟨_, _, rfl, ⟨z6, rfl, lz6⟩, hr2⟩ := zst1 hr
  obtain rfl := zst0 hr2
  dsimp only at lz6
  dsimp only [List.cons_append, List.nil_append]
  refine lv_pop hx hb dL_law_620 rfl ?_
  refine lv_goto (tgt := 2131) hx hb dL_law_621 (by decide) ?_
  exact hT ls _ _ _ hl ⟨hI, hq⟩
theorem law_10 {p : Program} {l : Launch} {e : Env} {s : State} {m : MethodId} {below : List Frame} {meth : Method} {c : Code} {Q : State → Prop} {D : va_G} {cI cZ cB cJ cR : ClassId} {ks ad : List Nat} {b L h g : Nat} {xs : Nat → Int32} (hZ : zLaw p l s m c D cI cZ cB cJ cR ks ad b L h g xs) (hm : zMan l D cI cZ cB cJ cR ks ad (zPsi ks ad)) {x : Int32} (hx0 : 0 ≤ x.toInt) (hx1 : x.toInt + 6 ≤ (L : Int)) (hT : ∀ (ls : Array Slot) (w : va_W) (H : Heap) (locs : List Loc), lv_has ls 4 [(0, .ref b), (1, .ref h), (2, .ref g), (3, .int x)] → zINV D cI cZ cB cJ cR ks ad s w H locs → W p l e room_1 s m #[Value.ref b] below meth c H locs 98 7042 Q (F0 m 2131 ls [])) {ls : Array Slot} {w : va_W} {H : Heap} {locs : List Loc} (hl : lv_has ls 4 [(0, .ref b), (1, .ref h), (2, .ref g), (3, .int x)]) (hI : zINV D cI cZ cB cJ cR ks ad s w H locs) : W p l e room_1 s m #[Value.ref b] below meth c H locs 98 7042 Q (F0 m 624 ls []) := by
  obtain ⟨X, hX, hbl, hL, hw, ⟨i5, hk5⟩, ⟨i6, hk6⟩⟩ := hZ
  have hx := X.1.1
  have hb := X.1.2.1
  have hbA : ¬ lwA s b := Nat.not_le.mpr hbl
  obtain ⟨hI, hq⟩ := hI
  refine lv_aload_n hx hb dL_law_624 rfl (lv_at hl 1 rfl) ?_
  refine lv_aload_n hx hb dL_law_625 rfl (lv_at hl 0 rfl) ?_
  refine lv_iload_n hx hb dL_law_626 rfl (lv_at hl 3 rfl) ?_
  refine lv_iconst (v := 1) hx hb dL_law_627 (by decide) ?_
  refine lv_iadd hx hb dL_law_628 ?_
  refine lv_topi (fun y1 hy1 => ?_)
  have ey1 : y1.toInt = x.toInt + 1 := by rw [hy1, addI _ _ (by simp only [Int32.reduceToInt]; omega)]; rfl
  refine va_sld hx hb hX hbl hbA hI.2.2.1 (vp_in_iff.mpr ⟨by omega, by omega⟩) dL_law_629 ?_
  refine lv_topi (fun a2 ha2 => ?_)
  refine zlcall (con := zc_634) (zq_RL_58 X (zM_634 hw hm) (by decide) rfl rfl) rfl hI (As := [.ref h, .int a2]) (rest := []) ⟨⟨_, _, rfl, hk5.1, hk5.2⟩, ⟨_, rfl, bT _⟩, trivial⟩ (Nat.le_of_ble_eq_true rfl) hl.1 dL_law_630 (fun H locs w r hI hr hk hp => ?_)
  have hq := zrel_keep hk (by decide +kernel) hq
  have hr : zF2 (zok ks ad) [(0, (-2147483648), (2147483647))] r := hr
  obtain ⟨_, _, rfl, ⟨z3, rfl, lz3⟩, hr2⟩ := zst1 hr
  obtain rfl := zst0 hr2
  dsimp only at lz3
  dsimp only [List.cons_append, List.nil_append]
  refine lv_pop hx hb dL_law_633 rfl ?_
  refine lv_aload_n hx hb dL_law_634 rfl (lv_at hl 2 rfl) ?_
  refine lv_aload_n hx hb dL_law_635 rfl (lv_at hl 0 rfl) ?_
  refine lv_iload_n hx hb dL_law_636 rfl (lv_at hl 3 rfl) ?_
  refine lv_iconst (v := 1) hx hb dL_law_637 (by decide) ?_
  refine lv_iadd hx hb dL_law_638 ?_
  refine lv_topi (fun y4 hy4 => ?_)
  have ey4 : y4.toInt = x.toInt + 1 := by rw [hy4, addI _ _ (by simp only [Int32.reduceToInt]; omega)]; rfl
  refine va_sld hx hb hX hbl hbA hI.2.2.1 (vp_in_iff.mpr ⟨by omega, by omega⟩) dL_law_639 ?_
  refine lv_topi (fun a5 ha5 => ?_)
  refine zlcall (con := zc_834) (zq_RL_61 X (zM_834 hw hm) (by decide) rfl rfl) rfl hI (As := [.ref g, .int a5]) (rest := []) ⟨⟨_, _, rfl, hk6.1, hk6.2⟩, ⟨_, rfl, bT _⟩, trivial⟩ (Nat.le_of_ble_eq_true rfl) hl.1 dL_law_640 (fun H locs w r hI hr hk hp => ?_)
  have hq := zrel_keep hk (by decide +kernel) hq
  have hr : zF2 (zok ks ad) [(0, (-2147483648), (2147483647))] r := hr
  obtain ⟨_, _, rfl, ⟨z6, rfl, lz6⟩, hr2⟩ := zst1 hr
  obtain rfl := zst0 hr2
  dsimp only at lz6
  dsimp only [List.cons_append, List.nil_append]
  refine lv_pop hx hb dL_law_643 rfl ?_
  refine lv_goto (tgt := 2131) hx hb dL_law_644 (by decide) ?_
  exact hT ls _ _ _ hl ⟨hI, hq⟩
theorem law_11 {p : Program} {l : Launch} {e : Env} {s : State} {m : MethodId} {below : List Frame} {meth : Method} {c : Code} {Q : State → Prop} {D : va_G} {cI cZ cB cJ cR : ClassId} {ks ad : List Nat} {b L h g : Nat} {xs : Nat → Int32} (hZ : zLaw p l s m c D cI cZ cB cJ cR ks ad b L h g xs) (hm : zMan l D cI cZ cB cJ cR ks ad (zPsi ks ad)) {x : Int32} (hx0 : 0 ≤ x.toInt) (hx1 : x.toInt + 6 ≤ (L : Int)) (hT : ∀ (ls : Array Slot) (w : va_W) (H : Heap) (locs : List Loc), lv_has ls 4 [(0, .ref b), (1, .ref h), (2, .ref g), (3, .int x)] → zINV D cI cZ cB cJ cR ks ad s w H locs → W p l e room_1 s m #[Value.ref b] below meth c H locs 98 7042 Q (F0 m 2131 ls [])) {ls : Array Slot} {w : va_W} {H : Heap} {locs : List Loc} (hl : lv_has ls 4 [(0, .ref b), (1, .ref h), (2, .ref g), (3, .int x)]) (hI : zINV D cI cZ cB cJ cR ks ad s w H locs) : W p l e room_1 s m #[Value.ref b] below meth c H locs 98 7042 Q (F0 m 647 ls []) := by
  obtain ⟨X, hX, hbl, hL, hw, ⟨i5, hk5⟩, ⟨i6, hk6⟩⟩ := hZ
  have hx := X.1.1
  have hb := X.1.2.1
  have hbA : ¬ lwA s b := Nat.not_le.mpr hbl
  obtain ⟨hI, hq⟩ := hI
  refine lv_aload_n hx hb dL_law_647 rfl (lv_at hl 1 rfl) ?_
  refine zlcall (con := zc_633) (zq_RL_62 X (zM_633 hw hm) (by decide) rfl rfl) rfl hI (As := [.ref h]) (rest := []) ⟨⟨_, _, rfl, hk5.1, hk5.2⟩, trivial⟩ (Nat.le_of_ble_eq_true rfl) hl.1 dL_law_648 (fun H locs w r hI hr hk hp => ?_)
  have hq := zrel_keep hk (by decide +kernel) hq
  have hr : zF2 (zok ks ad) [(0, (-2147483648), (2147483647))] r := hr
  obtain ⟨_, _, rfl, ⟨z1, rfl, lz1⟩, hr2⟩ := zst1 hr
  obtain rfl := zst0 hr2
  dsimp only at lz1
  dsimp only [List.cons_append, List.nil_append]
  refine lv_pop hx hb dL_law_651 rfl ?_
  refine lv_aload_n hx hb dL_law_652 rfl (lv_at hl 2 rfl) ?_
  refine zlcall (con := zc_832) (zq_RL_65 X (zM_832 hw hm) (by decide) rfl rfl) rfl hI (As := [.ref g]) (rest := []) ⟨⟨_, _, rfl, hk6.1, hk6.2⟩, trivial⟩ (Nat.le_of_ble_eq_true rfl) hl.1 dL_law_653 (fun H locs w r hI hr hk hp => ?_)
  have hq := zrel_keep hk (by decide +kernel) hq
  have hr : zF2 (zok ks ad) [(0, (-2147483648), (2147483647))] r := hr
  obtain ⟨_, _, rfl, ⟨z2, rfl, lz2⟩, hr2⟩ := zst1 hr
  obtain rfl := zst0 hr2
  dsimp only at lz2
  dsimp only [List.cons_append, List.nil_append]
  refine lv_pop hx hb dL_law_656 rfl ?_
  refine lv_goto (tgt := 2131) hx hb dL_law_657 (by decide) ?_
  exact hT ls _ _ _ hl ⟨hI, hq⟩
