theorem law_48 {p : Program} {l : Launch} {e : Env} {s : State} {m : MethodId} {below : List Frame} {meth : Method} {c : Code} {Q : State → Prop} {D : va_G} {cI cZ cB cJ cR : ClassId} {ks ad : List Nat} {b L h g : Nat} {xs : Nat → Int32} (hZ : zLaw p l s m c D cI cZ cB cJ cR ks ad b L h g xs) (hm : zMan l D cI cZ cB cJ cR ks ad (zPsi ks ad)) {x : Int32} (hx0 : 0 ≤ x.toInt) (hx1 : x.toInt + 6 ≤ (L : Int)) (hT : ∀ (ls : Array Slot) (w : va_W) (H : Heap) (locs : List Loc), lv_has ls 4 [(0, .ref b), (1, .ref h), (2, .ref g), (3, .int x)] → zINV D cI cZ cB cJ cR ks ad s w H locs → W p l e room_1 s m #[Value.ref b] below meth c H locs 98 7042 Q (F0 m 2131 ls [])) {ls : Array Slot} {w : va_W} {H : Heap} {locs : List Loc} (hl : lv_has ls 4 [(0, .ref b), (1, .ref h), (2, .ref g), (3, .int x)]) (hI : zINV D cI cZ cB cJ cR ks ad s w H locs) : W p l e room_1 s m #[Value.ref b] below meth c H locs 98 7042 Q (F0 m 1438 ls []) := by
  obtain ⟨X, hX, hbl, hL, hw, ⟨i5, hk5⟩, ⟨i6, hk6⟩⟩ := hZ
  have hx := X.1.1
  have hb := X.1.2.1
  have hbA : ¬ lwA s b := Nat.not_le.mpr hbl
  obtain ⟨hI, hq⟩ := hI
  refine lv_aload_n hx hb dL_law_1438 rfl (lv_at hl 1 rfl) ?_
  refine lv_aload_n hx hb dL_law_1439 rfl (lv_at hl 0 rfl) ?_
  refine lv_iload_n hx hb dL_law_1440 rfl (lv_at hl 3 rfl) ?_
  refine lv_iconst (v := 1) hx hb dL_law_1441 (by decide) ?_
  refine lv_iadd hx hb dL_law_1442 ?_
  refine lv_topi (fun y1 hy1 => ?_)
  have ey1 : y1.toInt = x.toInt + 1 := by rw [hy1, addI _ _ (by simp only [Int32.reduceToInt]; omega)]; rfl
  refine va_sld hx hb hX hbl hbA hI.2.2.1 (vp_in_iff.mpr ⟨by omega, by omega⟩) dL_law_1443 ?_
  refine lv_topi (fun a2 ha2 => ?_)
  refine zlcall (con := zc_756) (zq_RL_210 X (zM_756 hw hm) (by decide) rfl rfl) rfl hI (As := [.ref h, .int a2]) (rest := []) ⟨⟨_, _, rfl, hk5.1, hk5.2⟩, ⟨_, rfl, bT _⟩, trivial⟩ (Nat.le_of_ble_eq_true rfl) hl.1 dL_law_1444 (fun H locs w r hI hr hk hp => ?_)
  have hq := zrel_keep hk (by decide +kernel) hq
  have hr : zF2 (zok ks ad) [(0, (-2147483648), (2147483647))] r := hr
  obtain ⟨_, _, rfl, ⟨z3, rfl, lz3⟩, hr2⟩ := zst1 hr
  obtain rfl := zst0 hr2
  dsimp only at lz3
  dsimp only [List.cons_append, List.nil_append]
  refine lv_pop hx hb dL_law_1447 rfl ?_
  refine lv_aload_n hx hb dL_law_1448 rfl (lv_at hl 2 rfl) ?_
  refine lv_aload_n hx hb dL_law_1449 rfl (lv_at hl 0 rfl) ?_
  refine lv_iload_n hx hb dL_law_1450 rfl (lv_at hl 3 rfl) ?_
  refine lv_iconst (v := 1) hx hb dL_law_1451 (by decide) ?_
  refine lv_iadd hx hb dL_law_1452 ?_
  refine lv_topi (fun y4 hy4 => ?_)
  have ey4 : y4.toInt = x.toInt + 1 := by rw [hy4, addI _ _ (by simp only [Int32.reduceToInt]; omega)]; rfl
  refine va_sld hx hb hX hbl hbA hI.2.2.1 (vp_in_iff.mpr ⟨by omega, by omega⟩) dL_law_1453 ?_
  refine lv_topi (fun a5 ha5 => ?_)
  refine zlcall (con := zc_1029) (zq_RL_213 X (zM_1029 hw hm) (by decide) rfl rfl) rfl hI (As := [.ref g, .int a5]) (rest := []) ⟨⟨_, _, rfl, hk6.1, hk6.2⟩, ⟨_, rfl, bT _⟩, trivial⟩ (Nat.le_of_ble_eq_true rfl) hl.1 dL_law_1454 (fun H locs w r hI hr hk hp => ?_)
  have hq := zrel_keep hk (by decide +kernel) hq
  have hr : zF2 (zok ks ad) [(0, (-2147483648), (2147483647))] r := hr
  obtain ⟨_, _, rfl, ⟨z6, rfl, lz6⟩, hr2⟩ := zst1 hr
  obtain rfl := zst0 hr2
  dsimp only at lz6
  dsimp only [List.cons_append, List.nil_append]
  refine lv_pop hx hb dL_law_1457 rfl ?_
  refine lv_goto (tgt := 2131) hx hb dL_law_1458 (by decide) ?_
  exact hT ls _ _ _ hl ⟨hI, hq⟩
theorem law_49 {p : Program} {l : Launch} {e : Env} {s : State} {m : MethodId} {below : List Frame} {meth : Method} {c : Code} {Q : State → Prop} {D : va_G} {cI cZ cB cJ cR : ClassId} {ks ad : List Nat} {b L h g : Nat} {xs : Nat → Int32} (hZ : zLaw p l s m c D cI cZ cB cJ cR ks ad b L h g xs) (hm : zMan l D cI cZ cB cJ cR ks ad (zPsi ks ad)) {x : Int32} (hx0 : 0 ≤ x.toInt) (hx1 : x.toInt + 6 ≤ (L : Int)) (hT : ∀ (ls : Array Slot) (w : va_W) (H : Heap) (locs : List Loc), lv_has ls 4 [(0, .ref b), (1, .ref h), (2, .ref g), (3, .int x)] → zINV D cI cZ cB cJ cR ks ad s w H locs → W p l e room_1 s m #[Value.ref b] below meth c H locs 98 7042 Q (F0 m 2131 ls [])) {ls : Array Slot} {w : va_W} {H : Heap} {locs : List Loc} (hl : lv_has ls 4 [(0, .ref b), (1, .ref h), (2, .ref g), (3, .int x)]) (hI : zINV D cI cZ cB cJ cR ks ad s w H locs) : W p l e room_1 s m #[Value.ref b] below meth c H locs 98 7042 Q (F0 m 1461 ls []) := by
  obtain ⟨X, hX, hbl, hL, hw, ⟨i5, hk5⟩, ⟨i6, hk6⟩⟩ := hZ
  have hx := X.1.1
  have hb := X.1.2.1
  have hbA : ¬ lwA s b := Nat.not_le.mpr hbl
  obtain ⟨hI, hq⟩ := hI
  refine lv_aload_n hx hb dL_law_1461 rfl (lv_at hl 1 rfl) ?_
  refine lv_aload_n hx hb dL_law_1462 rfl (lv_at hl 0 rfl) ?_
  refine lv_iload_n hx hb dL_law_1463 rfl (lv_at hl 3 rfl) ?_
  refine lv_iconst (v := 1) hx hb dL_law_1464 (by decide) ?_
  refine lv_iadd hx hb dL_law_1465 ?_
  refine lv_topi (fun y1 hy1 => ?_)
  have ey1 : y1.toInt = x.toInt + 1 := by rw [hy1, addI _ _ (by simp only [Int32.reduceToInt]; omega)]; rfl
  refine va_sld hx hb hX hbl hbA hI.2.2.1 (vp_in_iff.mpr ⟨by omega, by omega⟩) dL_law_1466 ?_
  refine lv_topi (fun a2 ha2 => ?_)
  refine lv_aload_n hx hb dL_law_1467 rfl (lv_at hl 0 rfl) ?_
  refine lv_iload_n hx hb dL_law_1468 rfl (lv_at hl 3 rfl) ?_
  refine lv_iconst (v := 2) hx hb dL_law_1469 (by decide) ?_
  refine lv_iadd hx hb dL_law_1470 ?_
  refine lv_topi (fun y3 hy3 => ?_)
  have ey3 : y3.toInt = x.toInt + 2 := by rw [hy3, addI _ _ (by simp only [Int32.reduceToInt]; omega)]; rfl
  refine va_sld hx hb hX hbl hbA hI.2.2.1 (vp_in_iff.mpr ⟨by omega, by omega⟩) dL_law_1471 ?_
  refine lv_topi (fun a4 ha4 => ?_)
  refine zlcall (con := zc_646) (zq_RL_214 X (zM_646 hw hm) (by decide) rfl rfl) rfl hI (As := [.ref h, .int a2, .int a4]) (rest := []) ⟨⟨_, _, rfl, hk5.1, hk5.2⟩, ⟨_, rfl, bT _⟩, ⟨_, rfl, bT _⟩, trivial⟩ (Nat.le_of_ble_eq_true rfl) hl.1 dL_law_1472 (fun H locs w r hI hr hk hp => ?_)
  have hq := zrel_keep hk (by decide +kernel) hq
  have hr : zF2 (zok ks ad) [(0, (-6), (63))] r := hr
  obtain ⟨_, _, rfl, ⟨z5, rfl, lz5⟩, hr2⟩ := zst1 hr
  obtain rfl := zst0 hr2
  dsimp only at lz5
  dsimp only [List.cons_append, List.nil_append]
  refine lv_pop hx hb dL_law_1475 rfl ?_
  refine lv_aload_n hx hb dL_law_1476 rfl (lv_at hl 2 rfl) ?_
  refine lv_aload_n hx hb dL_law_1477 rfl (lv_at hl 0 rfl) ?_
  refine lv_iload_n hx hb dL_law_1478 rfl (lv_at hl 3 rfl) ?_
  refine lv_iconst (v := 1) hx hb dL_law_1479 (by decide) ?_
  refine lv_iadd hx hb dL_law_1480 ?_
  refine lv_topi (fun y6 hy6 => ?_)
  have ey6 : y6.toInt = x.toInt + 1 := by rw [hy6, addI _ _ (by simp only [Int32.reduceToInt]; omega)]; rfl
  refine va_sld hx hb hX hbl hbA hI.2.2.1 (vp_in_iff.mpr ⟨by omega, by omega⟩) dL_law_1481 ?_
  refine lv_topi (fun a7 ha7 => ?_)
  refine lv_aload_n hx hb dL_law_1482 rfl (lv_at hl 0 rfl) ?_
  refine lv_iload_n hx hb dL_law_1483 rfl (lv_at hl 3 rfl) ?_
  refine lv_iconst (v := 2) hx hb dL_law_1484 (by decide) ?_
  refine lv_iadd hx hb dL_law_1485 ?_
  refine lv_topi (fun y8 hy8 => ?_)
  have ey8 : y8.toInt = x.toInt + 2 := by rw [hy8, addI _ _ (by simp only [Int32.reduceToInt]; omega)]; rfl
  refine va_sld hx hb hX hbl hbA hI.2.2.1 (vp_in_iff.mpr ⟨by omega, by omega⟩) dL_law_1486 ?_
  refine lv_topi (fun a9 ha9 => ?_)
  refine zlcall (con := zc_850) (zq_RL_217 X (zM_850 hw hm) (by decide) rfl rfl) rfl hI (As := [.ref g, .int a7, .int a9]) (rest := []) ⟨⟨_, _, rfl, hk6.1, hk6.2⟩, ⟨_, rfl, bT _⟩, ⟨_, rfl, bT _⟩, trivial⟩ (Nat.le_of_ble_eq_true rfl) hl.1 dL_law_1487 (fun H locs w r hI hr hk hp => ?_)
  have hq := zrel_keep hk (by decide +kernel) hq
  have hr : zF2 (zok ks ad) [(0, (-2147483648), (2147483647))] r := hr
  obtain ⟨_, _, rfl, ⟨z10, rfl, lz10⟩, hr2⟩ := zst1 hr
  obtain rfl := zst0 hr2
  dsimp only at lz10
  dsimp only [List.cons_append, List.nil_append]
  refine lv_pop hx hb dL_law_1490 rfl ?_
  refine lv_goto (tgt := 2131) hx hb dL_law_1491 (by decide) ?_
  exact hT ls _ _ _ hl ⟨hI, hq⟩
theorem law_50 {p : Program} {l : Launch} {e : Env} {s : State} {m : MethodId} {below : List Frame} {meth : Method} {c : Code} {Q : State → Prop} {D : va_G} {cI cZ cB cJ cR : ClassId} {ks ad : List Nat} {b L h g : Nat} {xs : Nat → Int32} (hZ : zLaw p l s m c D cI cZ cB cJ cR ks ad b L h g xs) (hm : zMan l D cI cZ cB cJ cR ks ad (zPsi ks ad)) {x : Int32} (hx0 : 0 ≤ x.toInt) (hx1 : x.toInt + 6 ≤ (L : Int)) (hT : ∀ (ls : Array Slot) (w : va_W) (H : Heap) (locs : List Loc), lv_has ls 4 [(0, .ref b), (1, .ref h), (2, .ref g), (3, .int x)] → zINV D cI cZ cB cJ cR ks ad s w H locs → W p l e room_1 s m #[Value.ref b] below meth c H locs 98 7042 Q (F0 m 2131 ls [])) {ls : Array Slot} {w : va_W} {H : Heap} {locs : List Loc} (hl : lv_has ls 4 [(0, .ref b), (1, .ref h), (2, .ref g), (3, .int x)]) (hI : zINV D cI cZ cB cJ cR ks ad s w H locs) : W p l e room_1 s m #[Value.ref b] below meth c H locs 98 7042 Q (F0 m 1494 ls []) := by
  obtain ⟨X, hX, hbl, hL, hw, ⟨i5, hk5⟩, ⟨i6, hk6⟩⟩ := hZ
  have hx := X.1.1
  have hb := X.1.2.1
  have hbA : ¬ lwA s b := Nat.not_le.mpr hbl
  obtain ⟨hI, hq⟩ := hI
  refine lv_aload_n hx hb dL_law_1494 rfl (lv_at hl 1 rfl) ?_
  refine lv_aload_n hx hb dL_law_1495 rfl (lv_at hl 0 rfl) ?_
  refine lv_iload_n hx hb dL_law_1496 rfl (lv_at hl 3 rfl) ?_
  refine lv_iconst (v := 1) hx hb dL_law_1497 (by decide) ?_
  refine lv_iadd hx hb dL_law_1498 ?_
  refine lv_topi (fun y1 hy1 => ?_)
  have ey1 : y1.toInt = x.toInt + 1 := by rw [hy1, addI _ _ (by simp only [Int32.reduceToInt]; omega)]; rfl
  refine va_sld hx hb hX hbl hbA hI.2.2.1 (vp_in_iff.mpr ⟨by omega, by omega⟩) dL_law_1499 ?_
  refine lv_topi (fun a2 ha2 => ?_)
  refine zlcall (con := zc_823) (zq_RL_218 X (zM_823 hw hm) (by decide) rfl rfl) rfl hI (As := [.ref h, .int a2]) (rest := []) ⟨⟨_, _, rfl, hk5.1, hk5.2⟩, ⟨_, rfl, bT _⟩, trivial⟩ (Nat.le_of_ble_eq_true rfl) hl.1 dL_law_1500 (fun H locs w r hI hr hk hp => ?_)
  have hq := zrel_keep hk (by decide +kernel) hq
  have hr : zF2 (zok ks ad) [(0, (-2147483648), (2147483647))] r := hr
  obtain ⟨_, _, rfl, ⟨z3, rfl, lz3⟩, hr2⟩ := zst1 hr
  obtain rfl := zst0 hr2
  dsimp only at lz3
  dsimp only [List.cons_append, List.nil_append]
  refine lv_pop hx hb dL_law_1503 rfl ?_
  refine lv_aload_n hx hb dL_law_1504 rfl (lv_at hl 2 rfl) ?_
  refine lv_aload_n hx hb dL_law_1505 rfl (lv_at hl 0 rfl) ?_
  refine lv_iload_n hx hb dL_law_1506 rfl (lv_at hl 3 rfl) ?_
  refine lv_iconst (v := 1) hx hb dL_law_1507 (by decide) ?_
  refine lv_iadd hx hb dL_law_1508 ?_
  refine lv_topi (fun y4 hy4 => ?_)
  have ey4 : y4.toInt = x.toInt + 1 := by rw [hy4, addI _ _ (by simp only [Int32.reduceToInt]; omega)]; rfl
  refine va_sld hx hb hX hbl hbA hI.2.2.1 (vp_in_iff.mpr ⟨by omega, by omega⟩) dL_law_1509 ?_
  refine lv_topi (fun a5 ha5 => ?_)
  refine zlcall (con := zc_1188) (zq_RL_221 X (zM_1188 hw hm) (by decide) rfl rfl) rfl hI (As := [.ref g, .int a5]) (rest := []) ⟨⟨_, _, rfl, hk6.1, hk6.2⟩, ⟨_, rfl, bT _⟩, trivial⟩ (Nat.le_of_ble_eq_true rfl) hl.1 dL_law_1510 (fun H locs w r hI hr hk hp => ?_)
  have hq := zrel_keep hk (by decide +kernel) hq
  have hr : zF2 (zok ks ad) [(0, (-2147483648), (2147483647))] r := hr
  obtain ⟨_, _, rfl, ⟨z6, rfl, lz6⟩, hr2⟩ := zst1 hr
  obtain rfl := zst0 hr2
  dsimp only at lz6
  dsimp only [List.cons_append, List.nil_append]
  refine lv_pop hx hb dL_law_1513 rfl ?_
  refine lv_goto (tgt := 2131) hx hb dL_law_1514 (by decide) ?_
  exact hT ls _ _ _ hl ⟨hI, hq⟩
theorem law_51 {p : Program} {l : Launch} {e : Env} {s : State} {m : MethodId} {below : List Frame} {meth : Method} {c : Code} {Q : State → Prop} {D : va_G} {cI cZ cB cJ cR : ClassId} {ks ad : List Nat} {b L h g : Nat} {xs : Nat → Int32} (hZ : zLaw p l s m c D cI cZ cB cJ cR ks ad b L h g xs) (hm : zMan l D cI cZ cB cJ cR ks ad (zPsi ks ad)) {x : Int32} (hx0 : 0 ≤ x.toInt) (hx1 : x.toInt + 6 ≤ (L : Int)) (hT : ∀ (ls : Array Slot) (w : va_W) (H : Heap) (locs : List Loc), lv_has ls 4 [(0, .ref b), (1, .ref h), (2, .ref g), (3, .int x)] → zINV D cI cZ cB cJ cR ks ad s w H locs → W p l e room_1 s m #[Value.ref b] below meth c H locs 98 7042 Q (F0 m 2131 ls [])) {ls : Array Slot} {w : va_W} {H : Heap} {locs : List Loc} (hl : lv_has ls 4 [(0, .ref b), (1, .ref h), (2, .ref g), (3, .int x)]) (hI : zINV D cI cZ cB cJ cR ks ad s w H locs) : W p l e room_1 s m #[Value.ref b] below meth c H locs 98 7042 Q (F0 m 1517 ls []) := by
  obtain ⟨X, hX, hbl, hL, hw, ⟨i5, hk5⟩, ⟨i6, hk6⟩⟩ := hZ
  have hx := X.1.1
  have hb := X.1.2.1
  have hbA : ¬ lwA s b := Nat.not_le.mpr hbl
  obtain ⟨hI, hq⟩ := hI
  refine lv_aload_n hx hb dL_law_1517 rfl (lv_at hl 1 rfl) ?_
  refine lv_aload_n hx hb dL_law_1518 rfl (lv_at hl 0 rfl) ?_
  refine lv_iload_n hx hb dL_law_1519 rfl (lv_at hl 3 rfl) ?_
  refine lv_iconst (v := 1) hx hb dL_law_1520 (by decide) ?_
  refine lv_iadd hx hb dL_law_1521 ?_
  refine lv_topi (fun y1 hy1 => ?_)
  have ey1 : y1.toInt = x.toInt + 1 := by rw [hy1, addI _ _ (by simp only [Int32.reduceToInt]; omega)]; rfl
  refine va_sld hx hb hX hbl hbA hI.2.2.1 (vp_in_iff.mpr ⟨by omega, by omega⟩) dL_law_1522 ?_
  refine lv_topi (fun a2 ha2 => ?_)
  refine lv_aload_n hx hb dL_law_1523 rfl (lv_at hl 0 rfl) ?_
  refine lv_iload_n hx hb dL_law_1524 rfl (lv_at hl 3 rfl) ?_
  refine lv_iconst (v := 2) hx hb dL_law_1525 (by decide) ?_
  refine lv_iadd hx hb dL_law_1526 ?_
  refine lv_topi (fun y3 hy3 => ?_)
  have ey3 : y3.toInt = x.toInt + 2 := by rw [hy3, addI _ _ (by simp only [Int32.reduceToInt]; omega)]; rfl
  refine va_sld hx hb hX hbl hbA hI.2.2.1 (vp_in_iff.mpr ⟨by omega, by omega⟩) dL_law_1527 ?_
  refine lv_topi (fun a4 ha4 => ?_)
  refine zlcall (con := zc_822) (zq_RL_222 X (zM_822 hw hm) (by decide) rfl rfl) rfl hI (As := [.ref h, .int a2, .int a4]) (rest := []) ⟨⟨_, _, rfl, hk5.1, hk5.2⟩, ⟨_, rfl, bT _⟩, ⟨_, rfl, bT _⟩, trivial⟩ (Nat.le_of_ble_eq_true rfl) hl.1 dL_law_1528 (fun H locs w r hI hr hk hp => ?_)
  have hq := zrel_keep hk (by decide +kernel) hq
  have hr : zF2 (zok ks ad) [(0, (-6), (6))] r := hr
  obtain ⟨_, _, rfl, ⟨z5, rfl, lz5⟩, hr2⟩ := zst1 hr
  obtain rfl := zst0 hr2
  dsimp only at lz5
  dsimp only [List.cons_append, List.nil_append]
  refine lv_pop hx hb dL_law_1531 rfl ?_
  refine lv_aload_n hx hb dL_law_1532 rfl (lv_at hl 2 rfl) ?_
  refine lv_aload_n hx hb dL_law_1533 rfl (lv_at hl 0 rfl) ?_
  refine lv_iload_n hx hb dL_law_1534 rfl (lv_at hl 3 rfl) ?_
  refine lv_iconst (v := 1) hx hb dL_law_1535 (by decide) ?_
  refine lv_iadd hx hb dL_law_1536 ?_
  refine lv_topi (fun y6 hy6 => ?_)
  have ey6 : y6.toInt = x.toInt + 1 := by rw [hy6, addI _ _ (by simp only [Int32.reduceToInt]; omega)]; rfl
  refine va_sld hx hb hX hbl hbA hI.2.2.1 (vp_in_iff.mpr ⟨by omega, by omega⟩) dL_law_1537 ?_
  refine lv_topi (fun a7 ha7 => ?_)
  refine lv_aload_n hx hb dL_law_1538 rfl (lv_at hl 0 rfl) ?_
  refine lv_iload_n hx hb dL_law_1539 rfl (lv_at hl 3 rfl) ?_
  refine lv_iconst (v := 2) hx hb dL_law_1540 (by decide) ?_
  refine lv_iadd hx hb dL_law_1541 ?_
  refine lv_topi (fun y8 hy8 => ?_)
  have ey8 : y8.toInt = x.toInt + 2 := by rw [hy8, addI _ _ (by simp only [Int32.reduceToInt]; omega)]; rfl
  refine va_sld hx hb hX hbl hbA hI.2.2.1 (vp_in_iff.mpr ⟨by omega, by omega⟩) dL_law_1542 ?_
  refine lv_topi (fun a9 ha9 => ?_)
  refine zlcall (con := zc_1187) (zq_RL_225 X (zM_1187 hw hm) (by decide) rfl rfl) rfl hI (As := [.ref g, .int a7, .int a9]) (rest := []) ⟨⟨_, _, rfl, hk6.1, hk6.2⟩, ⟨_, rfl, bT _⟩, ⟨_, rfl, bT _⟩, trivial⟩ (Nat.le_of_ble_eq_true rfl) hl.1 dL_law_1543 (fun H locs w r hI hr hk hp => ?_)
  have hq := zrel_keep hk (by decide +kernel) hq
  have hr : zF2 (zok ks ad) [(0, (-6), (6))] r := hr
  obtain ⟨_, _, rfl, ⟨z10, rfl, lz10⟩, hr2⟩ := zst1 hr
  obtain rfl := zst0 hr2
  dsimp only at lz10
  dsimp only [List.cons_append, List.nil_append]
  refine lv_pop hx hb dL_law_1546 rfl ?_
  refine lv_goto (tgt := 2131) hx hb dL_law_1547 (by decide) ?_
  exact hT ls _ _ _ hl ⟨hI, hq⟩
theorem law_52 {p : Program} {l : Launch} {e : Env} {s : State} {m : MethodId} {below : List Frame} {meth : Method} {c : Code} {Q : State → Prop} {D : va_G} {cI cZ cB cJ cR : ClassId} {ks ad : List Nat} {b L h g : Nat} {xs : Nat → Int32} (hZ : zLaw p l s m c D cI cZ cB cJ cR ks ad b L h g xs) (hm : zMan l D cI cZ cB cJ cR ks ad (zPsi ks ad)) {x : Int32} (hx0 : 0 ≤ x.toInt) (hx1 : x.toInt + 6 ≤ (L : Int)) (hT : ∀ (ls : Array Slot) (w : va_W) (H : Heap) (locs : List Loc), lv_has ls 4 [(0, .ref b), (1, .ref h), (2, .ref g), (3, .int x)] → zINV D cI cZ cB cJ cR ks ad s w H locs → W p l e room_1 s m #[Value.ref b] below meth c H locs 98 7042 Q (F0 m 2131 ls [])) {ls : Array Slot} {w : va_W} {H : Heap} {locs : List Loc} (hl : lv_has ls 4 [(0, .ref b), (1, .ref h), (2, .ref g), (3, .int x)]) (hI : zINV D cI cZ cB cJ cR ks ad s w H locs) : W p l e room_1 s m #[Value.ref b] below meth c H locs 98 7042 Q (F0 m 1550 ls []) := by
  obtain ⟨X, hX, hbl, hL, hw, ⟨i5, hk5⟩, ⟨i6, hk6⟩⟩ := hZ
  have hx := X.1.1
  have hb := X.1.2.1
  have hbA : ¬ lwA s b := Nat.not_le.mpr hbl
  obtain ⟨hI, hq⟩ := hI
  refine lv_aload_n hx hb dL_law_1550 rfl (lv_at hl 1 rfl) ?_
  refine lv_aload_n hx hb dL_law_1551 rfl (lv_at hl 0 rfl) ?_
  refine lv_iload_n hx hb dL_law_1552 rfl (lv_at hl 3 rfl) ?_
  refine lv_iconst (v := 1) hx hb dL_law_1553 (by decide) ?_
  refine lv_iadd hx hb dL_law_1554 ?_
  refine lv_topi (fun y1 hy1 => ?_)
  have ey1 : y1.toInt = x.toInt + 1 := by rw [hy1, addI _ _ (by simp only [Int32.reduceToInt]; omega)]; rfl
  refine va_sld hx hb hX hbl hbA hI.2.2.1 (vp_in_iff.mpr ⟨by omega, by omega⟩) dL_law_1555 ?_
  refine lv_topi (fun a2 ha2 => ?_)
  refine lv_aload_n hx hb dL_law_1556 rfl (lv_at hl 0 rfl) ?_
  refine lv_iload_n hx hb dL_law_1557 rfl (lv_at hl 3 rfl) ?_
  refine lv_iconst (v := 2) hx hb dL_law_1558 (by decide) ?_
  refine lv_iadd hx hb dL_law_1559 ?_
  refine lv_topi (fun y3 hy3 => ?_)
  have ey3 : y3.toInt = x.toInt + 2 := by rw [hy3, addI _ _ (by simp only [Int32.reduceToInt]; omega)]; rfl
  refine va_sld hx hb hX hbl hbA hI.2.2.1 (vp_in_iff.mpr ⟨by omega, by omega⟩) dL_law_1560 ?_
  refine lv_topi (fun a4 ha4 => ?_)
  refine zlcall (con := zc_804) (zq_RL_226 X (zM_804 hw hm) (by decide) rfl rfl) rfl hI (As := [.ref h, .int a2, .int a4]) (rest := []) ⟨⟨_, _, rfl, hk5.1, hk5.2⟩, ⟨_, rfl, bT _⟩, ⟨_, rfl, bT _⟩, trivial⟩ (Nat.le_of_ble_eq_true rfl) hl.1 dL_law_1561 (fun H locs w r hI hr hk hp => ?_)
  have hq := zrel_keep hk (by decide +kernel) hq
  have hr : zF2 (zok ks ad) [(0, (-6), (6))] r := hr
  obtain ⟨_, _, rfl, ⟨z5, rfl, lz5⟩, hr2⟩ := zst1 hr
  obtain rfl := zst0 hr2
  dsimp only at lz5
  dsimp only [List.cons_append, List.nil_append]
  refine lv_pop hx hb dL_law_1564 rfl ?_
  refine lv_aload_n hx hb dL_law_1565 rfl (lv_at hl 2 rfl) ?_
  refine lv_aload_n hx hb dL_law_1566 rfl (lv_at hl 0 rfl) ?_
  refine lv_iload_n hx hb dL_law_1567 rfl (lv_at hl 3 rfl) ?_
  refine lv_iconst (v := 1) hx hb dL_law_1568 (by decide) ?_
  refine lv_iadd hx hb dL_law_1569 ?_
  refine lv_topi (fun y6 hy6 => ?_)
  have ey6 : y6.toInt = x.toInt + 1 := by rw [hy6, addI _ _ (by simp only [Int32.reduceToInt]; omega)]; rfl
  refine va_sld hx hb hX hbl hbA hI.2.2.1 (vp_in_iff.mpr ⟨by omega, by omega⟩) dL_law_1570 ?_
  refine lv_topi (fun a7 ha7 => ?_)
  refine lv_aload_n hx hb dL_law_1571 rfl (lv_at hl 0 rfl) ?_
  refine lv_iload_n hx hb dL_law_1572 rfl (lv_at hl 3 rfl) ?_
  refine lv_iconst (v := 2) hx hb dL_law_1573 (by decide) ?_
  refine lv_iadd hx hb dL_law_1574 ?_
  refine lv_topi (fun y8 hy8 => ?_)
  have ey8 : y8.toInt = x.toInt + 2 := by rw [hy8, addI _ _ (by simp only [Int32.reduceToInt]; omega)]; rfl
  refine va_sld hx hb hX hbl hbA hI.2.2.1 (vp_in_iff.mpr ⟨by omega, by omega⟩) dL_law_1575 ?_
  refine lv_topi (fun a9 ha9 => ?_)
  refine zlcall (con := zc_1121) (zq_RL_229 X (zM_1121 hw hm) (by decide) rfl rfl) rfl hI (As := [.ref g, .int a7, .int a9]) (rest := []) ⟨⟨_, _, rfl, hk6.1, hk6.2⟩, ⟨_, rfl, bT _⟩, ⟨_, rfl, bT _⟩, trivial⟩ (Nat.le_of_ble_eq_true rfl) hl.1 dL_law_1576 (fun H locs w r hI hr hk hp => ?_)
  have hq := zrel_keep hk (by decide +kernel) hq
  have hr : zF2 (zok ks ad) [(0, (-6), (6))] r := hr
  obtain ⟨_, _, rfl, ⟨z10, rfl, lz10⟩, hr2⟩ := zst1 hr
  obtain rfl := zst0 hr2
  dsimp only at lz10
  dsimp only [List.cons_append, List.nil_append]
  refine lv_pop hx hb dL_law_1579 rfl ?_
  refine lv_goto (tgt := 2131) hx hb dL_law_1580 (by decide) ?_
  exact hT ls _ _ _ hl ⟨hI, hq⟩
theorem law_53 {p : Program} {l : Launch} {e : Env} {s : State} {m : MethodId} {below : List Frame} {meth : Method} {c : Code} {Q : State → Prop} {D : va_G} {cI cZ cB cJ cR : ClassId} {ks ad : List Nat} {b L h g : Nat} {xs : Nat → Int32} (hZ : zLaw p l s m c D cI cZ cB cJ cR ks ad b L h g xs) (hm : zMan l D cI cZ cB cJ cR ks ad (zPsi ks ad)) {x : Int32} (hx0 : 0 ≤ x.toInt) (hx1 : x.toInt + 6 ≤ (L : Int)) (hT : ∀ (ls : Array Slot) (w : va_W) (H : Heap) (locs : List Loc), lv_has ls 4 [(0, .ref b), (1, .ref h), (2, .ref g), (3, .int x)] → zINV D cI cZ cB cJ cR ks ad s w H locs → W p l e room_1 s m #[Value.ref b] below meth c H locs 98 7042 Q (F0 m 2131 ls [])) {ls : Array Slot} {w : va_W} {H : Heap} {locs : List Loc} (hl : lv_has ls 4 [(0, .ref b), (1, .ref h), (2, .ref g), (3, .int x)]) (hI : zINV D cI cZ cB cJ cR ks ad s w H locs) : W p l e room_1 s m #[Value.ref b] below meth c H locs 98 7042 Q (F0 m 1583 ls []) := by
  obtain ⟨X, hX, hbl, hL, hw, ⟨i5, hk5⟩, ⟨i6, hk6⟩⟩ := hZ
  have hx := X.1.1
  have hb := X.1.2.1
  have hbA : ¬ lwA s b := Nat.not_le.mpr hbl
  obtain ⟨hI, hq⟩ := hI
  refine lv_aload_n hx hb dL_law_1583 rfl (lv_at hl 1 rfl) ?_
  refine lv_aload_n hx hb dL_law_1584 rfl (lv_at hl 0 rfl) ?_
  refine lv_iload_n hx hb dL_law_1585 rfl (lv_at hl 3 rfl) ?_
  refine lv_iconst (v := 1) hx hb dL_law_1586 (by decide) ?_
  refine lv_iadd hx hb dL_law_1587 ?_
  refine lv_topi (fun y1 hy1 => ?_)
  have ey1 : y1.toInt = x.toInt + 1 := by rw [hy1, addI _ _ (by simp only [Int32.reduceToInt]; omega)]; rfl
  refine va_sld hx hb hX hbl hbA hI.2.2.1 (vp_in_iff.mpr ⟨by omega, by omega⟩) dL_law_1588 ?_
  refine lv_topi (fun a2 ha2 => ?_)
  refine lv_aload_n hx hb dL_law_1589 rfl (lv_at hl 0 rfl) ?_
  refine lv_iload_n hx hb dL_law_1590 rfl (lv_at hl 3 rfl) ?_
  refine lv_iconst (v := 2) hx hb dL_law_1591 (by decide) ?_
  refine lv_iadd hx hb dL_law_1592 ?_
  refine lv_topi (fun y3 hy3 => ?_)
  have ey3 : y3.toInt = x.toInt + 2 := by rw [hy3, addI _ _ (by simp only [Int32.reduceToInt]; omega)]; rfl
  refine va_sld hx hb hX hbl hbA hI.2.2.1 (vp_in_iff.mpr ⟨by omega, by omega⟩) dL_law_1593 ?_
  refine lv_topi (fun a4 ha4 => ?_)
  refine zlcall (con := zc_753) (zq_RL_230 X (zM_753 hw hm) (by decide) rfl rfl) rfl hI (As := [.ref h, .int a2, .int a4]) (rest := []) ⟨⟨_, _, rfl, hk5.1, hk5.2⟩, ⟨_, rfl, bT _⟩, ⟨_, rfl, bT _⟩, trivial⟩ (Nat.le_of_ble_eq_true rfl) hl.1 dL_law_1594 (fun H locs w r hI hr hk hp => ?_)
  have hq := zrel_keep hk (by decide +kernel) hq
  have hr : zF2 (zok ks ad) [(0, (-2147483648), (2147483647))] r := hr
  obtain ⟨_, _, rfl, ⟨z5, rfl, lz5⟩, hr2⟩ := zst1 hr
  obtain rfl := zst0 hr2
  dsimp only at lz5
  dsimp only [List.cons_append, List.nil_append]
  refine lv_pop hx hb dL_law_1597 rfl ?_
  refine lv_aload_n hx hb dL_law_1598 rfl (lv_at hl 2 rfl) ?_
  refine lv_aload_n hx hb dL_law_1599 rfl (lv_at hl 0 rfl) ?_
  refine lv_iload_n hx hb dL_law_1600 rfl (lv_at hl 3 rfl) ?_
  refine lv_iconst (v := 1) hx hb dL_law_1601 (by decide) ?_
  refine lv_iadd hx hb dL_law_1602 ?_
  refine lv_topi (fun y6 hy6 => ?_)
  have ey6 : y6.toInt = x.toInt + 1 := by rw [hy6, addI _ _ (by simp only [Int32.reduceToInt]; omega)]; rfl
  refine va_sld hx hb hX hbl hbA hI.2.2.1 (vp_in_iff.mpr ⟨by omega, by omega⟩) dL_law_1603 ?_
  refine lv_topi (fun a7 ha7 => ?_)
  refine lv_aload_n hx hb dL_law_1604 rfl (lv_at hl 0 rfl) ?_
  refine lv_iload_n hx hb dL_law_1605 rfl (lv_at hl 3 rfl) ?_
  refine lv_iconst (v := 2) hx hb dL_law_1606 (by decide) ?_
  refine lv_iadd hx hb dL_law_1607 ?_
  refine lv_topi (fun y8 hy8 => ?_)
  have ey8 : y8.toInt = x.toInt + 2 := by rw [hy8, addI _ _ (by simp only [Int32.reduceToInt]; omega)]; rfl
  refine va_sld hx hb hX hbl hbA hI.2.2.1 (vp_in_iff.mpr ⟨by omega, by omega⟩) dL_law_1608 ?_
  refine lv_topi (fun a9 ha9 => ?_)
  refine zlcall (con := zc_1016) (zq_RL_233 X (zM_1016 hw hm) (by decide) rfl rfl) rfl hI (As := [.ref g, .int a7, .int a9]) (rest := []) ⟨⟨_, _, rfl, hk6.1, hk6.2⟩, ⟨_, rfl, bT _⟩, ⟨_, rfl, bT _⟩, trivial⟩ (Nat.le_of_ble_eq_true rfl) hl.1 dL_law_1609 (fun H locs w r hI hr hk hp => ?_)
  have hq := zrel_keep hk (by decide +kernel) hq
  have hr : zF2 (zok ks ad) [(0, (-2147483648), (2147483647))] r := hr
  obtain ⟨_, _, rfl, ⟨z10, rfl, lz10⟩, hr2⟩ := zst1 hr
  obtain rfl := zst0 hr2
  dsimp only at lz10
  dsimp only [List.cons_append, List.nil_append]
  refine lv_pop hx hb dL_law_1612 rfl ?_
  refine lv_goto (tgt := 2131) hx hb dL_law_1613 (by decide) ?_
  exact hT ls _ _ _ hl ⟨hI, hq⟩
theorem law_54 {p : Program} {l : Launch} {e : Env} {s : State} {m : MethodId} {below : List Frame} {meth : Method} {c : Code} {Q : State → Prop} {D : va_G} {cI cZ cB cJ cR : ClassId} {ks ad : List Nat} {b L h g : Nat} {xs : Nat → Int32} (hZ : zLaw p l s m c D cI cZ cB cJ cR ks ad b L h g xs) (hm : zMan l D cI cZ cB cJ cR ks ad (zPsi ks ad)) {x : Int32} (hx0 : 0 ≤ x.toInt) (hx1 : x.toInt + 6 ≤ (L : Int)) (hT : ∀ (ls : Array Slot) (w : va_W) (H : Heap) (locs : List Loc), lv_has ls 4 [(0, .ref b), (1, .ref h), (2, .ref g), (3, .int x)] → zINV D cI cZ cB cJ cR ks ad s w H locs → W p l e room_1 s m #[Value.ref b] below meth c H locs 98 7042 Q (F0 m 2131 ls [])) {ls : Array Slot} {w : va_W} {H : Heap} {locs : List Loc} (hl : lv_has ls 4 [(0, .ref b), (1, .ref h), (2, .ref g), (3, .int x)]) (hI : zINV D cI cZ cB cJ cR ks ad s w H locs) : W p l e room_1 s m #[Value.ref b] below meth c H locs 98 7042 Q (F0 m 1616 ls []) := by
  obtain ⟨X, hX, hbl, hL, hw, ⟨i5, hk5⟩, ⟨i6, hk6⟩⟩ := hZ
  have hx := X.1.1
  have hb := X.1.2.1
  have hbA : ¬ lwA s b := Nat.not_le.mpr hbl
  obtain ⟨hI, hq⟩ := hI
  refine lv_aload_n hx hb dL_law_1616 rfl (lv_at hl 1 rfl) ?_
  refine lv_aload_n hx hb dL_law_1617 rfl (lv_at hl 0 rfl) ?_
  refine lv_iload_n hx hb dL_law_1618 rfl (lv_at hl 3 rfl) ?_
  refine lv_iconst (v := 1) hx hb dL_law_1619 (by decide) ?_
  refine lv_iadd hx hb dL_law_1620 ?_
  refine lv_topi (fun y1 hy1 => ?_)
  have ey1 : y1.toInt = x.toInt + 1 := by rw [hy1, addI _ _ (by simp only [Int32.reduceToInt]; omega)]; rfl
  refine va_sld hx hb hX hbl hbA hI.2.2.1 (vp_in_iff.mpr ⟨by omega, by omega⟩) dL_law_1621 ?_
  refine lv_topi (fun a2 ha2 => ?_)
  refine lv_aload_n hx hb dL_law_1622 rfl (lv_at hl 0 rfl) ?_
  refine lv_iload_n hx hb dL_law_1623 rfl (lv_at hl 3 rfl) ?_
  refine lv_iconst (v := 2) hx hb dL_law_1624 (by decide) ?_
  refine lv_iadd hx hb dL_law_1625 ?_
  refine lv_topi (fun y3 hy3 => ?_)
  have ey3 : y3.toInt = x.toInt + 2 := by rw [hy3, addI _ _ (by simp only [Int32.reduceToInt]; omega)]; rfl
  refine va_sld hx hb hX hbl hbA hI.2.2.1 (vp_in_iff.mpr ⟨by omega, by omega⟩) dL_law_1626 ?_
  refine lv_topi (fun a4 ha4 => ?_)
  refine zlcall (con := zc_643) (zq_RL_234 X (zM_643 hw hm) (by decide) rfl rfl) rfl hI (As := [.ref h, .int a2, .int a4]) (rest := []) ⟨⟨_, _, rfl, hk5.1, hk5.2⟩, ⟨_, rfl, bT _⟩, ⟨_, rfl, bT _⟩, trivial⟩ (Nat.le_of_ble_eq_true rfl) hl.1 dL_law_1627 (fun H locs w r hI hr hk hp => ?_)
  have hq := zrel_keep hk (by decide +kernel) hq
  have hr : zF2 (zok ks ad) [(1, (-9223372036854775808), (9223372036854775807))] r := hr
  obtain ⟨_, _, rfl, ⟨z5, rfl, lz5⟩, hr2⟩ := zst1 hr
  obtain rfl := zst0 hr2
  dsimp only at lz5
  dsimp only [List.cons_append, List.nil_append]
  refine lv_pop2_2 hx hb dL_law_1630 rfl ?_
  refine lv_aload_n hx hb dL_law_1631 rfl (lv_at hl 2 rfl) ?_
  refine lv_aload_n hx hb dL_law_1632 rfl (lv_at hl 0 rfl) ?_
  refine lv_iload_n hx hb dL_law_1633 rfl (lv_at hl 3 rfl) ?_
  refine lv_iconst (v := 1) hx hb dL_law_1634 (by decide) ?_
  refine lv_iadd hx hb dL_law_1635 ?_
  refine lv_topi (fun y6 hy6 => ?_)
  have ey6 : y6.toInt = x.toInt + 1 := by rw [hy6, addI _ _ (by simp only [Int32.reduceToInt]; omega)]; rfl
  refine va_sld hx hb hX hbl hbA hI.2.2.1 (vp_in_iff.mpr ⟨by omega, by omega⟩) dL_law_1636 ?_
  refine lv_topi (fun a7 ha7 => ?_)
  refine lv_aload_n hx hb dL_law_1637 rfl (lv_at hl 0 rfl) ?_
  refine lv_iload_n hx hb dL_law_1638 rfl (lv_at hl 3 rfl) ?_
  refine lv_iconst (v := 2) hx hb dL_law_1639 (by decide) ?_
  refine lv_iadd hx hb dL_law_1640 ?_
  refine lv_topi (fun y8 hy8 => ?_)
  have ey8 : y8.toInt = x.toInt + 2 := by rw [hy8, addI _ _ (by simp only [Int32.reduceToInt]; omega)]; rfl
  refine va_sld hx hb hX hbl hbA hI.2.2.1 (vp_in_iff.mpr ⟨by omega, by omega⟩) dL_law_1641 ?_
  refine lv_topi (fun a9 ha9 => ?_)
  refine zlcall (con := zc_844) (zq_RL_238 X (zM_844 hw hm) (by decide) rfl rfl) rfl hI (As := [.ref g, .int a7, .int a9]) (rest := []) ⟨⟨_, _, rfl, hk6.1, hk6.2⟩, ⟨_, rfl, bT _⟩, ⟨_, rfl, bT _⟩, trivial⟩ (Nat.le_of_ble_eq_true rfl) hl.1 dL_law_1642 (fun H locs w r hI hr hk hp => ?_)
  have hq := zrel_keep hk (by decide +kernel) hq
  have hr : zF2 (zok ks ad) [(1, (-9223372036854775808), (9223372036854775807))] r := hr
  obtain ⟨_, _, rfl, ⟨z10, rfl, lz10⟩, hr2⟩ := zst1 hr
  obtain rfl := zst0 hr2
  dsimp only at lz10
  dsimp only [List.cons_append, List.nil_append]
  refine lv_pop2_2 hx hb dL_law_1645 rfl ?_
  refine lv_goto (tgt := 2131) hx hb dL_law_1646 (by decide) ?_
  exact hT ls _ _ _ hl ⟨hI, hq⟩
theorem law_55 {p : Program} {l : Launch} {e : Env} {s : State} {m : MethodId} {below : List Frame} {meth : Method} {c : Code} {Q : State → Prop} {D : va_G} {cI cZ cB cJ cR : ClassId} {ks ad : List Nat} {b L h g : Nat} {xs : Nat → Int32} (hZ : zLaw p l s m c D cI cZ cB cJ cR ks ad b L h g xs) (hm : zMan l D cI cZ cB cJ cR ks ad (zPsi ks ad)) {x : Int32} (hx0 : 0 ≤ x.toInt) (hx1 : x.toInt + 6 ≤ (L : Int)) (hT : ∀ (ls : Array Slot) (w : va_W) (H : Heap) (locs : List Loc), lv_has ls 4 [(0, .ref b), (1, .ref h), (2, .ref g), (3, .int x)] → zINV D cI cZ cB cJ cR ks ad s w H locs → W p l e room_1 s m #[Value.ref b] below meth c H locs 98 7042 Q (F0 m 2131 ls [])) {ls : Array Slot} {w : va_W} {H : Heap} {locs : List Loc} (hl : lv_has ls 4 [(0, .ref b), (1, .ref h), (2, .ref g), (3, .int x)]) (hI : zINV D cI cZ cB cJ cR ks ad s w H locs) : W p l e room_1 s m #[Value.ref b] below meth c H locs 98 7042 Q (F0 m 1649 ls []) := by
  obtain ⟨X, hX, hbl, hL, hw, ⟨i5, hk5⟩, ⟨i6, hk6⟩⟩ := hZ
  have hx := X.1.1
  have hb := X.1.2.1
  have hbA : ¬ lwA s b := Nat.not_le.mpr hbl
  obtain ⟨hI, hq⟩ := hI
  refine lv_aload_n hx hb dL_law_1649 rfl (lv_at hl 1 rfl) ?_
  refine lv_aload_n hx hb dL_law_1650 rfl (lv_at hl 0 rfl) ?_
  refine lv_iload_n hx hb dL_law_1651 rfl (lv_at hl 3 rfl) ?_
  refine lv_iconst (v := 1) hx hb dL_law_1652 (by decide) ?_
  refine lv_iadd hx hb dL_law_1653 ?_
  refine lv_topi (fun y1 hy1 => ?_)
  have ey1 : y1.toInt = x.toInt + 1 := by rw [hy1, addI _ _ (by simp only [Int32.reduceToInt]; omega)]; rfl
  refine va_sld hx hb hX hbl hbA hI.2.2.1 (vp_in_iff.mpr ⟨by omega, by omega⟩) dL_law_1654 ?_
  refine lv_topi (fun a2 ha2 => ?_)
  refine zlcall (con := zc_758) (zq_RL_239 X (zM_758 hw hm) (by decide) rfl rfl) rfl hI (As := [.ref h, .int a2]) (rest := []) ⟨⟨_, _, rfl, hk5.1, hk5.2⟩, ⟨_, rfl, bT _⟩, trivial⟩ (Nat.le_of_ble_eq_true rfl) hl.1 dL_law_1655 (fun H locs w r hI hr hk hp => ?_)
  have hq := zrel_keep hk (by decide +kernel) hq
  have hr : zF2 (zok ks ad) [(0, (-2), (11))] r := hr
  obtain ⟨_, _, rfl, ⟨z3, rfl, lz3⟩, hr2⟩ := zst1 hr
  obtain rfl := zst0 hr2
  dsimp only at lz3
  dsimp only [List.cons_append, List.nil_append]
  refine lv_pop hx hb dL_law_1658 rfl ?_
  refine lv_aload_n hx hb dL_law_1659 rfl (lv_at hl 2 rfl) ?_
  refine lv_aload_n hx hb dL_law_1660 rfl (lv_at hl 0 rfl) ?_
  refine lv_iload_n hx hb dL_law_1661 rfl (lv_at hl 3 rfl) ?_
  refine lv_iconst (v := 1) hx hb dL_law_1662 (by decide) ?_
  refine lv_iadd hx hb dL_law_1663 ?_
  refine lv_topi (fun y4 hy4 => ?_)
  have ey4 : y4.toInt = x.toInt + 1 := by rw [hy4, addI _ _ (by simp only [Int32.reduceToInt]; omega)]; rfl
  refine va_sld hx hb hX hbl hbA hI.2.2.1 (vp_in_iff.mpr ⟨by omega, by omega⟩) dL_law_1664 ?_
  refine lv_topi (fun a5 ha5 => ?_)
  refine zlcall (con := zc_1031) (zq_RL_242 X (zM_1031 hw hm) (by decide) rfl rfl) rfl hI (As := [.ref g, .int a5]) (rest := []) ⟨⟨_, _, rfl, hk6.1, hk6.2⟩, ⟨_, rfl, bT _⟩, trivial⟩ (Nat.le_of_ble_eq_true rfl) hl.1 dL_law_1665 (fun H locs w r hI hr hk hp => ?_)
  have hq := zrel_keep hk (by decide +kernel) hq
  have hr : zF2 (zok ks ad) [(0, (-2), (11))] r := hr
  obtain ⟨_, _, rfl, ⟨z6, rfl, lz6⟩, hr2⟩ := zst1 hr
  obtain rfl := zst0 hr2
  dsimp only at lz6
  dsimp only [List.cons_append, List.nil_append]
  refine lv_pop hx hb dL_law_1668 rfl ?_
  refine lv_goto (tgt := 2131) hx hb dL_law_1669 (by decide) ?_
  exact hT ls _ _ _ hl ⟨hI, hq⟩
theorem law_56 {p : Program} {l : Launch} {e : Env} {s : State} {m : MethodId} {below : List Frame} {meth : Method} {c : Code} {Q : State → Prop} {D : va_G} {cI cZ cB cJ cR : ClassId} {ks ad : List Nat} {b L h g : Nat} {xs : Nat → Int32} (hZ : zLaw p l s m c D cI cZ cB cJ cR ks ad b L h g xs) (hm : zMan l D cI cZ cB cJ cR ks ad (zPsi ks ad)) {x : Int32} (hx0 : 0 ≤ x.toInt) (hx1 : x.toInt + 6 ≤ (L : Int)) (hT : ∀ (ls : Array Slot) (w : va_W) (H : Heap) (locs : List Loc), lv_has ls 4 [(0, .ref b), (1, .ref h), (2, .ref g), (3, .int x)] → zINV D cI cZ cB cJ cR ks ad s w H locs → W p l e room_1 s m #[Value.ref b] below meth c H locs 98 7042 Q (F0 m 2131 ls [])) {ls : Array Slot} {w : va_W} {H : Heap} {locs : List Loc} (hl : lv_has ls 4 [(0, .ref b), (1, .ref h), (2, .ref g), (3, .int x)]) (hI : zINV D cI cZ cB cJ cR ks ad s w H locs) : W p l e room_1 s m #[Value.ref b] below meth c H locs 98 7042 Q (F0 m 1672 ls []) := by
  obtain ⟨X, hX, hbl, hL, hw, ⟨i5, hk5⟩, ⟨i6, hk6⟩⟩ := hZ
  have hx := X.1.1
  have hb := X.1.2.1
  have hbA : ¬ lwA s b := Nat.not_le.mpr hbl
  obtain ⟨hI, hq⟩ := hI
  refine lv_aload_n hx hb dL_law_1672 rfl (lv_at hl 1 rfl) ?_
  refine lv_aload_n hx hb dL_law_1673 rfl (lv_at hl 0 rfl) ?_
  refine lv_iload_n hx hb dL_law_1674 rfl (lv_at hl 3 rfl) ?_
  refine lv_iconst (v := 1) hx hb dL_law_1675 (by decide) ?_
  refine lv_iadd hx hb dL_law_1676 ?_
  refine lv_topi (fun y1 hy1 => ?_)
  have ey1 : y1.toInt = x.toInt + 1 := by rw [hy1, addI _ _ (by simp only [Int32.reduceToInt]; omega)]; rfl
  refine va_sld hx hb hX hbl hbA hI.2.2.1 (vp_in_iff.mpr ⟨by omega, by omega⟩) dL_law_1677 ?_
  refine lv_topi (fun a2 ha2 => ?_)
  refine lv_aload_n hx hb dL_law_1678 rfl (lv_at hl 0 rfl) ?_
  refine lv_iload_n hx hb dL_law_1679 rfl (lv_at hl 3 rfl) ?_
  refine lv_iconst (v := 2) hx hb dL_law_1680 (by decide) ?_
  refine lv_iadd hx hb dL_law_1681 ?_
  refine lv_topi (fun y3 hy3 => ?_)
  have ey3 : y3.toInt = x.toInt + 2 := by rw [hy3, addI _ _ (by simp only [Int32.reduceToInt]; omega)]; rfl
  refine va_sld hx hb hX hbl hbA hI.2.2.1 (vp_in_iff.mpr ⟨by omega, by omega⟩) dL_law_1682 ?_
  refine lv_topi (fun a4 ha4 => ?_)
  refine zlcall (con := zc_652) (zq_RL_243 X (zM_652 hw hm) (by decide) rfl rfl) rfl hI (As := [.ref h, .int a2, .int a4]) (rest := []) ⟨⟨_, _, rfl, hk5.1, hk5.2⟩, ⟨_, rfl, bT _⟩, ⟨_, rfl, bT _⟩, trivial⟩ (Nat.le_of_ble_eq_true rfl) hl.1 dL_law_1683 (fun H locs w r hI hr hk hp => ?_)
  have hq := zrel_keep hk (by decide +kernel) hq
  have hr : zF2 (zok ks ad) [(0, (-2147483648), (2147483647))] r := hr
  obtain ⟨_, _, rfl, ⟨z5, rfl, lz5⟩, hr2⟩ := zst1 hr
  obtain rfl := zst0 hr2
  dsimp only at lz5
  dsimp only [List.cons_append, List.nil_append]
  refine lv_pop hx hb dL_law_1686 rfl ?_
  refine lv_aload_n hx hb dL_law_1687 rfl (lv_at hl 2 rfl) ?_
  refine lv_aload_n hx hb dL_law_1688 rfl (lv_at hl 0 rfl) ?_
  refine lv_iload_n hx hb dL_law_1689 rfl (lv_at hl 3 rfl) ?_
  refine lv_iconst (v := 1) hx hb dL_law_1690 (by decide) ?_
  refine lv_iadd hx hb dL_law_1691 ?_
  refine lv_topi (fun y6 hy6 => ?_)
  have ey6 : y6.toInt = x.toInt + 1 := by rw [hy6, addI _ _ (by simp only [Int32.reduceToInt]; omega)]; rfl
  refine va_sld hx hb hX hbl hbA hI.2.2.1 (vp_in_iff.mpr ⟨by omega, by omega⟩) dL_law_1692 ?_
  refine lv_topi (fun a7 ha7 => ?_)
  refine lv_aload_n hx hb dL_law_1693 rfl (lv_at hl 0 rfl) ?_
  refine lv_iload_n hx hb dL_law_1694 rfl (lv_at hl 3 rfl) ?_
  refine lv_iconst (v := 2) hx hb dL_law_1695 (by decide) ?_
  refine lv_iadd hx hb dL_law_1696 ?_
  refine lv_topi (fun y8 hy8 => ?_)
  have ey8 : y8.toInt = x.toInt + 2 := by rw [hy8, addI _ _ (by simp only [Int32.reduceToInt]; omega)]; rfl
  refine va_sld hx hb hX hbl hbA hI.2.2.1 (vp_in_iff.mpr ⟨by omega, by omega⟩) dL_law_1697 ?_
  refine lv_topi (fun a9 ha9 => ?_)
  refine zlcall (con := zc_869) (zq_RL_246 X (zM_869 hw hm) (by decide) rfl rfl) rfl hI (As := [.ref g, .int a7, .int a9]) (rest := []) ⟨⟨_, _, rfl, hk6.1, hk6.2⟩, ⟨_, rfl, bT _⟩, ⟨_, rfl, bT _⟩, trivial⟩ (Nat.le_of_ble_eq_true rfl) hl.1 dL_law_1698 (fun H locs w r hI hr hk hp => ?_)
  have hq := zrel_keep hk (by decide +kernel) hq
  have hr : zF2 (zok ks ad) [(0, (-2147483648), (2147483647))] r := hr
  obtain ⟨_, _, rfl, ⟨z10, rfl, lz10⟩, hr2⟩ := zst1 hr
  obtain rfl := zst0 hr2
  dsimp only at lz10
  dsimp only [List.cons_append, List.nil_append]
  refine lv_pop hx hb dL_law_1701 rfl ?_
  refine lv_goto (tgt := 2131) hx hb dL_law_1702 (by decide) ?_
  exact hT ls _ _ _ hl ⟨hI, hq⟩
theorem law_57 {p : Program} {l : Launch} {e : Env} {s : State} {m : MethodId} {below : List Frame} {meth : Method} {c : Code} {Q : State → Prop} {D : va_G} {cI cZ cB cJ cR : ClassId} {ks ad : List Nat} {b L h g : Nat} {xs : Nat → Int32} (hZ : zLaw p l s m c D cI cZ cB cJ cR ks ad b L h g xs) (hm : zMan l D cI cZ cB cJ cR ks ad (zPsi ks ad)) {x : Int32} (hx0 : 0 ≤ x.toInt) (hx1 : x.toInt + 6 ≤ (L : Int)) (hT : ∀ (ls : Array Slot) (w : va_W) (H : Heap) (locs : List Loc), lv_has ls 4 [(0, .ref b), (1, .ref h), (2, .ref g), (3, .int x)] → zINV D cI cZ cB cJ cR ks ad s w H locs → W p l e room_1 s m #[Value.ref b] below meth c H locs 98 7042 Q (F0 m 2131 ls [])) {ls : Array Slot} {w : va_W} {H : Heap} {locs : List Loc} (hl : lv_has ls 4 [(0, .ref b), (1, .ref h), (2, .ref g), (3, .int x)]) (hI : zINV D cI cZ cB cJ cR ks ad s w H locs) : W p l e room_1 s m #[Value.ref b] below meth c H locs 98 7042 Q (F0 m 1705 ls []) := by
  obtain ⟨X, hX, hbl, hL, hw, ⟨i5, hk5⟩, ⟨i6, hk6⟩⟩ := hZ
  have hx := X.1.1
  have hb := X.1.2.1
  have hbA : ¬ lwA s b := Nat.not_le.mpr hbl
  obtain ⟨hI, hq⟩ := hI
  refine lv_aload_n hx hb dL_law_1705 rfl (lv_at hl 1 rfl) ?_
  refine lv_aload_n hx hb dL_law_1706 rfl (lv_at hl 0 rfl) ?_
  refine lv_iload_n hx hb dL_law_1707 rfl (lv_at hl 3 rfl) ?_
  refine lv_iconst (v := 1) hx hb dL_law_1708 (by decide) ?_
  refine lv_iadd hx hb dL_law_1709 ?_
  refine lv_topi (fun y1 hy1 => ?_)
  have ey1 : y1.toInt = x.toInt + 1 := by rw [hy1, addI _ _ (by simp only [Int32.reduceToInt]; omega)]; rfl
  refine va_sld hx hb hX hbl hbA hI.2.2.1 (vp_in_iff.mpr ⟨by omega, by omega⟩) dL_law_1710 ?_
  refine lv_topi (fun a2 ha2 => ?_)
  refine lv_aload_n hx hb dL_law_1711 rfl (lv_at hl 0 rfl) ?_
  refine lv_iload_n hx hb dL_law_1712 rfl (lv_at hl 3 rfl) ?_
  refine lv_iconst (v := 2) hx hb dL_law_1713 (by decide) ?_
  refine lv_iadd hx hb dL_law_1714 ?_
  refine lv_topi (fun y3 hy3 => ?_)
  have ey3 : y3.toInt = x.toInt + 2 := by rw [hy3, addI _ _ (by simp only [Int32.reduceToInt]; omega)]; rfl
  refine va_sld hx hb hX hbl hbA hI.2.2.1 (vp_in_iff.mpr ⟨by omega, by omega⟩) dL_law_1715 ?_
  refine lv_topi (fun a4 ha4 => ?_)
  refine lv_aload_n hx hb dL_law_1716 rfl (lv_at hl 0 rfl) ?_
  refine lv_iload_n hx hb dL_law_1717 rfl (lv_at hl 3 rfl) ?_
  refine lv_iconst (v := 3) hx hb dL_law_1718 (by decide) ?_
  refine lv_iadd hx hb dL_law_1719 ?_
  refine lv_topi (fun y5 hy5 => ?_)
  have ey5 : y5.toInt = x.toInt + 3 := by rw [hy5, addI _ _ (by simp only [Int32.reduceToInt]; omega)]; rfl
  refine va_sld hx hb hX hbl hbA hI.2.2.1 (vp_in_iff.mpr ⟨by omega, by omega⟩) dL_law_1720 ?_
  refine lv_topi (fun a6 ha6 => ?_)
  refine zlcall (con := zc_761) (zq_RL_247 X (zM_761 hw hm) (by decide) rfl rfl) rfl hI (As := [.ref h, .int a2, .int a4, .int a6]) (rest := []) ⟨⟨_, _, rfl, hk5.1, hk5.2⟩, ⟨_, rfl, bT _⟩, ⟨_, rfl, bT _⟩, ⟨_, rfl, bT _⟩, trivial⟩ (Nat.le_of_ble_eq_true rfl) hl.1 dL_law_1721 (fun H locs w r hI hr hk hp => ?_)
  have hq := zrel_keep hk (by decide +kernel) hq
  have hr : zF2 (zok ks ad) [(0, (-2147483648), (2147483647))] r := hr
  obtain ⟨_, _, rfl, ⟨z7, rfl, lz7⟩, hr2⟩ := zst1 hr
  obtain rfl := zst0 hr2
  dsimp only at lz7
  dsimp only [List.cons_append, List.nil_append]
  refine lv_pop hx hb dL_law_1724 rfl ?_
  refine lv_aload_n hx hb dL_law_1725 rfl (lv_at hl 2 rfl) ?_
  refine lv_aload_n hx hb dL_law_1726 rfl (lv_at hl 0 rfl) ?_
  refine lv_iload_n hx hb dL_law_1727 rfl (lv_at hl 3 rfl) ?_
  refine lv_iconst (v := 1) hx hb dL_law_1728 (by decide) ?_
  refine lv_iadd hx hb dL_law_1729 ?_
  refine lv_topi (fun y8 hy8 => ?_)
  have ey8 : y8.toInt = x.toInt + 1 := by rw [hy8, addI _ _ (by simp only [Int32.reduceToInt]; omega)]; rfl
  refine va_sld hx hb hX hbl hbA hI.2.2.1 (vp_in_iff.mpr ⟨by omega, by omega⟩) dL_law_1730 ?_
  refine lv_topi (fun a9 ha9 => ?_)
  refine lv_aload_n hx hb dL_law_1731 rfl (lv_at hl 0 rfl) ?_
  refine lv_iload_n hx hb dL_law_1732 rfl (lv_at hl 3 rfl) ?_
  refine lv_iconst (v := 2) hx hb dL_law_1733 (by decide) ?_
  refine lv_iadd hx hb dL_law_1734 ?_
  refine lv_topi (fun y10 hy10 => ?_)
  have ey10 : y10.toInt = x.toInt + 2 := by rw [hy10, addI _ _ (by simp only [Int32.reduceToInt]; omega)]; rfl
  refine va_sld hx hb hX hbl hbA hI.2.2.1 (vp_in_iff.mpr ⟨by omega, by omega⟩) dL_law_1735 ?_
  refine lv_topi (fun a11 ha11 => ?_)
  refine lv_aload_n hx hb dL_law_1736 rfl (lv_at hl 0 rfl) ?_
  refine lv_iload_n hx hb dL_law_1737 rfl (lv_at hl 3 rfl) ?_
  refine lv_iconst (v := 3) hx hb dL_law_1738 (by decide) ?_
  refine lv_iadd hx hb dL_law_1739 ?_
  refine lv_topi (fun y12 hy12 => ?_)
  have ey12 : y12.toInt = x.toInt + 3 := by rw [hy12, addI _ _ (by simp only [Int32.reduceToInt]; omega)]; rfl
  refine va_sld hx hb hX hbl hbA hI.2.2.1 (vp_in_iff.mpr ⟨by omega, by omega⟩) dL_law_1740 ?_
  refine lv_topi (fun a13 ha13 => ?_)
  refine zlcall (con := zc_1034) (zq_RL_250 X (zM_1034 hw hm) (by decide) rfl rfl) rfl hI (As := [.ref g, .int a9, .int a11, .int a13]) (rest := []) ⟨⟨_, _, rfl, hk6.1, hk6.2⟩, ⟨_, rfl, bT _⟩, ⟨_, rfl, bT _⟩, ⟨_, rfl, bT _⟩, trivial⟩ (Nat.le_of_ble_eq_true rfl) hl.1 dL_law_1741 (fun H locs w r hI hr hk hp => ?_)
  have hq := zrel_keep hk (by decide +kernel) hq
  have hr : zF2 (zok ks ad) [(0, (-2147483648), (2147483647))] r := hr
  obtain ⟨_, _, rfl, ⟨z14, rfl, lz14⟩, hr2⟩ := zst1 hr
  obtain rfl := zst0 hr2
  dsimp only at lz14
  dsimp only [List.cons_append, List.nil_append]
  refine lv_pop hx hb dL_law_1744 rfl ?_
  refine lv_goto (tgt := 2131) hx hb dL_law_1745 (by decide) ?_
  exact hT ls _ _ _ hl ⟨hI, hq⟩
theorem law_58 {p : Program} {l : Launch} {e : Env} {s : State} {m : MethodId} {below : List Frame} {meth : Method} {c : Code} {Q : State → Prop} {D : va_G} {cI cZ cB cJ cR : ClassId} {ks ad : List Nat} {b L h g : Nat} {xs : Nat → Int32} (hZ : zLaw p l s m c D cI cZ cB cJ cR ks ad b L h g xs) (hm : zMan l D cI cZ cB cJ cR ks ad (zPsi ks ad)) {x : Int32} (hx0 : 0 ≤ x.toInt) (hx1 : x.toInt + 6 ≤ (L : Int)) (hT : ∀ (ls : Array Slot) (w : va_W) (H : Heap) (locs : List Loc), lv_has ls 4 [(0, .ref b), (1, .ref h), (2, .ref g), (3, .int x)] → zINV D cI cZ cB cJ cR ks ad s w H locs → W p l e room_1 s m #[Value.ref b] below meth c H locs 98 7042 Q (F0 m 2131 ls [])) {ls : Array Slot} {w : va_W} {H : Heap} {locs : List Loc} (hl : lv_has ls 4 [(0, .ref b), (1, .ref h), (2, .ref g), (3, .int x)]) (hI : zINV D cI cZ cB cJ cR ks ad s w H locs) : W p l e room_1 s m #[Value.ref b] below meth c H locs 98 7042 Q (F0 m 1748 ls []) := by
  obtain ⟨X, hX, hbl, hL, hw, ⟨i5, hk5⟩, ⟨i6, hk6⟩⟩ := hZ
  have hx := X.1.1
  have hb := X.1.2.1
  have hbA : ¬ lwA s b := Nat.not_le.mpr hbl
  obtain ⟨hI, hq⟩ := hI
  refine lv_aload_n hx hb dL_law_1748 rfl (lv_at hl 1 rfl) ?_
  refine lv_aload_n hx hb dL_law_1749 rfl (lv_at hl 0 rfl) ?_
  refine lv_iload_n hx hb dL_law_1750 rfl (lv_at hl 3 rfl) ?_
  refine lv_iconst (v := 1) hx hb dL_law_1751 (by decide) ?_
  refine lv_iadd hx hb dL_law_1752 ?_
  refine lv_topi (fun y1 hy1 => ?_)
  have ey1 : y1.toInt = x.toInt + 1 := by rw [hy1, addI _ _ (by simp only [Int32.reduceToInt]; omega)]; rfl
  refine va_sld hx hb hX hbl hbA hI.2.2.1 (vp_in_iff.mpr ⟨by omega, by omega⟩) dL_law_1753 ?_
  refine lv_topi (fun a2 ha2 => ?_)
  refine lv_aload_n hx hb dL_law_1754 rfl (lv_at hl 0 rfl) ?_
  refine lv_iload_n hx hb dL_law_1755 rfl (lv_at hl 3 rfl) ?_
  refine lv_iconst (v := 2) hx hb dL_law_1756 (by decide) ?_
  refine lv_iadd hx hb dL_law_1757 ?_
  refine lv_topi (fun y3 hy3 => ?_)
  have ey3 : y3.toInt = x.toInt + 2 := by rw [hy3, addI _ _ (by simp only [Int32.reduceToInt]; omega)]; rfl
  refine va_sld hx hb hX hbl hbA hI.2.2.1 (vp_in_iff.mpr ⟨by omega, by omega⟩) dL_law_1758 ?_
  refine lv_topi (fun a4 ha4 => ?_)
  refine zlcall (con := zc_810) (zq_RL_251 X (zM_810 hw hm) (by decide) rfl rfl) rfl hI (As := [.ref h, .int a2, .int a4]) (rest := []) ⟨⟨_, _, rfl, hk5.1, hk5.2⟩, ⟨_, rfl, bT _⟩, ⟨_, rfl, bT _⟩, trivial⟩ (Nat.le_of_ble_eq_true rfl) hl.1 dL_law_1759 (fun H locs w r hI hr hk hp => ?_)
  have hq := zrel_keep hk (by decide +kernel) hq
  have hr : zF2 (zok ks ad) [(0, (-5), (6))] r := hr
  obtain ⟨_, _, rfl, ⟨z5, rfl, lz5⟩, hr2⟩ := zst1 hr
  obtain rfl := zst0 hr2
  dsimp only at lz5
  dsimp only [List.cons_append, List.nil_append]
  refine lv_pop hx hb dL_law_1762 rfl ?_
  refine lv_aload_n hx hb dL_law_1763 rfl (lv_at hl 2 rfl) ?_
  refine lv_aload_n hx hb dL_law_1764 rfl (lv_at hl 0 rfl) ?_
  refine lv_iload_n hx hb dL_law_1765 rfl (lv_at hl 3 rfl) ?_
  refine lv_iconst (v := 1) hx hb dL_law_1766 (by decide) ?_
  refine lv_iadd hx hb dL_law_1767 ?_
  refine lv_topi (fun y6 hy6 => ?_)
  have ey6 : y6.toInt = x.toInt + 1 := by rw [hy6, addI _ _ (by simp only [Int32.reduceToInt]; omega)]; rfl
  refine va_sld hx hb hX hbl hbA hI.2.2.1 (vp_in_iff.mpr ⟨by omega, by omega⟩) dL_law_1768 ?_
  refine lv_topi (fun a7 ha7 => ?_)
  refine lv_aload_n hx hb dL_law_1769 rfl (lv_at hl 0 rfl) ?_
  refine lv_iload_n hx hb dL_law_1770 rfl (lv_at hl 3 rfl) ?_
  refine lv_iconst (v := 2) hx hb dL_law_1771 (by decide) ?_
  refine lv_iadd hx hb dL_law_1772 ?_
  refine lv_topi (fun y8 hy8 => ?_)
  have ey8 : y8.toInt = x.toInt + 2 := by rw [hy8, addI _ _ (by simp only [Int32.reduceToInt]; omega)]; rfl
  refine va_sld hx hb hX hbl hbA hI.2.2.1 (vp_in_iff.mpr ⟨by omega, by omega⟩) dL_law_1773 ?_
  refine lv_topi (fun a9 ha9 => ?_)
  refine zlcall (con := zc_1122) (zq_RL_254 X (zM_1122 hw hm) (by decide) rfl rfl) rfl hI (As := [.ref g, .int a7, .int a9]) (rest := []) ⟨⟨_, _, rfl, hk6.1, hk6.2⟩, ⟨_, rfl, bT _⟩, ⟨_, rfl, bT _⟩, trivial⟩ (Nat.le_of_ble_eq_true rfl) hl.1 dL_law_1774 (fun H locs w r hI hr hk hp => ?_)
  have hq := zrel_keep hk (by decide +kernel) hq
  have hr : zF2 (zok ks ad) [(0, (-5), (6))] r := hr
  obtain ⟨_, _, rfl, ⟨z10, rfl, lz10⟩, hr2⟩ := zst1 hr
  obtain rfl := zst0 hr2
  dsimp only at lz10
  dsimp only [List.cons_append, List.nil_append]
  refine lv_pop hx hb dL_law_1777 rfl ?_
  refine lv_goto (tgt := 2131) hx hb dL_law_1778 (by decide) ?_
  exact hT ls _ _ _ hl ⟨hI, hq⟩
theorem law_59 {p : Program} {l : Launch} {e : Env} {s : State} {m : MethodId} {below : List Frame} {meth : Method} {c : Code} {Q : State → Prop} {D : va_G} {cI cZ cB cJ cR : ClassId} {ks ad : List Nat} {b L h g : Nat} {xs : Nat → Int32} (hZ : zLaw p l s m c D cI cZ cB cJ cR ks ad b L h g xs) (hm : zMan l D cI cZ cB cJ cR ks ad (zPsi ks ad)) {x : Int32} (hx0 : 0 ≤ x.toInt) (hx1 : x.toInt + 6 ≤ (L : Int)) (hT : ∀ (ls : Array Slot) (w : va_W) (H : Heap) (locs : List Loc), lv_has ls 4 [(0, .ref b), (1, .ref h), (2, .ref g), (3, .int x)] → zINV D cI cZ cB cJ cR ks ad s w H locs → W p l e room_1 s m #[Value.ref b] below meth c H locs 98 7042 Q (F0 m 2131 ls [])) {ls : Array Slot} {w : va_W} {H : Heap} {locs : List Loc} (hl : lv_has ls 4 [(0, .ref b), (1, .ref h), (2, .ref g), (3, .int x)]) (hI : zINV D cI cZ cB cJ cR ks ad s w H locs) : W p l e room_1 s m #[Value.ref b] below meth c H locs 98 7042 Q (F0 m 1781 ls []) := by
  obtain ⟨X, hX, hbl, hL, hw, ⟨i5, hk5⟩, ⟨i6, hk6⟩⟩ := hZ
  have hx := X.1.1
  have hb := X.1.2.1
  have hbA : ¬ lwA s b := Nat.not_le.mpr hbl
  obtain ⟨hI, hq⟩ := hI
  refine lv_aload_n hx hb dL_law_1781 rfl (lv_at hl 1 rfl) ?_
  refine lv_aload_n hx hb dL_law_1782 rfl (lv_at hl 0 rfl) ?_
  refine lv_iload_n hx hb dL_law_1783 rfl (lv_at hl 3 rfl) ?_
  refine lv_iconst (v := 1) hx hb dL_law_1784 (by decide) ?_
  refine lv_iadd hx hb dL_law_1785 ?_
  refine lv_topi (fun y1 hy1 => ?_)
  have ey1 : y1.toInt = x.toInt + 1 := by rw [hy1, addI _ _ (by simp only [Int32.reduceToInt]; omega)]; rfl
  refine va_sld hx hb hX hbl hbA hI.2.2.1 (vp_in_iff.mpr ⟨by omega, by omega⟩) dL_law_1786 ?_
  refine lv_topi (fun a2 ha2 => ?_)
  refine lv_aload_n hx hb dL_law_1787 rfl (lv_at hl 0 rfl) ?_
  refine lv_iload_n hx hb dL_law_1788 rfl (lv_at hl 3 rfl) ?_
  refine lv_iconst (v := 2) hx hb dL_law_1789 (by decide) ?_
  refine lv_iadd hx hb dL_law_1790 ?_
  refine lv_topi (fun y3 hy3 => ?_)
  have ey3 : y3.toInt = x.toInt + 2 := by rw [hy3, addI _ _ (by simp only [Int32.reduceToInt]; omega)]; rfl
  refine va_sld hx hb hX hbl hbA hI.2.2.1 (vp_in_iff.mpr ⟨by omega, by omega⟩) dL_law_1791 ?_
  refine lv_topi (fun a4 ha4 => ?_)
  refine lv_aload_n hx hb dL_law_1792 rfl (lv_at hl 0 rfl) ?_
  refine lv_iload_n hx hb dL_law_1793 rfl (lv_at hl 3 rfl) ?_
  refine lv_iconst (v := 3) hx hb dL_law_1794 (by decide) ?_
  refine lv_iadd hx hb dL_law_1795 ?_
  refine lv_topi (fun y5 hy5 => ?_)
  have ey5 : y5.toInt = x.toInt + 3 := by rw [hy5, addI _ _ (by simp only [Int32.reduceToInt]; omega)]; rfl
  refine va_sld hx hb hX hbl hbA hI.2.2.1 (vp_in_iff.mpr ⟨by omega, by omega⟩) dL_law_1796 ?_
  refine lv_topi (fun a6 ha6 => ?_)
  refine zlcall (con := zc_762) (zq_RL_255 X (zM_762 hw hm) (by decide) rfl rfl) rfl hI (As := [.ref h, .int a2, .int a4, .int a6]) (rest := []) ⟨⟨_, _, rfl, hk5.1, hk5.2⟩, ⟨_, rfl, bT _⟩, ⟨_, rfl, bT _⟩, ⟨_, rfl, bT _⟩, trivial⟩ (Nat.le_of_ble_eq_true rfl) hl.1 dL_law_1797 (fun H locs w r hI hr hk hp => ?_)
  have hq := zrel_keep hk (by decide +kernel) hq
  have hr : zF2 (zok ks ad) [(0, (-5), (9))] r := hr
  obtain ⟨_, _, rfl, ⟨z7, rfl, lz7⟩, hr2⟩ := zst1 hr
  obtain rfl := zst0 hr2
  dsimp only at lz7
  dsimp only [List.cons_append, List.nil_append]
  refine lv_pop hx hb dL_law_1800 rfl ?_
  refine lv_aload_n hx hb dL_law_1801 rfl (lv_at hl 2 rfl) ?_
  refine lv_aload_n hx hb dL_law_1802 rfl (lv_at hl 0 rfl) ?_
  refine lv_iload_n hx hb dL_law_1803 rfl (lv_at hl 3 rfl) ?_
  refine lv_iconst (v := 1) hx hb dL_law_1804 (by decide) ?_
  refine lv_iadd hx hb dL_law_1805 ?_
  refine lv_topi (fun y8 hy8 => ?_)
  have ey8 : y8.toInt = x.toInt + 1 := by rw [hy8, addI _ _ (by simp only [Int32.reduceToInt]; omega)]; rfl
  refine va_sld hx hb hX hbl hbA hI.2.2.1 (vp_in_iff.mpr ⟨by omega, by omega⟩) dL_law_1806 ?_
  refine lv_topi (fun a9 ha9 => ?_)
  refine lv_aload_n hx hb dL_law_1807 rfl (lv_at hl 0 rfl) ?_
  refine lv_iload_n hx hb dL_law_1808 rfl (lv_at hl 3 rfl) ?_
  refine lv_iconst (v := 2) hx hb dL_law_1809 (by decide) ?_
  refine lv_iadd hx hb dL_law_1810 ?_
  refine lv_topi (fun y10 hy10 => ?_)
  have ey10 : y10.toInt = x.toInt + 2 := by rw [hy10, addI _ _ (by simp only [Int32.reduceToInt]; omega)]; rfl
  refine va_sld hx hb hX hbl hbA hI.2.2.1 (vp_in_iff.mpr ⟨by omega, by omega⟩) dL_law_1811 ?_
  refine lv_topi (fun a11 ha11 => ?_)
  refine lv_aload_n hx hb dL_law_1812 rfl (lv_at hl 0 rfl) ?_
  refine lv_iload_n hx hb dL_law_1813 rfl (lv_at hl 3 rfl) ?_
  refine lv_iconst (v := 3) hx hb dL_law_1814 (by decide) ?_
  refine lv_iadd hx hb dL_law_1815 ?_
  refine lv_topi (fun y12 hy12 => ?_)
  have ey12 : y12.toInt = x.toInt + 3 := by rw [hy12, addI _ _ (by simp only [Int32.reduceToInt]; omega)]; rfl
  refine va_sld hx hb hX hbl hbA hI.2.2.1 (vp_in_iff.mpr ⟨by omega, by omega⟩) dL_law_1816 ?_
  refine lv_topi (fun a13 ha13 => ?_)
  refine zlcall (con := zc_1036) (zq_RL_258 X (zM_1036 hw hm) (by decide) rfl rfl) rfl hI (As := [.ref g, .int a9, .int a11, .int a13]) (rest := []) ⟨⟨_, _, rfl, hk6.1, hk6.2⟩, ⟨_, rfl, bT _⟩, ⟨_, rfl, bT _⟩, ⟨_, rfl, bT _⟩, trivial⟩ (Nat.le_of_ble_eq_true rfl) hl.1 dL_law_1817 (fun H locs w r hI hr hk hp => ?_)
  have hq := zrel_keep hk (by decide +kernel) hq
  have hr : zF2 (zok ks ad) [(0, (-5), (9))] r := hr
  obtain ⟨_, _, rfl, ⟨z14, rfl, lz14⟩, hr2⟩ := zst1 hr
  obtain rfl := zst0 hr2
  dsimp only at lz14
  dsimp only [List.cons_append, List.nil_append]
  refine lv_pop hx hb dL_law_1820 rfl ?_
  refine lv_goto (tgt := 2131) hx hb dL_law_1821 (by decide) ?_
  exact hT ls _ _ _ hl ⟨hI, hq⟩
