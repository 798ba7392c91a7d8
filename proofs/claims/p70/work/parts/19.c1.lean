theorem law_12 {p : Program} {l : Launch} {e : Env} {s : State} {m : MethodId} {below : List Frame} {meth : Method} {c : Code} {Q : State → Prop} {D : va_G} {cI cZ cB cJ cR : ClassId} {ks ad : List Nat} {b L h g : Nat} {xs : Nat → Int32} (hZ : zLaw p l s m c D cI cZ cB cJ cR ks ad b L h g xs) (hm : zMan l D cI cZ cB cJ cR ks ad (zPsi ks ad)) {x : Int32} (hx0 : 0 ≤ x.toInt) (hx1 : x.toInt + 6 ≤ (L : Int)) (hT : ∀ (ls : Array Slot) (w : va_W) (H : Heap) (locs : List Loc), lv_has ls 4 [(0, .ref b), (1, .ref h), (2, .ref g), (3, .int x)] → zINV D cI cZ cB cJ cR ks ad s w H locs → W p l e room_1 s m #[Value.ref b] below meth c H locs 98 7042 Q (F0 m 2131 ls [])) {ls : Array Slot} {w : va_W} {H : Heap} {locs : List Loc} (hl : lv_has ls 4 [(0, .ref b), (1, .ref h), (2, .ref g), (3, .int x)]) (hI : zINV D cI cZ cB cJ cR ks ad s w H locs) : W p l e room_1 s m #[Value.ref b] below meth c H locs 98 7042 Q (F0 m 660 ls []) := by
  obtain ⟨X, hX, hbl, hL, hw, ⟨i5, hk5⟩, ⟨i6, hk6⟩⟩ := hZ
  have hx := X.1.1
  have hb := X.1.2.1
  have hbA : ¬ lwA s b := Nat.not_le.mpr hbl
  obtain ⟨hI, hq⟩ := hI
  refine lv_aload_n hx hb dL_law_660 rfl (lv_at hl 1 rfl) ?_
  refine lv_aload_n hx hb dL_law_661 rfl (lv_at hl 0 rfl) ?_
  refine lv_iload_n hx hb dL_law_662 rfl (lv_at hl 3 rfl) ?_
  refine lv_iconst (v := 1) hx hb dL_law_663 (by decide) ?_
  refine lv_iadd hx hb dL_law_664 ?_
  refine lv_topi (fun y1 hy1 => ?_)
  have ey1 : y1.toInt = x.toInt + 1 := by rw [hy1, addI _ _ (by simp only [Int32.reduceToInt]; omega)]; rfl
  refine va_sld hx hb hX hbl hbA hI.2.2.1 (vp_in_iff.mpr ⟨by omega, by omega⟩) dL_law_665 ?_
  refine lv_topi (fun a2 ha2 => ?_)
  refine zlcall (con := zc_763) (zq_RL_66 X (zM_763 hw hm) (by decide) rfl rfl) rfl hI (As := [.ref h, .int a2]) (rest := []) ⟨⟨_, _, rfl, hk5.1, hk5.2⟩, ⟨_, rfl, bT _⟩, trivial⟩ (Nat.le_of_ble_eq_true rfl) hl.1 dL_law_666 (fun H locs w r hI hr hk hp => ?_)
  have hq := zrel_keep hk (by decide +kernel) hq
  have hr : zF2 (zok ks ad) [(0, (-2), (2147483647))] r := hr
  obtain ⟨_, _, rfl, ⟨z3, rfl, lz3⟩, hr2⟩ := zst1 hr
  obtain rfl := zst0 hr2
  dsimp only at lz3
  dsimp only [List.cons_append, List.nil_append]
  refine lv_pop hx hb dL_law_669 rfl ?_
  refine lv_aload_n hx hb dL_law_670 rfl (lv_at hl 2 rfl) ?_
  refine lv_aload_n hx hb dL_law_671 rfl (lv_at hl 0 rfl) ?_
  refine lv_iload_n hx hb dL_law_672 rfl (lv_at hl 3 rfl) ?_
  refine lv_iconst (v := 1) hx hb dL_law_673 (by decide) ?_
  refine lv_iadd hx hb dL_law_674 ?_
  refine lv_topi (fun y4 hy4 => ?_)
  have ey4 : y4.toInt = x.toInt + 1 := by rw [hy4, addI _ _ (by simp only [Int32.reduceToInt]; omega)]; rfl
  refine va_sld hx hb hX hbl hbA hI.2.2.1 (vp_in_iff.mpr ⟨by omega, by omega⟩) dL_law_675 ?_
  refine lv_topi (fun a5 ha5 => ?_)
  refine zlcall (con := zc_1037) (zq_RL_69 X (zM_1037 hw hm) (by decide) rfl rfl) rfl hI (As := [.ref g, .int a5]) (rest := []) ⟨⟨_, _, rfl, hk6.1, hk6.2⟩, ⟨_, rfl, bT _⟩, trivial⟩ (Nat.le_of_ble_eq_true rfl) hl.1 dL_law_676 (fun H locs w r hI hr hk hp => ?_)
  have hq := zrel_keep hk (by decide +kernel) hq
  have hr : zF2 (zok ks ad) [(0, (-2), (2147483647))] r := hr
  obtain ⟨_, _, rfl, ⟨z6, rfl, lz6⟩, hr2⟩ := zst1 hr
  obtain rfl := zst0 hr2
  dsimp only at lz6
  dsimp only [List.cons_append, List.nil_append]
  refine lv_pop hx hb dL_law_679 rfl ?_
  refine lv_goto (tgt := 2131) hx hb dL_law_680 (by decide) ?_
  exact hT ls _ _ _ hl ⟨hI, hq⟩
theorem law_13 {p : Program} {l : Launch} {e : Env} {s : State} {m : MethodId} {below : List Frame} {meth : Method} {c : Code} {Q : State → Prop} {D : va_G} {cI cZ cB cJ cR : ClassId} {ks ad : List Nat} {b L h g : Nat} {xs : Nat → Int32} (hZ : zLaw p l s m c D cI cZ cB cJ cR ks ad b L h g xs) (hm : zMan l D cI cZ cB cJ cR ks ad (zPsi ks ad)) {x : Int32} (hx0 : 0 ≤ x.toInt) (hx1 : x.toInt + 6 ≤ (L : Int)) (hT : ∀ (ls : Array Slot) (w : va_W) (H : Heap) (locs : List Loc), lv_has ls 4 [(0, .ref b), (1, .ref h), (2, .ref g), (3, .int x)] → zINV D cI cZ cB cJ cR ks ad s w H locs → W p l e room_1 s m #[Value.ref b] below meth c H locs 98 7042 Q (F0 m 2131 ls [])) {ls : Array Slot} {w : va_W} {H : Heap} {locs : List Loc} (hl : lv_has ls 4 [(0, .ref b), (1, .ref h), (2, .ref g), (3, .int x)]) (hI : zINV D cI cZ cB cJ cR ks ad s w H locs) : W p l e room_1 s m #[Value.ref b] below meth c H locs 98 7042 Q (F0 m 683 ls []) := by
  obtain ⟨X, hX, hbl, hL, hw, ⟨i5, hk5⟩, ⟨i6, hk6⟩⟩ := hZ
  have hx := X.1.1
  have hb := X.1.2.1
  have hbA : ¬ lwA s b := Nat.not_le.mpr hbl
  obtain ⟨hI, hq⟩ := hI
  refine lv_aload_n hx hb dL_law_683 rfl (lv_at hl 1 rfl) ?_
  refine lv_aload_n hx hb dL_law_684 rfl (lv_at hl 0 rfl) ?_
  refine lv_iload_n hx hb dL_law_685 rfl (lv_at hl 3 rfl) ?_
  refine lv_iconst (v := 1) hx hb dL_law_686 (by decide) ?_
  refine lv_iadd hx hb dL_law_687 ?_
  refine lv_topi (fun y1 hy1 => ?_)
  have ey1 : y1.toInt = x.toInt + 1 := by rw [hy1, addI _ _ (by simp only [Int32.reduceToInt]; omega)]; rfl
  refine va_sld hx hb hX hbl hbA hI.2.2.1 (vp_in_iff.mpr ⟨by omega, by omega⟩) dL_law_688 ?_
  refine lv_topi (fun a2 ha2 => ?_)
  refine zlcall (con := zc_667) (zq_RL_70 X (zM_667 hw hm) (by decide) rfl rfl) rfl hI (As := [.ref h, .int a2]) (rest := []) ⟨⟨_, _, rfl, hk5.1, hk5.2⟩, ⟨_, rfl, bT _⟩, trivial⟩ (Nat.le_of_ble_eq_true rfl) hl.1 dL_law_689 (fun H locs w r hI hr hk hp => ?_)
  have hq := zrel_keep hk (by decide +kernel) hq
  have hr : zF2 (zok ks ad) [(0, (-2147483648), (2147483647))] r := hr
  obtain ⟨_, _, rfl, ⟨z3, rfl, lz3⟩, hr2⟩ := zst1 hr
  obtain rfl := zst0 hr2
  dsimp only at lz3
  dsimp only [List.cons_append, List.nil_append]
  refine lv_pop hx hb dL_law_692 rfl ?_
  refine lv_aload_n hx hb dL_law_693 rfl (lv_at hl 2 rfl) ?_
  refine lv_aload_n hx hb dL_law_694 rfl (lv_at hl 0 rfl) ?_
  refine lv_iload_n hx hb dL_law_695 rfl (lv_at hl 3 rfl) ?_
  refine lv_iconst (v := 1) hx hb dL_law_696 (by decide) ?_
  refine lv_iadd hx hb dL_law_697 ?_
  refine lv_topi (fun y4 hy4 => ?_)
  have ey4 : y4.toInt = x.toInt + 1 := by rw [hy4, addI _ _ (by simp only [Int32.reduceToInt]; omega)]; rfl
  refine va_sld hx hb hX hbl hbA hI.2.2.1 (vp_in_iff.mpr ⟨by omega, by omega⟩) dL_law_698 ?_
  refine lv_topi (fun a5 ha5 => ?_)
  refine zlcall (con := zc_885) (zq_RL_73 X (zM_885 hw hm) (by decide) rfl rfl) rfl hI (As := [.ref g, .int a5]) (rest := []) ⟨⟨_, _, rfl, hk6.1, hk6.2⟩, ⟨_, rfl, bT _⟩, trivial⟩ (Nat.le_of_ble_eq_true rfl) hl.1 dL_law_699 (fun H locs w r hI hr hk hp => ?_)
  have hq := zrel_keep hk (by decide +kernel) hq
  have hr : zF2 (zok ks ad) [(0, (-2147483648), (2147483647))] r := hr
  obtain ⟨_, _, rfl, ⟨z6, rfl, lz6⟩, hr2⟩ := zst1 hr
  obtain rfl := zst0 hr2
  dsimp only at lz6
  dsimp only [List.cons_append, List.nil_append]
  refine lv_pop hx hb dL_law_702 rfl ?_
  refine lv_goto (tgt := 2131) hx hb dL_law_703 (by decide) ?_
  exact hT ls _ _ _ hl ⟨hI, hq⟩
theorem law_14 {p : Program} {l : Launch} {e : Env} {s : State} {m : MethodId} {below : List Frame} {meth : Method} {c : Code} {Q : State → Prop} {D : va_G} {cI cZ cB cJ cR : ClassId} {ks ad : List Nat} {b L h g : Nat} {xs : Nat → Int32} (hZ : zLaw p l s m c D cI cZ cB cJ cR ks ad b L h g xs) (hm : zMan l D cI cZ cB cJ cR ks ad (zPsi ks ad)) {x : Int32} (hx0 : 0 ≤ x.toInt) (hx1 : x.toInt + 6 ≤ (L : Int)) (hT : ∀ (ls : Array Slot) (w : va_W) (H : Heap) (locs : List Loc), lv_has ls 4 [(0, .ref b), (1, .ref h), (2, .ref g), (3, .int x)] → zINV D cI cZ cB cJ cR ks ad s w H locs → W p l e room_1 s m #[Value.ref b] below meth c H locs 98 7042 Q (F0 m 2131 ls [])) {ls : Array Slot} {w : va_W} {H : Heap} {locs : List Loc} (hl : lv_has ls 4 [(0, .ref b), (1, .ref h), (2, .ref g), (3, .int x)]) (hI : zINV D cI cZ cB cJ cR ks ad s w H locs) : W p l e room_1 s m #[Value.ref b] below meth c H locs 98 7042 Q (F0 m 706 ls []) := by
  obtain ⟨X, hX, hbl, hL, hw, ⟨i5, hk5⟩, ⟨i6, hk6⟩⟩ := hZ
  have hx := X.1.1
  have hb := X.1.2.1
  have hbA : ¬ lwA s b := Nat.not_le.mpr hbl
  obtain ⟨hI, hq⟩ := hI
  refine lv_aload_n hx hb dL_law_706 rfl (lv_at hl 1 rfl) ?_
  refine zlcall (con := zc_828) (zq_RL_74 X (zM_828 hw hm) (by decide) rfl rfl) rfl hI (As := [.ref h]) (rest := []) ⟨⟨_, _, rfl, hk5.1, hk5.2⟩, trivial⟩ (Nat.le_of_ble_eq_true rfl) hl.1 dL_law_707 (fun H locs w r hI hr hk hp => ?_)
  have hq := zrel_keep hk (by decide +kernel) hq
  have hr : zF2 (zok ks ad) [(0, (-2), (6))] r := hr
  obtain ⟨_, _, rfl, ⟨z1, rfl, lz1⟩, hr2⟩ := zst1 hr
  obtain rfl := zst0 hr2
  dsimp only at lz1
  dsimp only [List.cons_append, List.nil_append]
  refine lv_pop hx hb dL_law_710 rfl ?_
  refine lv_aload_n hx hb dL_law_711 rfl (lv_at hl 2 rfl) ?_
  refine zlcall (con := zc_1193) (zq_RL_77 X (zM_1193 hw hm) (by decide) rfl rfl) rfl hI (As := [.ref g]) (rest := []) ⟨⟨_, _, rfl, hk6.1, hk6.2⟩, trivial⟩ (Nat.le_of_ble_eq_true rfl) hl.1 dL_law_712 (fun H locs w r hI hr hk hp => ?_)
  have hq := zrel_keep hk (by decide +kernel) hq
  have hr : zF2 (zok ks ad) [(0, (-2), (6))] r := hr
  obtain ⟨_, _, rfl, ⟨z2, rfl, lz2⟩, hr2⟩ := zst1 hr
  obtain rfl := zst0 hr2
  dsimp only at lz2
  dsimp only [List.cons_append, List.nil_append]
  refine lv_pop hx hb dL_law_715 rfl ?_
  refine lv_goto (tgt := 2131) hx hb dL_law_716 (by decide) ?_
  exact hT ls _ _ _ hl ⟨hI, hq⟩
theorem law_15 {p : Program} {l : Launch} {e : Env} {s : State} {m : MethodId} {below : List Frame} {meth : Method} {c : Code} {Q : State → Prop} {D : va_G} {cI cZ cB cJ cR : ClassId} {ks ad : List Nat} {b L h g : Nat} {xs : Nat → Int32} (hZ : zLaw p l s m c D cI cZ cB cJ cR ks ad b L h g xs) (hm : zMan l D cI cZ cB cJ cR ks ad (zPsi ks ad)) {x : Int32} (hx0 : 0 ≤ x.toInt) (hx1 : x.toInt + 6 ≤ (L : Int)) (hT : ∀ (ls : Array Slot) (w : va_W) (H : Heap) (locs : List Loc), lv_has ls 4 [(0, .ref b), (1, .ref h), (2, .ref g), (3, .int x)] → zINV D cI cZ cB cJ cR ks ad s w H locs → W p l e room_1 s m #[Value.ref b] below meth c H locs 98 7042 Q (F0 m 2131 ls [])) {ls : Array Slot} {w : va_W} {H : Heap} {locs : List Loc} (hl : lv_has ls 4 [(0, .ref b), (1, .ref h), (2, .ref g), (3, .int x)]) (hI : zINV D cI cZ cB cJ cR ks ad s w H locs) : W p l e room_1 s m #[Value.ref b] below meth c H locs 98 7042 Q (F0 m 719 ls []) := by
  obtain ⟨X, hX, hbl, hL, hw, ⟨i5, hk5⟩, ⟨i6, hk6⟩⟩ := hZ
  have hx := X.1.1
  have hb := X.1.2.1
  have hbA : ¬ lwA s b := Nat.not_le.mpr hbl
  obtain ⟨hI, hq⟩ := hI
  refine lv_aload_n hx hb dL_law_719 rfl (lv_at hl 1 rfl) ?_
  refine zlcall (con := zc_822) (zq_RL_78 X (zM_822 hw hm) (by decide) rfl rfl) rfl hI (As := [.ref h]) (rest := []) ⟨⟨_, _, rfl, hk5.1, hk5.2⟩, trivial⟩ (Nat.le_of_ble_eq_true rfl) hl.1 dL_law_720 (fun H locs w r hI hr hk hp => ?_)
  have hq := zrel_keep hk (by decide +kernel) hq
  have hr : zF2 (zok ks ad) [(0, (-2147483648), (2147483647))] r := hr
  obtain ⟨_, _, rfl, ⟨z1, rfl, lz1⟩, hr2⟩ := zst1 hr
  obtain rfl := zst0 hr2
  dsimp only at lz1
  dsimp only [List.cons_append, List.nil_append]
  refine lv_pop hx hb dL_law_723 rfl ?_
  refine lv_aload_n hx hb dL_law_724 rfl (lv_at hl 2 rfl) ?_
  refine zlcall (con := zc_1164) (zq_RL_81 X (zM_1164 hw hm) (by decide) rfl rfl) rfl hI (As := [.ref g]) (rest := []) ⟨⟨_, _, rfl, hk6.1, hk6.2⟩, trivial⟩ (Nat.le_of_ble_eq_true rfl) hl.1 dL_law_725 (fun H locs w r hI hr hk hp => ?_)
  have hq := zrel_keep hk (by decide +kernel) hq
  have hr : zF2 (zok ks ad) [(0, (-2147483648), (2147483647))] r := hr
  obtain ⟨_, _, rfl, ⟨z2, rfl, lz2⟩, hr2⟩ := zst1 hr
  obtain rfl := zst0 hr2
  dsimp only at lz2
  dsimp only [List.cons_append, List.nil_append]
  refine lv_pop hx hb dL_law_728 rfl ?_
  refine lv_goto (tgt := 2131) hx hb dL_law_729 (by decide) ?_
  exact hT ls _ _ _ hl ⟨hI, hq⟩
theorem law_16 {p : Program} {l : Launch} {e : Env} {s : State} {m : MethodId} {below : List Frame} {meth : Method} {c : Code} {Q : State → Prop} {D : va_G} {cI cZ cB cJ cR : ClassId} {ks ad : List Nat} {b L h g : Nat} {xs : Nat → Int32} (hZ : zLaw p l s m c D cI cZ cB cJ cR ks ad b L h g xs) (hm : zMan l D cI cZ cB cJ cR ks ad (zPsi ks ad)) {x : Int32} (hx0 : 0 ≤ x.toInt) (hx1 : x.toInt + 6 ≤ (L : Int)) (hT : ∀ (ls : Array Slot) (w : va_W) (H : Heap) (locs : List Loc), lv_has ls 4 [(0, .ref b), (1, .ref h), (2, .ref g), (3, .int x)] → zINV D cI cZ cB cJ cR ks ad s w H locs → W p l e room_1 s m #[Value.ref b] below meth c H locs 98 7042 Q (F0 m 2131 ls [])) {ls : Array Slot} {w : va_W} {H : Heap} {locs : List Loc} (hl : lv_has ls 4 [(0, .ref b), (1, .ref h), (2, .ref g), (3, .int x)]) (hI : zINV D cI cZ cB cJ cR ks ad s w H locs) : W p l e room_1 s m #[Value.ref b] below meth c H locs 98 7042 Q (F0 m 732 ls []) := by
  obtain ⟨X, hX, hbl, hL, hw, ⟨i5, hk5⟩, ⟨i6, hk6⟩⟩ := hZ
  have hx := X.1.1
  have hb := X.1.2.1
  have hbA : ¬ lwA s b := Nat.not_le.mpr hbl
  obtain ⟨hI, hq⟩ := hI
  refine lv_aload_n hx hb dL_law_732 rfl (lv_at hl 1 rfl) ?_
  refine zlcall (con := zc_801) (zq_RL_82 X (zM_801 hw hm) (by decide) rfl rfl) rfl hI (As := [.ref h]) (rest := []) ⟨⟨_, _, rfl, hk5.1, hk5.2⟩, trivial⟩ (Nat.le_of_ble_eq_true rfl) hl.1 dL_law_733 (fun H locs w r hI hr hk hp => ?_)
  have hq := zrel_keep hk (by decide +kernel) hq
  have hr : zF2 (zok ks ad) [(0, (-2147483648), (2147483647))] r := hr
  obtain ⟨_, _, rfl, ⟨z1, rfl, lz1⟩, hr2⟩ := zst1 hr
  obtain rfl := zst0 hr2
  dsimp only at lz1
  dsimp only [List.cons_append, List.nil_append]
  refine lv_pop hx hb dL_law_736 rfl ?_
  refine lv_aload_n hx hb dL_law_737 rfl (lv_at hl 2 rfl) ?_
  refine zlcall (con := zc_1070) (zq_RL_85 X (zM_1070 hw hm) (by decide) rfl rfl) rfl hI (As := [.ref g]) (rest := []) ⟨⟨_, _, rfl, hk6.1, hk6.2⟩, trivial⟩ (Nat.le_of_ble_eq_true rfl) hl.1 dL_law_738 (fun H locs w r hI hr hk hp => ?_)
  have hq := zrel_keep hk (by decide +kernel) hq
  have hr : zF2 (zok ks ad) [(0, (-2147483648), (2147483647))] r := hr
  obtain ⟨_, _, rfl, ⟨z2, rfl, lz2⟩, hr2⟩ := zst1 hr
  obtain rfl := zst0 hr2
  dsimp only at lz2
  dsimp only [List.cons_append, List.nil_append]
  refine lv_pop hx hb dL_law_741 rfl ?_
  refine lv_goto (tgt := 2131) hx hb dL_law_742 (by decide) ?_
  exact hT ls _ _ _ hl ⟨hI, hq⟩
theorem law_17 {p : Program} {l : Launch} {e : Env} {s : State} {m : MethodId} {below : List Frame} {meth : Method} {c : Code} {Q : State → Prop} {D : va_G} {cI cZ cB cJ cR : ClassId} {ks ad : List Nat} {b L h g : Nat} {xs : Nat → Int32} (hZ : zLaw p l s m c D cI cZ cB cJ cR ks ad b L h g xs) (hm : zMan l D cI cZ cB cJ cR ks ad (zPsi ks ad)) {x : Int32} (hx0 : 0 ≤ x.toInt) (hx1 : x.toInt + 6 ≤ (L : Int)) (hT : ∀ (ls : Array Slot) (w : va_W) (H : Heap) (locs : List Loc), lv_has ls 4 [(0, .ref b), (1, .ref h), (2, .ref g), (3, .int x)] → zINV D cI cZ cB cJ cR ks ad s w H locs → W p l e room_1 s m #[Value.ref b] below meth c H locs 98 7042 Q (F0 m 2131 ls [])) {ls : Array Slot} {w : va_W} {H : Heap} {locs : List Loc} (hl : lv_has ls 4 [(0, .ref b), (1, .ref h), (2, .ref g), (3, .int x)]) (hI : zINV D cI cZ cB cJ cR ks ad s w H locs) : W p l e room_1 s m #[Value.ref b] below meth c H locs 98 7042 Q (F0 m 745 ls []) := by
  obtain ⟨X, hX, hbl, hL, hw, ⟨i5, hk5⟩, ⟨i6, hk6⟩⟩ := hZ
  have hx := X.1.1
  have hb := X.1.2.1
  have hbA : ¬ lwA s b := Nat.not_le.mpr hbl
  obtain ⟨hI, hq⟩ := hI
  refine lv_aload_n hx hb dL_law_745 rfl (lv_at hl 1 rfl) ?_
  refine lv_aload_n hx hb dL_law_746 rfl (lv_at hl 0 rfl) ?_
  refine lv_iload_n hx hb dL_law_747 rfl (lv_at hl 3 rfl) ?_
  refine lv_iconst (v := 1) hx hb dL_law_748 (by decide) ?_
  refine lv_iadd hx hb dL_law_749 ?_
  refine lv_topi (fun y1 hy1 => ?_)
  have ey1 : y1.toInt = x.toInt + 1 := by rw [hy1, addI _ _ (by simp only [Int32.reduceToInt]; omega)]; rfl
  refine va_sld hx hb hX hbl hbA hI.2.2.1 (vp_in_iff.mpr ⟨by omega, by omega⟩) dL_law_750 ?_
  refine lv_topi (fun a2 ha2 => ?_)
  refine zlcall (con := zc_800) (zq_RL_86 X (zM_800 hw hm) (by decide) rfl rfl) rfl hI (As := [.ref h, .int a2]) (rest := []) ⟨⟨_, _, rfl, hk5.1, hk5.2⟩, ⟨_, rfl, bT _⟩, trivial⟩ (Nat.le_of_ble_eq_true rfl) hl.1 dL_law_751 (fun H locs w r hI hr hk hp => ?_)
  have hq := zrel_keep hk (by decide +kernel) hq
  have hr : zF2 (zok ks ad) [(0, (-2147483648), (2147483647))] r := hr
  obtain ⟨_, _, rfl, ⟨z3, rfl, lz3⟩, hr2⟩ := zst1 hr
  obtain rfl := zst0 hr2
  dsimp only at lz3
  dsimp only [List.cons_append, List.nil_append]
  refine lv_pop hx hb dL_law_754 rfl ?_
  refine lv_aload_n hx hb dL_law_755 rfl (lv_at hl 2 rfl) ?_
  refine lv_aload_n hx hb dL_law_756 rfl (lv_at hl 0 rfl) ?_
  refine lv_iload_n hx hb dL_law_757 rfl (lv_at hl 3 rfl) ?_
  refine lv_iconst (v := 1) hx hb dL_law_758 (by decide) ?_
  refine lv_iadd hx hb dL_law_759 ?_
  refine lv_topi (fun y4 hy4 => ?_)
  have ey4 : y4.toInt = x.toInt + 1 := by rw [hy4, addI _ _ (by simp only [Int32.reduceToInt]; omega)]; rfl
  refine va_sld hx hb hX hbl hbA hI.2.2.1 (vp_in_iff.mpr ⟨by omega, by omega⟩) dL_law_760 ?_
  refine lv_topi (fun a5 ha5 => ?_)
  refine zlcall (con := zc_1068) (zq_RL_89 X (zM_1068 hw hm) (by decide) rfl rfl) rfl hI (As := [.ref g, .int a5]) (rest := []) ⟨⟨_, _, rfl, hk6.1, hk6.2⟩, ⟨_, rfl, bT _⟩, trivial⟩ (Nat.le_of_ble_eq_true rfl) hl.1 dL_law_761 (fun H locs w r hI hr hk hp => ?_)
  have hq := zrel_keep hk (by decide +kernel) hq
  have hr : zF2 (zok ks ad) [(0, (-2147483648), (2147483647))] r := hr
  obtain ⟨_, _, rfl, ⟨z6, rfl, lz6⟩, hr2⟩ := zst1 hr
  obtain rfl := zst0 hr2
  dsimp only at lz6
  dsimp only [List.cons_append, List.nil_append]
  refine lv_pop hx hb dL_law_764 rfl ?_
  refine lv_goto (tgt := 2131) hx hb dL_law_765 (by decide) ?_
  exact hT ls _ _ _ hl ⟨hI, hq⟩
theorem law_18 {p : Program} {l : Launch} {e : Env} {s : State} {m : MethodId} {below : List Frame} {meth : Method} {c : Code} {Q : State → Prop} {D : va_G} {cI cZ cB cJ cR : ClassId} {ks ad : List Nat} {b L h g : Nat} {xs : Nat → Int32} (hZ : zLaw p l s m c D cI cZ cB cJ cR ks ad b L h g xs) (hm : zMan l D cI cZ cB cJ cR ks ad (zPsi ks ad)) {x : Int32} (hx0 : 0 ≤ x.toInt) (hx1 : x.toInt + 6 ≤ (L : Int)) (hT : ∀ (ls : Array Slot) (w : va_W) (H : Heap) (locs : List Loc), lv_has ls 4 [(0, .ref b), (1, .ref h), (2, .ref g), (3, .int x)] → zINV D cI cZ cB cJ cR ks ad s w H locs → W p l e room_1 s m #[Value.ref b] below meth c H locs 98 7042 Q (F0 m 2131 ls [])) {ls : Array Slot} {w : va_W} {H : Heap} {locs : List Loc} (hl : lv_has ls 4 [(0, .ref b), (1, .ref h), (2, .ref g), (3, .int x)]) (hI : zINV D cI cZ cB cJ cR ks ad s w H locs) : W p l e room_1 s m #[Value.ref b] below meth c H locs 98 7042 Q (F0 m 768 ls []) := by
  obtain ⟨X, hX, hbl, hL, hw, ⟨i5, hk5⟩, ⟨i6, hk6⟩⟩ := hZ
  have hx := X.1.1
  have hb := X.1.2.1
  have hbA : ¬ lwA s b := Nat.not_le.mpr hbl
  obtain ⟨hI, hq⟩ := hI
  refine lv_aload_n hx hb dL_law_768 rfl (lv_at hl 1 rfl) ?_
  refine lv_aload_n hx hb dL_law_769 rfl (lv_at hl 0 rfl) ?_
  refine lv_iload_n hx hb dL_law_770 rfl (lv_at hl 3 rfl) ?_
  refine lv_iconst (v := 1) hx hb dL_law_771 (by decide) ?_
  refine lv_iadd hx hb dL_law_772 ?_
  refine lv_topi (fun y1 hy1 => ?_)
  have ey1 : y1.toInt = x.toInt + 1 := by rw [hy1, addI _ _ (by simp only [Int32.reduceToInt]; omega)]; rfl
  refine va_sld hx hb hX hbl hbA hI.2.2.1 (vp_in_iff.mpr ⟨by omega, by omega⟩) dL_law_773 ?_
  refine lv_topi (fun a2 ha2 => ?_)
  refine zlcall (con := zc_646) (zq_RL_90 X (zM_646 hw hm) (by decide) rfl rfl) rfl hI (As := [.ref h, .int a2]) (rest := []) ⟨⟨_, _, rfl, hk5.1, hk5.2⟩, ⟨_, rfl, bT _⟩, trivial⟩ (Nat.le_of_ble_eq_true rfl) hl.1 dL_law_774 (fun H locs w r hI hr hk hp => ?_)
  have hq := zrel_keep hk (by decide +kernel) hq
  have hr : zF2 (zok ks ad) [(0, (-2), (63))] r := hr
  obtain ⟨_, _, rfl, ⟨z3, rfl, lz3⟩, hr2⟩ := zst1 hr
  obtain rfl := zst0 hr2
  dsimp only at lz3
  dsimp only [List.cons_append, List.nil_append]
  refine lv_pop hx hb dL_law_777 rfl ?_
  refine lv_aload_n hx hb dL_law_778 rfl (lv_at hl 2 rfl) ?_
  refine lv_aload_n hx hb dL_law_779 rfl (lv_at hl 0 rfl) ?_
  refine lv_iload_n hx hb dL_law_780 rfl (lv_at hl 3 rfl) ?_
  refine lv_iconst (v := 1) hx hb dL_law_781 (by decide) ?_
  refine lv_iadd hx hb dL_law_782 ?_
  refine lv_topi (fun y4 hy4 => ?_)
  have ey4 : y4.toInt = x.toInt + 1 := by rw [hy4, addI _ _ (by simp only [Int32.reduceToInt]; omega)]; rfl
  refine va_sld hx hb hX hbl hbA hI.2.2.1 (vp_in_iff.mpr ⟨by omega, by omega⟩) dL_law_783 ?_
  refine lv_topi (fun a5 ha5 => ?_)
  refine zlcall (con := zc_847) (zq_RL_93 X (zh_chain hw (by decide) (zM_934 hw hm) zh_sizeOf) (by decide) rfl rfl) rfl hI (As := [.ref g, .int a5]) (rest := []) ⟨⟨_, _, rfl, hk6.1, hk6.2⟩, ⟨_, rfl, bT _⟩, trivial⟩ (Nat.le_of_ble_eq_true rfl) hl.1 dL_law_784 (fun H locs w r hI hr hk hp => ?_)
  have hq := zrel_keep hk (by decide +kernel) hq
  have hr : zF2 (zok ks ad) [(0, (-2147483648), (2147483647))] r := hr
  obtain ⟨_, _, rfl, ⟨z6, rfl, lz6⟩, hr2⟩ := zst1 hr
  obtain rfl := zst0 hr2
  dsimp only at lz6
  dsimp only [List.cons_append, List.nil_append]
  refine lv_pop hx hb dL_law_787 rfl ?_
  refine lv_goto (tgt := 2131) hx hb dL_law_788 (by decide) ?_
  exact hT ls _ _ _ hl ⟨hI, hq⟩
theorem law_19 {p : Program} {l : Launch} {e : Env} {s : State} {m : MethodId} {below : List Frame} {meth : Method} {c : Code} {Q : State → Prop} {D : va_G} {cI cZ cB cJ cR : ClassId} {ks ad : List Nat} {b L h g : Nat} {xs : Nat → Int32} (hZ : zLaw p l s m c D cI cZ cB cJ cR ks ad b L h g xs) (hm : zMan l D cI cZ cB cJ cR ks ad (zPsi ks ad)) {x : Int32} (hx0 : 0 ≤ x.toInt) (hx1 : x.toInt + 6 ≤ (L : Int)) (hT : ∀ (ls : Array Slot) (w : va_W) (H : Heap) (locs : List Loc), lv_has ls 4 [(0, .ref b), (1, .ref h), (2, .ref g), (3, .int x)] → zINV D cI cZ cB cJ cR ks ad s w H locs → W p l e room_1 s m #[Value.ref b] below meth c H locs 98 7042 Q (F0 m 2131 ls [])) {ls : Array Slot} {w : va_W} {H : Heap} {locs : List Loc} (hl : lv_has ls 4 [(0, .ref b), (1, .ref h), (2, .ref g), (3, .int x)]) (hI : zINV D cI cZ cB cJ cR ks ad s w H locs) : W p l e room_1 s m #[Value.ref b] below meth c H locs 98 7042 Q (F0 m 791 ls []) := by
  obtain ⟨X, hX, hbl, hL, hw, ⟨i5, hk5⟩, ⟨i6, hk6⟩⟩ := hZ
  have hx := X.1.1
  have hb := X.1.2.1
  have hbA : ¬ lwA s b := Nat.not_le.mpr hbl
  obtain ⟨hI, hq⟩ := hI
  refine lv_aload_n hx hb dL_law_791 rfl (lv_at hl 1 rfl) ?_
  refine zlcall (con := zc_639) (zq_RL_94 X (zM_639 hw hm) (by decide) rfl rfl) rfl hI (As := [.ref h]) (rest := []) ⟨⟨_, _, rfl, hk5.1, hk5.2⟩, trivial⟩ (Nat.le_of_ble_eq_true rfl) hl.1 dL_law_792 (fun H locs w r hI hr hk hp => ?_)
  have hq := zrel_keep hk (by decide +kernel) hq
  have hr : zF2 (zok ks ad) [(0, (-2147483648), (2147483647))] r := hr
  obtain ⟨_, _, rfl, ⟨z1, rfl, lz1⟩, hr2⟩ := zst1 hr
  obtain rfl := zst0 hr2
  dsimp only at lz1
  dsimp only [List.cons_append, List.nil_append]
  refine lv_pop hx hb dL_law_795 rfl ?_
  refine lv_aload_n hx hb dL_law_796 rfl (lv_at hl 2 rfl) ?_
  refine zlcall (con := zc_842) (zq_RL_97 X (zM_842 hw hm) (by decide) rfl rfl) rfl hI (As := [.ref g]) (rest := []) ⟨⟨_, _, rfl, hk6.1, hk6.2⟩, trivial⟩ (Nat.le_of_ble_eq_true rfl) hl.1 dL_law_797 (fun H locs w r hI hr hk hp => ?_)
  have hq := zrel_keep hk (by decide +kernel) hq
  have hr : zF2 (zok ks ad) [(0, (-2147483648), (2147483647))] r := hr
  obtain ⟨_, _, rfl, ⟨z2, rfl, lz2⟩, hr2⟩ := zst1 hr
  obtain rfl := zst0 hr2
  dsimp only at lz2
  dsimp only [List.cons_append, List.nil_append]
  refine lv_pop hx hb dL_law_800 rfl ?_
  refine lv_goto (tgt := 2131) hx hb dL_law_801 (by decide) ?_
  exact hT ls _ _ _ hl ⟨hI, hq⟩
theorem law_20 {p : Program} {l : Launch} {e : Env} {s : State} {m : MethodId} {below : List Frame} {meth : Method} {c : Code} {Q : State → Prop} {D : va_G} {cI cZ cB cJ cR : ClassId} {ks ad : List Nat} {b L h g : Nat} {xs : Nat → Int32} (hZ : zLaw p l s m c D cI cZ cB cJ cR ks ad b L h g xs) (hm : zMan l D cI cZ cB cJ cR ks ad (zPsi ks ad)) {x : Int32} (hx0 : 0 ≤ x.toInt) (hx1 : x.toInt + 6 ≤ (L : Int)) (hT : ∀ (ls : Array Slot) (w : va_W) (H : Heap) (locs : List Loc), lv_has ls 4 [(0, .ref b), (1, .ref h), (2, .ref g), (3, .int x)] → zINV D cI cZ cB cJ cR ks ad s w H locs → W p l e room_1 s m #[Value.ref b] below meth c H locs 98 7042 Q (F0 m 2131 ls [])) {ls : Array Slot} {w : va_W} {H : Heap} {locs : List Loc} (hl : lv_has ls 4 [(0, .ref b), (1, .ref h), (2, .ref g), (3, .int x)]) (hI : zINV D cI cZ cB cJ cR ks ad s w H locs) : W p l e room_1 s m #[Value.ref b] below meth c H locs 98 7042 Q (F0 m 804 ls []) := by
  obtain ⟨X, hX, hbl, hL, hw, ⟨i5, hk5⟩, ⟨i6, hk6⟩⟩ := hZ
  have hx := X.1.1
  have hb := X.1.2.1
  have hbA : ¬ lwA s b := Nat.not_le.mpr hbl
  obtain ⟨hI, hq⟩ := hI
  refine lv_aload_n hx hb dL_law_804 rfl (lv_at hl 1 rfl) ?_
  refine lv_aload_n hx hb dL_law_805 rfl (lv_at hl 0 rfl) ?_
  refine lv_iload_n hx hb dL_law_806 rfl (lv_at hl 3 rfl) ?_
  refine lv_iconst (v := 1) hx hb dL_law_807 (by decide) ?_
  refine lv_iadd hx hb dL_law_808 ?_
  refine lv_topi (fun y1 hy1 => ?_)
  have ey1 : y1.toInt = x.toInt + 1 := by rw [hy1, addI _ _ (by simp only [Int32.reduceToInt]; omega)]; rfl
  refine va_sld hx hb hX hbl hbA hI.2.2.1 (vp_in_iff.mpr ⟨by omega, by omega⟩) dL_law_809 ?_
  refine lv_topi (fun a2 ha2 => ?_)
  refine zlcall (con := zc_802) (zq_RL_98 X (zM_802 hw hm) (by decide) rfl rfl) rfl hI (As := [.ref h, .int a2]) (rest := []) ⟨⟨_, _, rfl, hk5.1, hk5.2⟩, ⟨_, rfl, bT _⟩, trivial⟩ (Nat.le_of_ble_eq_true rfl) hl.1 dL_law_810 (fun H locs w r hI hr hk hp => ?_)
  have hq := zrel_keep hk (by decide +kernel) hq
  have hr : zF2 (zok ks ad) [(0, (-2), (6))] r := hr
  obtain ⟨_, _, rfl, ⟨z3, rfl, lz3⟩, hr2⟩ := zst1 hr
  obtain rfl := zst0 hr2
  dsimp only at lz3
  dsimp only [List.cons_append, List.nil_append]
  refine lv_pop hx hb dL_law_813 rfl ?_
  refine lv_aload_n hx hb dL_law_814 rfl (lv_at hl 2 rfl) ?_
  refine lv_aload_n hx hb dL_law_815 rfl (lv_at hl 0 rfl) ?_
  refine lv_iload_n hx hb dL_law_816 rfl (lv_at hl 3 rfl) ?_
  refine lv_iconst (v := 1) hx hb dL_law_817 (by decide) ?_
  refine lv_iadd hx hb dL_law_818 ?_
  refine lv_topi (fun y4 hy4 => ?_)
  have ey4 : y4.toInt = x.toInt + 1 := by rw [hy4, addI _ _ (by simp only [Int32.reduceToInt]; omega)]; rfl
  refine va_sld hx hb hX hbl hbA hI.2.2.1 (vp_in_iff.mpr ⟨by omega, by omega⟩) dL_law_819 ?_
  refine lv_topi (fun a5 ha5 => ?_)
  refine zlcall (con := zc_1071) (zq_RL_101 X (zM_1071 hw hm) (by decide) rfl rfl) rfl hI (As := [.ref g, .int a5]) (rest := []) ⟨⟨_, _, rfl, hk6.1, hk6.2⟩, ⟨_, rfl, bT _⟩, trivial⟩ (Nat.le_of_ble_eq_true rfl) hl.1 dL_law_820 (fun H locs w r hI hr hk hp => ?_)
  have hq := zrel_keep hk (by decide +kernel) hq
  have hr : zF2 (zok ks ad) [(0, (-2), (6))] r := hr
  obtain ⟨_, _, rfl, ⟨z6, rfl, lz6⟩, hr2⟩ := zst1 hr
  obtain rfl := zst0 hr2
  dsimp only at lz6
  dsimp only [List.cons_append, List.nil_append]
  refine lv_pop hx hb dL_law_823 rfl ?_
  refine lv_goto (tgt := 2131) hx hb dL_law_824 (by decide) ?_
  exact hT ls _ _ _ hl ⟨hI, hq⟩
theorem law_21 {p : Program} {l : Launch} {e : Env} {s : State} {m : MethodId} {below : List Frame} {meth : Method} {c : Code} {Q : State → Prop} {D : va_G} {cI cZ cB cJ cR : ClassId} {ks ad : List Nat} {b L h g : Nat} {xs : Nat → Int32} (hZ : zLaw p l s m c D cI cZ cB cJ cR ks ad b L h g xs) (hm : zMan l D cI cZ cB cJ cR ks ad (zPsi ks ad)) {x : Int32} (hx0 : 0 ≤ x.toInt) (hx1 : x.toInt + 6 ≤ (L : Int)) (hT : ∀ (ls : Array Slot) (w : va_W) (H : Heap) (locs : List Loc), lv_has ls 4 [(0, .ref b), (1, .ref h), (2, .ref g), (3, .int x)] → zINV D cI cZ cB cJ cR ks ad s w H locs → W p l e room_1 s m #[Value.ref b] below meth c H locs 98 7042 Q (F0 m 2131 ls [])) {ls : Array Slot} {w : va_W} {H : Heap} {locs : List Loc} (hl : lv_has ls 4 [(0, .ref b), (1, .ref h), (2, .ref g), (3, .int x)]) (hI : zINV D cI cZ cB cJ cR ks ad s w H locs) : W p l e room_1 s m #[Value.ref b] below meth c H locs 98 7042 Q (F0 m 827 ls []) := by
  obtain ⟨X, hX, hbl, hL, hw, ⟨i5, hk5⟩, ⟨i6, hk6⟩⟩ := hZ
  have hx := X.1.1
  have hb := X.1.2.1
  have hbA : ¬ lwA s b := Nat.not_le.mpr hbl
  obtain ⟨hI, hq⟩ := hI
  refine lv_aload_n hx hb dL_law_827 rfl (lv_at hl 1 rfl) ?_
  refine zlcall (con := zc_823) (zq_RL_102 X (zM_823 hw hm) (by decide) rfl rfl) rfl hI (As := [.ref h]) (rest := []) ⟨⟨_, _, rfl, hk5.1, hk5.2⟩, trivial⟩ (Nat.le_of_ble_eq_true rfl) hl.1 dL_law_828 (fun H locs w r hI hr hk hp => ?_)
  have hq := zrel_keep hk (by decide +kernel) hq
  have hr : zF2 (zok ks ad) [(0, (-2147483648), (2147483647))] r := hr
  obtain ⟨_, _, rfl, ⟨z1, rfl, lz1⟩, hr2⟩ := zst1 hr
  obtain rfl := zst0 hr2
  dsimp only at lz1
  dsimp only [List.cons_append, List.nil_append]
  refine lv_pop hx hb dL_law_831 rfl ?_
  refine lv_aload_n hx hb dL_law_832 rfl (lv_at hl 2 rfl) ?_
  refine zlcall (con := zc_1165) (zq_RL_105 X (zM_1165 hw hm) (by decide) rfl rfl) rfl hI (As := [.ref g]) (rest := []) ⟨⟨_, _, rfl, hk6.1, hk6.2⟩, trivial⟩ (Nat.le_of_ble_eq_true rfl) hl.1 dL_law_833 (fun H locs w r hI hr hk hp => ?_)
  have hq := zrel_keep hk (by decide +kernel) hq
  have hr : zF2 (zok ks ad) [(0, (-2147483648), (2147483647))] r := hr
  obtain ⟨_, _, rfl, ⟨z2, rfl, lz2⟩, hr2⟩ := zst1 hr
  obtain rfl := zst0 hr2
  dsimp only at lz2
  dsimp only [List.cons_append, List.nil_append]
  refine lv_pop hx hb dL_law_836 rfl ?_
  refine lv_goto (tgt := 2131) hx hb dL_law_837 (by decide) ?_
  exact hT ls _ _ _ hl ⟨hI, hq⟩
theorem law_22 {p : Program} {l : Launch} {e : Env} {s : State} {m : MethodId} {below : List Frame} {meth : Method} {c : Code} {Q : State → Prop} {D : va_G} {cI cZ cB cJ cR : ClassId} {ks ad : List Nat} {b L h g : Nat} {xs : Nat → Int32} (hZ : zLaw p l s m c D cI cZ cB cJ cR ks ad b L h g xs) (hm : zMan l D cI cZ cB cJ cR ks ad (zPsi ks ad)) {x : Int32} (hx0 : 0 ≤ x.toInt) (hx1 : x.toInt + 6 ≤ (L : Int)) (hT : ∀ (ls : Array Slot) (w : va_W) (H : Heap) (locs : List Loc), lv_has ls 4 [(0, .ref b), (1, .ref h), (2, .ref g), (3, .int x)] → zINV D cI cZ cB cJ cR ks ad s w H locs → W p l e room_1 s m #[Value.ref b] below meth c H locs 98 7042 Q (F0 m 2131 ls [])) {ls : Array Slot} {w : va_W} {H : Heap} {locs : List Loc} (hl : lv_has ls 4 [(0, .ref b), (1, .ref h), (2, .ref g), (3, .int x)]) (hI : zINV D cI cZ cB cJ cR ks ad s w H locs) : W p l e room_1 s m #[Value.ref b] below meth c H locs 98 7042 Q (F0 m 840 ls []) := by
  obtain ⟨X, hX, hbl, hL, hw, ⟨i5, hk5⟩, ⟨i6, hk6⟩⟩ := hZ
  have hx := X.1.1
  have hb := X.1.2.1
  have hbA : ¬ lwA s b := Nat.not_le.mpr hbl
  obtain ⟨hI, hq⟩ := hI
  refine lv_aload_n hx hb dL_law_840 rfl (lv_at hl 1 rfl) ?_
  refine zlcall (con := zc_664) (zq_RL_106 X (zM_664 hw hm) (by decide) rfl rfl) rfl hI (As := [.ref h]) (rest := []) ⟨⟨_, _, rfl, hk5.1, hk5.2⟩, trivial⟩ (Nat.le_of_ble_eq_true rfl) hl.1 dL_law_841 (fun H locs w r hI hr hk hp => ?_)
  have hq := zrel_keep hk (by decide +kernel) hq
  have hr : zF2 (zok ks ad) [(0, (-2), (12))] r := hr
  obtain ⟨_, _, rfl, ⟨z1, rfl, lz1⟩, hr2⟩ := zst1 hr
  obtain rfl := zst0 hr2
  dsimp only at lz1
  dsimp only [List.cons_append, List.nil_append]
  refine lv_pop hx hb dL_law_844 rfl ?_
  refine lv_aload_n hx hb dL_law_845 rfl (lv_at hl 2 rfl) ?_
  refine zlcall (con := zc_881) (zq_RL_109 X (zM_881 hw hm) (by decide) rfl rfl) rfl hI (As := [.ref g]) (rest := []) ⟨⟨_, _, rfl, hk6.1, hk6.2⟩, trivial⟩ (Nat.le_of_ble_eq_true rfl) hl.1 dL_law_846 (fun H locs w r hI hr hk hp => ?_)
  have hq := zrel_keep hk (by decide +kernel) hq
  have hr : zF2 (zok ks ad) [(0, (-2147483648), (2147483647))] r := hr
  obtain ⟨_, _, rfl, ⟨z2, rfl, lz2⟩, hr2⟩ := zst1 hr
  obtain rfl := zst0 hr2
  dsimp only at lz2
  dsimp only [List.cons_append, List.nil_append]
  refine lv_pop hx hb dL_law_849 rfl ?_
  refine lv_goto (tgt := 2131) hx hb dL_law_850 (by decide) ?_
  exact hT ls _ _ _ hl ⟨hI, hq⟩
theorem law_23 {p : Program} {l : Launch} {e : Env} {s : State} {m : MethodId} {below : List Frame} {meth : Method} {c : Code} {Q : State → Prop} {D : va_G} {cI cZ cB cJ cR : ClassId} {ks ad : List Nat} {b L h g : Nat} {xs : Nat → Int32} (hZ : zLaw p l s m c D cI cZ cB cJ cR ks ad b L h g xs) (hm : zMan l D cI cZ cB cJ cR ks ad (zPsi ks ad)) {x : Int32} (hx0 : 0 ≤ x.toInt) (hx1 : x.toInt + 6 ≤ (L : Int)) (hT : ∀ (ls : Array Slot) (w : va_W) (H : Heap) (locs : List Loc), lv_has ls 4 [(0, .ref b), (1, .ref h), (2, .ref g), (3, .int x)] → zINV D cI cZ cB cJ cR ks ad s w H locs → W p l e room_1 s m #[Value.ref b] below meth c H locs 98 7042 Q (F0 m 2131 ls [])) {ls : Array Slot} {w : va_W} {H : Heap} {locs : List Loc} (hl : lv_has ls 4 [(0, .ref b), (1, .ref h), (2, .ref g), (3, .int x)]) (hI : zINV D cI cZ cB cJ cR ks ad s w H locs) : W p l e room_1 s m #[Value.ref b] below meth c H locs 98 7042 Q (F0 m 853 ls []) := by
  obtain ⟨X, hX, hbl, hL, hw, ⟨i5, hk5⟩, ⟨i6, hk6⟩⟩ := hZ
  have hx := X.1.1
  have hb := X.1.2.1
  have hbA : ¬ lwA s b := Nat.not_le.mpr hbl
  obtain ⟨hI, hq⟩ := hI
  refine lv_aload_n hx hb dL_law_853 rfl (lv_at hl 1 rfl) ?_
  refine zlcall (con := zc_649) (zq_RL_110 X (zM_649 hw hm) (by decide) rfl rfl) rfl hI (As := [.ref h]) (rest := []) ⟨⟨_, _, rfl, hk5.1, hk5.2⟩, trivial⟩ (Nat.le_of_ble_eq_true rfl) hl.1 dL_law_854 (fun H locs w r hI hr hk hp => ?_)
  have hq := zrel_keep hk (by decide +kernel) hq
  have hr : zF2 (zok ks ad) [(0, (-2147483648), (2147483647))] r := hr
  obtain ⟨_, _, rfl, ⟨z1, rfl, lz1⟩, hr2⟩ := zst1 hr
  obtain rfl := zst0 hr2
  dsimp only at lz1
  dsimp only [List.cons_append, List.nil_append]
  refine lv_pop hx hb dL_law_857 rfl ?_
  refine lv_aload_n hx hb dL_law_858 rfl (lv_at hl 2 rfl) ?_
  refine zlcall (con := zc_852) (zq_RL_113 X (zM_852 hw hm) (by decide) rfl rfl) rfl hI (As := [.ref g]) (rest := []) ⟨⟨_, _, rfl, hk6.1, hk6.2⟩, trivial⟩ (Nat.le_of_ble_eq_true rfl) hl.1 dL_law_859 (fun H locs w r hI hr hk hp => ?_)
  have hq := zrel_keep hk (by decide +kernel) hq
  have hr : zF2 (zok ks ad) [(0, (-2147483648), (2147483647))] r := hr
  obtain ⟨_, _, rfl, ⟨z2, rfl, lz2⟩, hr2⟩ := zst1 hr
  obtain rfl := zst0 hr2
  dsimp only at lz2
  dsimp only [List.cons_append, List.nil_append]
  refine lv_pop hx hb dL_law_862 rfl ?_
  refine lv_goto (tgt := 2131) hx hb dL_law_863 (by decide) ?_
  exact hT ls _ _ _ hl ⟨hI, hq⟩
