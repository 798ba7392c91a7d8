theorem law_24 {p : Program} {l : Launch} {e : Env} {s : State} {m : MethodId} {below : List Frame} {meth : Method} {c : Code} {Q : State → Prop} {D : va_G} {cI cZ cB cJ cR : ClassId} {ks ad : List Nat} {b L h g : Nat} {xs : Nat → Int32} (hZ : zLaw p l s m c D cI cZ cB cJ cR ks ad b L h g xs) (hm : zMan l D cI cZ cB cJ cR ks ad (zPsi ks ad)) {x : Int32} (hx0 : 0 ≤ x.toInt) (hx1 : x.toInt + 6 ≤ (L : Int)) (hT : ∀ (ls : Array Slot) (w : va_W) (H : Heap) (locs : List Loc), lv_has ls 4 [(0, .ref b), (1, .ref h), (2, .ref g), (3, .int x)] → zINV D cI cZ cB cJ cR ks ad s w H locs → W p l e room_1 s m #[Value.ref b] below meth c H locs 98 7042 Q (F0 m 2131 ls [])) {ls : Array Slot} {w : va_W} {H : Heap} {locs : List Loc} (hl : lv_has ls 4 [(0, .ref b), (1, .ref h), (2, .ref g), (3, .int x)]) (hI : zINV D cI cZ cB cJ cR ks ad s w H locs) : W p l e room_1 s m #[Value.ref b] below meth c H locs 98 7042 Q (F0 m 866 ls []) := by
  obtain ⟨X, hX, hbl, hL, hw, ⟨i5, hk5⟩, ⟨i6, hk6⟩⟩ := hZ
  have hx := X.1.1
  have hb := X.1.2.1
  have hbA : ¬ lwA s b := Nat.not_le.mpr hbl
  obtain ⟨hI, hq⟩ := hI
  refine lv_aload_n hx hb dL_law_866 rfl (lv_at hl 1 rfl) ?_
  refine zlcall (con := zc_816) (zq_RL_114 X (zM_816 hw hm) (by decide) rfl rfl) rfl hI (As := [.ref h]) (rest := []) ⟨⟨_, _, rfl, hk5.1, hk5.2⟩, trivial⟩ (Nat.le_of_ble_eq_true rfl) hl.1 dL_law_867 (fun H locs w r hI hr hk hp => ?_)
  have hq := zrel_keep hk (by decide +kernel) hq
  have hr : zF2 (zok ks ad) [(0, (-2), (69))] r := hr
  obtain ⟨_, _, rfl, ⟨z1, rfl, lz1⟩, hr2⟩ := zst1 hr
  obtain rfl := zst0 hr2
  dsimp only at lz1
  dsimp only [List.cons_append, List.nil_append]
  refine lv_pop hx hb dL_law_870 rfl ?_
  refine lv_aload_n hx hb dL_law_871 rfl (lv_at hl 2 rfl) ?_
  refine zlcall (con := zc_1158) (zq_RL_117 X (zM_1158 hw hm) (by decide) rfl rfl) rfl hI (As := [.ref g]) (rest := []) ⟨⟨_, _, rfl, hk6.1, hk6.2⟩, trivial⟩ (Nat.le_of_ble_eq_true rfl) hl.1 dL_law_872 (fun H locs w r hI hr hk hp => ?_)
  have hq := zrel_keep hk (by decide +kernel) hq
  have hr : zF2 (zok ks ad) [(0, (-2), (69))] r := hr
  obtain ⟨_, _, rfl, ⟨z2, rfl, lz2⟩, hr2⟩ := zst1 hr
  obtain rfl := zst0 hr2
  dsimp only at lz2
  dsimp only [List.cons_append, List.nil_append]
  refine lv_pop hx hb dL_law_875 rfl ?_
  refine lv_goto (tgt := 2131) hx hb dL_law_876 (by decide) ?_
  exact hT ls _ _ _ hl ⟨hI, hq⟩
theorem law_25 {p : Program} {l : Launch} {e : Env} {s : State} {m : MethodId} {below : List Frame} {meth : Method} {c : Code} {Q : State → Prop} {D : va_G} {cI cZ cB cJ cR : ClassId} {ks ad : List Nat} {b L h g : Nat} {xs : Nat → Int32} (hZ : zLaw p l s m c D cI cZ cB cJ cR ks ad b L h g xs) (hm : zMan l D cI cZ cB cJ cR ks ad (zPsi ks ad)) {x : Int32} (hx0 : 0 ≤ x.toInt) (hx1 : x.toInt + 6 ≤ (L : Int)) (hT : ∀ (ls : Array Slot) (w : va_W) (H : Heap) (locs : List Loc), lv_has ls 4 [(0, .ref b), (1, .ref h), (2, .ref g), (3, .int x)] → zINV D cI cZ cB cJ cR ks ad s w H locs → W p l e room_1 s m #[Value.ref b] below meth c H locs 98 7042 Q (F0 m 2131 ls [])) {ls : Array Slot} {w : va_W} {H : Heap} {locs : List Loc} (hl : lv_has ls 4 [(0, .ref b), (1, .ref h), (2, .ref g), (3, .int x)]) (hI : zINV D cI cZ cB cJ cR ks ad s w H locs) : W p l e room_1 s m #[Value.ref b] below meth c H locs 98 7042 Q (F0 m 879 ls []) := by
  obtain ⟨X, hX, hbl, hL, hw, ⟨i5, hk5⟩, ⟨i6, hk6⟩⟩ := hZ
  have hx := X.1.1
  have hb := X.1.2.1
  have hbA : ¬ lwA s b := Nat.not_le.mpr hbl
  obtain ⟨hI, hq⟩ := hI
  refine lv_aload_n hx hb dL_law_879 rfl (lv_at hl 1 rfl) ?_
  refine zlcall (con := zc_654) (zq_RL_118 X (zM_654 hw hm) (by decide) rfl rfl) rfl hI (As := [.ref h]) (rest := []) ⟨⟨_, _, rfl, hk5.1, hk5.2⟩, trivial⟩ (Nat.le_of_ble_eq_true rfl) hl.1 dL_law_880 (fun H locs w r hI hr hk hp => ?_)
  have hq := zrel_keep hk (by decide +kernel) hq
  have hr : zF2 (zok ks ad) [(0, (-2147483648), (2147483647))] r := hr
  obtain ⟨_, _, rfl, ⟨z1, rfl, lz1⟩, hr2⟩ := zst1 hr
  obtain rfl := zst0 hr2
  dsimp only at lz1
  dsimp only [List.cons_append, List.nil_append]
  refine lv_pop hx hb dL_law_883 rfl ?_
  refine lv_aload_n hx hb dL_law_884 rfl (lv_at hl 2 rfl) ?_
  refine zlcall (con := zc_873) (zq_RL_121 X (zM_873 hw hm) (by decide) rfl rfl) rfl hI (As := [.ref g]) (rest := []) ⟨⟨_, _, rfl, hk6.1, hk6.2⟩, trivial⟩ (Nat.le_of_ble_eq_true rfl) hl.1 dL_law_885 (fun H locs w r hI hr hk hp => ?_)
  have hq := zrel_keep hk (by decide +kernel) hq
  have hr : zF2 (zok ks ad) [(0, (-2), (47))] r := hr
  obtain ⟨_, _, rfl, ⟨z2, rfl, lz2⟩, hr2⟩ := zst1 hr
  obtain rfl := zst0 hr2
  dsimp only at lz2
  dsimp only [List.cons_append, List.nil_append]
  refine lv_pop hx hb dL_law_888 rfl ?_
  refine lv_goto (tgt := 2131) hx hb dL_law_889 (by decide) ?_
  exact hT ls _ _ _ hl ⟨hI, hq⟩
theorem law_26 {p : Program} {l : Launch} {e : Env} {s : State} {m : MethodId} {below : List Frame} {meth : Method} {c : Code} {Q : State → Prop} {D : va_G} {cI cZ cB cJ cR : ClassId} {ks ad : List Nat} {b L h g : Nat} {xs : Nat → Int32} (hZ : zLaw p l s m c D cI cZ cB cJ cR ks ad b L h g xs) (hm : zMan l D cI cZ cB cJ cR ks ad (zPsi ks ad)) {x : Int32} (hx0 : 0 ≤ x.toInt) (hx1 : x.toInt + 6 ≤ (L : Int)) (hT : ∀ (ls : Array Slot) (w : va_W) (H : Heap) (locs : List Loc), lv_has ls 4 [(0, .ref b), (1, .ref h), (2, .ref g), (3, .int x)] → zINV D cI cZ cB cJ cR ks ad s w H locs → W p l e room_1 s m #[Value.ref b] below meth c H locs 98 7042 Q (F0 m 2131 ls [])) {ls : Array Slot} {w : va_W} {H : Heap} {locs : List Loc} (hl : lv_has ls 4 [(0, .ref b), (1, .ref h), (2, .ref g), (3, .int x)]) (hI : zINV D cI cZ cB cJ cR ks ad s w H locs) : W p l e room_1 s m #[Value.ref b] below meth c H locs 98 7042 Q (F0 m 892 ls []) := by
  obtain ⟨X, hX, hbl, hL, hw, ⟨i5, hk5⟩, ⟨i6, hk6⟩⟩ := hZ
  have hx := X.1.1
  have hb := X.1.2.1
  have hbA : ¬ lwA s b := Nat.not_le.mpr hbl
  obtain ⟨hI, hq⟩ := hI
  refine lv_aload_n hx hb dL_law_892 rfl (lv_at hl 1 rfl) ?_
  refine lv_aload_n hx hb dL_law_893 rfl (lv_at hl 0 rfl) ?_
  refine lv_iload_n hx hb dL_law_894 rfl (lv_at hl 3 rfl) ?_
  refine lv_iconst (v := 1) hx hb dL_law_895 (by decide) ?_
  refine lv_iadd hx hb dL_law_896 ?_
  refine lv_topi (fun y1 hy1 => ?_)
  have ey1 : y1.toInt = x.toInt + 1 := by rw [hy1, addI _ _ (by simp only [Int32.reduceToInt]; omega)]; rfl
  refine va_sld hx hb hX hbl hbA hI.2.2.1 (vp_in_iff.mpr ⟨by omega, by omega⟩) dL_law_897 ?_
  refine lv_topi (fun a2 ha2 => ?_)
  refine lv_aload_n hx hb dL_law_898 rfl (lv_at hl 0 rfl) ?_
  refine lv_iload_n hx hb dL_law_899 rfl (lv_at hl 3 rfl) ?_
  refine lv_iconst (v := 2) hx hb dL_law_900 (by decide) ?_
  refine lv_iadd hx hb dL_law_901 ?_
  refine lv_topi (fun y3 hy3 => ?_)
  have ey3 : y3.toInt = x.toInt + 2 := by rw [hy3, addI _ _ (by simp only [Int32.reduceToInt]; omega)]; rfl
  refine va_sld hx hb hX hbl hbA hI.2.2.1 (vp_in_iff.mpr ⟨by omega, by omega⟩) dL_law_902 ?_
  refine lv_topi (fun a4 ha4 => ?_)
  refine zlcall (con := zc_764) (zq_RL_122 X (zM_764 hw hm) (by decide) rfl rfl) rfl hI (As := [.ref h, .int a2, .int a4]) (rest := []) ⟨⟨_, _, rfl, hk5.1, hk5.2⟩, ⟨_, rfl, bT _⟩, ⟨_, rfl, bT _⟩, trivial⟩ (Nat.le_of_ble_eq_true rfl) hl.1 dL_law_903 (fun H locs w r hI hr hk hp => ?_)
  have hq := zrel_keep hk (by decide +kernel) hq
  have hr : zF2 (zok ks ad) [(0, (-2), (63))] r := hr
  obtain ⟨_, _, rfl, ⟨z5, rfl, lz5⟩, hr2⟩ := zst1 hr
  obtain rfl := zst0 hr2
  dsimp only at lz5
  dsimp only [List.cons_append, List.nil_append]
  refine lv_pop hx hb dL_law_906 rfl ?_
  refine lv_aload_n hx hb dL_law_907 rfl (lv_at hl 2 rfl) ?_
  refine lv_aload_n hx hb dL_law_908 rfl (lv_at hl 0 rfl) ?_
  refine lv_iload_n hx hb dL_law_909 rfl (lv_at hl 3 rfl) ?_
  refine lv_iconst (v := 1) hx hb dL_law_910 (by decide) ?_
  refine lv_iadd hx hb dL_law_911 ?_
  refine lv_topi (fun y6 hy6 => ?_)
  have ey6 : y6.toInt = x.toInt + 1 := by rw [hy6, addI _ _ (by simp only [Int32.reduceToInt]; omega)]; rfl
  refine va_sld hx hb hX hbl hbA hI.2.2.1 (vp_in_iff.mpr ⟨by omega, by omega⟩) dL_law_912 ?_
  refine lv_topi (fun a7 ha7 => ?_)
  refine lv_aload_n hx hb dL_law_913 rfl (lv_at hl 0 rfl) ?_
  refine lv_iload_n hx hb dL_law_914 rfl (lv_at hl 3 rfl) ?_
  refine lv_iconst (v := 2) hx hb dL_law_915 (by decide) ?_
  refine lv_iadd hx hb dL_law_916 ?_
  refine lv_topi (fun y8 hy8 => ?_)
  have ey8 : y8.toInt = x.toInt + 2 := by rw [hy8, addI _ _ (by simp only [Int32.reduceToInt]; omega)]; rfl
  refine va_sld hx hb hX hbl hbA hI.2.2.1 (vp_in_iff.mpr ⟨by omega, by omega⟩) dL_law_917 ?_
  refine lv_topi (fun a9 ha9 => ?_)
  refine zlcall (con := zc_1058) (zq_RL_125 X (zM_1058 hw hm) (by decide) rfl rfl) rfl hI (As := [.ref g, .int a7, .int a9]) (rest := []) ⟨⟨_, _, rfl, hk6.1, hk6.2⟩, ⟨_, rfl, bT _⟩, ⟨_, rfl, bT _⟩, trivial⟩ (Nat.le_of_ble_eq_true rfl) hl.1 dL_law_918 (fun H locs w r hI hr hk hp => ?_)
  have hq := zrel_keep hk (by decide +kernel) hq
  have hr : zF2 (zok ks ad) [(0, (-2147483648), (2147483647))] r := hr
  obtain ⟨_, _, rfl, ⟨z10, rfl, lz10⟩, hr2⟩ := zst1 hr
  obtain rfl := zst0 hr2
  dsimp only at lz10
  dsimp only [List.cons_append, List.nil_append]
  refine lv_pop hx hb dL_law_921 rfl ?_
  refine lv_goto (tgt := 2131) hx hb dL_law_922 (by decide) ?_
  exact hT ls _ _ _ hl ⟨hI, hq⟩
theorem law_27 {p : Program} {l : Launch} {e : Env} {s : State} {m : MethodId} {below : List Frame} {meth : Method} {c : Code} {Q : State → Prop} {D : va_G} {cI cZ cB cJ cR : ClassId} {ks ad : List Nat} {b L h g : Nat} {xs : Nat → Int32} (hZ : zLaw p l s m c D cI cZ cB cJ cR ks ad b L h g xs) (hm : zMan l D cI cZ cB cJ cR ks ad (zPsi ks ad)) {x : Int32} (hx0 : 0 ≤ x.toInt) (hx1 : x.toInt + 6 ≤ (L : Int)) (hT : ∀ (ls : Array Slot) (w : va_W) (H : Heap) (locs : List Loc), lv_has ls 4 [(0, .ref b), (1, .ref h), (2, .ref g), (3, .int x)] → zINV D cI cZ cB cJ cR ks ad s w H locs → W p l e room_1 s m #[Value.ref b] below meth c H locs 98 7042 Q (F0 m 2131 ls [])) {ls : Array Slot} {w : va_W} {H : Heap} {locs : List Loc} (hl : lv_has ls 4 [(0, .ref b), (1, .ref h), (2, .ref g), (3, .int x)]) (hI : zINV D cI cZ cB cJ cR ks ad s w H locs) : W p l e room_1 s m #[Value.ref b] below meth c H locs 98 7042 Q (F0 m 925 ls []) := by
  obtain ⟨X, hX, hbl, hL, hw, ⟨i5, hk5⟩, ⟨i6, hk6⟩⟩ := hZ
  have hx := X.1.1
  have hb := X.1.2.1
  have hbA : ¬ lwA s b := Nat.not_le.mpr hbl
  obtain ⟨hI, hq⟩ := hI
  refine lv_aload_n hx hb dL_law_925 rfl (lv_at hl 1 rfl) ?_
  refine lv_aload_n hx hb dL_law_926 rfl (lv_at hl 0 rfl) ?_
  refine lv_iload_n hx hb dL_law_927 rfl (lv_at hl 3 rfl) ?_
  refine lv_iconst (v := 1) hx hb dL_law_928 (by decide) ?_
  refine lv_iadd hx hb dL_law_929 ?_
  refine lv_topi (fun y1 hy1 => ?_)
  have ey1 : y1.toInt = x.toInt + 1 := by rw [hy1, addI _ _ (by simp only [Int32.reduceToInt]; omega)]; rfl
  refine va_sld hx hb hX hbl hbA hI.2.2.1 (vp_in_iff.mpr ⟨by omega, by omega⟩) dL_law_930 ?_
  refine lv_topi (fun a2 ha2 => ?_)
  refine zlcall (con := zc_664) (zq_RL_126 X (zM_664 hw hm) (by decide) rfl rfl) rfl hI (As := [.ref h, .int a2]) (rest := []) ⟨⟨_, _, rfl, hk5.1, hk5.2⟩, ⟨_, rfl, bT _⟩, trivial⟩ (Nat.le_of_ble_eq_true rfl) hl.1 dL_law_931 (fun H locs w r hI hr hk hp => ?_)
  have hq := zrel_keep hk (by decide +kernel) hq
  have hr : zF2 (zok ks ad) [(0, (-2), (6))] r := hr
  obtain ⟨_, _, rfl, ⟨z3, rfl, lz3⟩, hr2⟩ := zst1 hr
  obtain rfl := zst0 hr2
  dsimp only at lz3
  dsimp only [List.cons_append, List.nil_append]
  refine lv_pop hx hb dL_law_934 rfl ?_
  refine lv_aload_n hx hb dL_law_935 rfl (lv_at hl 2 rfl) ?_
  refine lv_aload_n hx hb dL_law_936 rfl (lv_at hl 0 rfl) ?_
  refine lv_iload_n hx hb dL_law_937 rfl (lv_at hl 3 rfl) ?_
  refine lv_iconst (v := 1) hx hb dL_law_938 (by decide) ?_
  refine lv_iadd hx hb dL_law_939 ?_
  refine lv_topi (fun y4 hy4 => ?_)
  have ey4 : y4.toInt = x.toInt + 1 := by rw [hy4, addI _ _ (by simp only [Int32.reduceToInt]; omega)]; rfl
  refine va_sld hx hb hX hbl hbA hI.2.2.1 (vp_in_iff.mpr ⟨by omega, by omega⟩) dL_law_940 ?_
  refine lv_topi (fun a5 ha5 => ?_)
  refine zlcall (con := zc_884) (zq_RL_129 X (zM_884 hw hm) (by decide) rfl rfl) rfl hI (As := [.ref g, .int a5]) (rest := []) ⟨⟨_, _, rfl, hk6.1, hk6.2⟩, ⟨_, rfl, bT _⟩, trivial⟩ (Nat.le_of_ble_eq_true rfl) hl.1 dL_law_941 (fun H locs w r hI hr hk hp => ?_)
  have hq := zrel_keep hk (by decide +kernel) hq
  have hr : zF2 (zok ks ad) [(0, (-2), (6))] r := hr
  obtain ⟨_, _, rfl, ⟨z6, rfl, lz6⟩, hr2⟩ := zst1 hr
  obtain rfl := zst0 hr2
  dsimp only at lz6
  dsimp only [List.cons_append, List.nil_append]
  refine lv_pop hx hb dL_law_944 rfl ?_
  refine lv_goto (tgt := 2131) hx hb dL_law_945 (by decide) ?_
  exact hT ls _ _ _ hl ⟨hI, hq⟩
theorem law_28 {p : Program} {l : Launch} {e : Env} {s : State} {m : MethodId} {below : List Frame} {meth : Method} {c : Code} {Q : State → Prop} {D : va_G} {cI cZ cB cJ cR : ClassId} {ks ad : List Nat} {b L h g : Nat} {xs : Nat → Int32} (hZ : zLaw p l s m c D cI cZ cB cJ cR ks ad b L h g xs) (hm : zMan l D cI cZ cB cJ cR ks ad (zPsi ks ad)) {x : Int32} (hx0 : 0 ≤ x.toInt) (hx1 : x.toInt + 6 ≤ (L : Int)) (hT : ∀ (ls : Array Slot) (w : va_W) (H : Heap) (locs : List Loc), lv_has ls 4 [(0, .ref b), (1, .ref h), (2, .ref g), (3, .int x)] → zINV D cI cZ cB cJ cR ks ad s w H locs → W p l e room_1 s m #[Value.ref b] below meth c H locs 98 7042 Q (F0 m 2131 ls [])) {ls : Array Slot} {w : va_W} {H : Heap} {locs : List Loc} (hl : lv_has ls 4 [(0, .ref b), (1, .ref h), (2, .ref g), (3, .int x)]) (hI : zINV D cI cZ cB cJ cR ks ad s w H locs) : W p l e room_1 s m #[Value.ref b] below meth c H locs 98 7042 Q (F0 m 948 ls []) := by
  obtain ⟨X, hX, hbl, hL, hw, ⟨i5, hk5⟩, ⟨i6, hk6⟩⟩ := hZ
  have hx := X.1.1
  have hb := X.1.2.1
  have hbA : ¬ lwA s b := Nat.not_le.mpr hbl
  obtain ⟨hI, hq⟩ := hI
  refine lv_aload_n hx hb dL_law_948 rfl (lv_at hl 1 rfl) ?_
  refine lv_aload_n hx hb dL_law_949 rfl (lv_at hl 0 rfl) ?_
  refine lv_iload_n hx hb dL_law_950 rfl (lv_at hl 3 rfl) ?_
  refine lv_iconst (v := 1) hx hb dL_law_951 (by decide) ?_
  refine lv_iadd hx hb dL_law_952 ?_
  refine lv_topi (fun y1 hy1 => ?_)
  have ey1 : y1.toInt = x.toInt + 1 := by rw [hy1, addI _ _ (by simp only [Int32.reduceToInt]; omega)]; rfl
  refine va_sld hx hb hX hbl hbA hI.2.2.1 (vp_in_iff.mpr ⟨by omega, by omega⟩) dL_law_953 ?_
  refine lv_topi (fun a2 ha2 => ?_)
  refine lv_aload_n hx hb dL_law_954 rfl (lv_at hl 0 rfl) ?_
  refine lv_iload_n hx hb dL_law_955 rfl (lv_at hl 3 rfl) ?_
  refine lv_iconst (v := 2) hx hb dL_law_956 (by decide) ?_
  refine lv_iadd hx hb dL_law_957 ?_
  refine lv_topi (fun y3 hy3 => ?_)
  have ey3 : y3.toInt = x.toInt + 2 := by rw [hy3, addI _ _ (by simp only [Int32.reduceToInt]; omega)]; rfl
  refine va_sld hx hb hX hbl hbA hI.2.2.1 (vp_in_iff.mpr ⟨by omega, by omega⟩) dL_law_958 ?_
  refine lv_topi (fun a4 ha4 => ?_)
  refine zlcall (con := zc_821) (zq_RL_130 X (zM_821 hw hm) (by decide) rfl rfl) rfl hI (As := [.ref h, .int a2, .int a4]) (rest := []) ⟨⟨_, _, rfl, hk5.1, hk5.2⟩, ⟨_, rfl, bT _⟩, ⟨_, rfl, bT _⟩, trivial⟩ (Nat.le_of_ble_eq_true rfl) hl.1 dL_law_959 (fun H locs w r hI hr hk hp => ?_)
  have hq := zrel_keep hk (by decide +kernel) hq
  have hr : zF2 (zok ks ad) [(0, (-2147483648), (2147483647))] r := hr
  obtain ⟨_, _, rfl, ⟨z5, rfl, lz5⟩, hr2⟩ := zst1 hr
  obtain rfl := zst0 hr2
  dsimp only at lz5
  dsimp only [List.cons_append, List.nil_append]
  refine lv_pop hx hb dL_law_962 rfl ?_
  refine lv_aload_n hx hb dL_law_963 rfl (lv_at hl 2 rfl) ?_
  refine lv_aload_n hx hb dL_law_964 rfl (lv_at hl 0 rfl) ?_
  refine lv_iload_n hx hb dL_law_965 rfl (lv_at hl 3 rfl) ?_
  refine lv_iconst (v := 1) hx hb dL_law_966 (by decide) ?_
  refine lv_iadd hx hb dL_law_967 ?_
  refine lv_topi (fun y6 hy6 => ?_)
  have ey6 : y6.toInt = x.toInt + 1 := by rw [hy6, addI _ _ (by simp only [Int32.reduceToInt]; omega)]; rfl
  refine va_sld hx hb hX hbl hbA hI.2.2.1 (vp_in_iff.mpr ⟨by omega, by omega⟩) dL_law_968 ?_
  refine lv_topi (fun a7 ha7 => ?_)
  refine lv_aload_n hx hb dL_law_969 rfl (lv_at hl 0 rfl) ?_
  refine lv_iload_n hx hb dL_law_970 rfl (lv_at hl 3 rfl) ?_
  refine lv_iconst (v := 2) hx hb dL_law_971 (by decide) ?_
  refine lv_iadd hx hb dL_law_972 ?_
  refine lv_topi (fun y8 hy8 => ?_)
  have ey8 : y8.toInt = x.toInt + 2 := by rw [hy8, addI _ _ (by simp only [Int32.reduceToInt]; omega)]; rfl
  refine va_sld hx hb hX hbl hbA hI.2.2.1 (vp_in_iff.mpr ⟨by omega, by omega⟩) dL_law_973 ?_
  refine lv_topi (fun a9 ha9 => ?_)
  refine zlcall (con := zc_1185) (zq_RL_133 X (zM_1185 hw hm) (by decide) rfl rfl) rfl hI (As := [.ref g, .int a7, .int a9]) (rest := []) ⟨⟨_, _, rfl, hk6.1, hk6.2⟩, ⟨_, rfl, bT _⟩, ⟨_, rfl, bT _⟩, trivial⟩ (Nat.le_of_ble_eq_true rfl) hl.1 dL_law_974 (fun H locs w r hI hr hk hp => ?_)
  have hq := zrel_keep hk (by decide +kernel) hq
  have hr : zF2 (zok ks ad) [(0, (-2147483648), (2147483647))] r := hr
  obtain ⟨_, _, rfl, ⟨z10, rfl, lz10⟩, hr2⟩ := zst1 hr
  obtain rfl := zst0 hr2
  dsimp only at lz10
  dsimp only [List.cons_append, List.nil_append]
  refine lv_pop hx hb dL_law_977 rfl ?_
  refine lv_goto (tgt := 2131) hx hb dL_law_978 (by decide) ?_
  exact hT ls _ _ _ hl ⟨hI, hq⟩
theorem law_29 {p : Program} {l : Launch} {e : Env} {s : State} {m : MethodId} {below : List Frame} {meth : Method} {c : Code} {Q : State → Prop} {D : va_G} {cI cZ cB cJ cR : ClassId} {ks ad : List Nat} {b L h g : Nat} {xs : Nat → Int32} (hZ : zLaw p l s m c D cI cZ cB cJ cR ks ad b L h g xs) (hm : zMan l D cI cZ cB cJ cR ks ad (zPsi ks ad)) {x : Int32} (hx0 : 0 ≤ x.toInt) (hx1 : x.toInt + 6 ≤ (L : Int)) (hT : ∀ (ls : Array Slot) (w : va_W) (H : Heap) (locs : List Loc), lv_has ls 4 [(0, .ref b), (1, .ref h), (2, .ref g), (3, .int x)] → zINV D cI cZ cB cJ cR ks ad s w H locs → W p l e room_1 s m #[Value.ref b] below meth c H locs 98 7042 Q (F0 m 2131 ls [])) {ls : Array Slot} {w : va_W} {H : Heap} {locs : List Loc} (hl : lv_has ls 4 [(0, .ref b), (1, .ref h), (2, .ref g), (3, .int x)]) (hI : zINV D cI cZ cB cJ cR ks ad s w H locs) : W p l e room_1 s m #[Value.ref b] below meth c H locs 98 7042 Q (F0 m 981 ls []) := by
  obtain ⟨X, hX, hbl, hL, hw, ⟨i5, hk5⟩, ⟨i6, hk6⟩⟩ := hZ
  have hx := X.1.1
  have hb := X.1.2.1
  have hbA : ¬ lwA s b := Nat.not_le.mpr hbl
  obtain ⟨hI, hq⟩ := hI
  refine lv_aload_n hx hb dL_law_981 rfl (lv_at hl 1 rfl) ?_
  refine lv_aload_n hx hb dL_law_982 rfl (lv_at hl 0 rfl) ?_
  refine lv_iload_n hx hb dL_law_983 rfl (lv_at hl 3 rfl) ?_
  refine lv_iconst (v := 1) hx hb dL_law_984 (by decide) ?_
  refine lv_iadd hx hb dL_law_985 ?_
  refine lv_topi (fun y1 hy1 => ?_)
  have ey1 : y1.toInt = x.toInt + 1 := by rw [hy1, addI _ _ (by simp only [Int32.reduceToInt]; omega)]; rfl
  refine va_sld hx hb hX hbl hbA hI.2.2.1 (vp_in_iff.mpr ⟨by omega, by omega⟩) dL_law_986 ?_
  refine lv_topi (fun a2 ha2 => ?_)
  refine zlcall (con := zc_650) (zq_RL_134 X (zM_650 hw hm) (by decide) rfl rfl) rfl hI (As := [.ref h, .int a2]) (rest := []) ⟨⟨_, _, rfl, hk5.1, hk5.2⟩, ⟨_, rfl, bT _⟩, trivial⟩ (Nat.le_of_ble_eq_true rfl) hl.1 dL_law_987 (fun H locs w r hI hr hk hp => ?_)
  have hq := zrel_keep hk (by decide +kernel) hq
  have hr : zF2 (zok ks ad) [(0, (-2147483648), (2147483647))] r := hr
  obtain ⟨_, _, rfl, ⟨z3, rfl, lz3⟩, hr2⟩ := zst1 hr
  obtain rfl := zst0 hr2
  dsimp only at lz3
  dsimp only [List.cons_append, List.nil_append]
  refine lv_pop hx hb dL_law_990 rfl ?_
  refine lv_aload_n hx hb dL_law_991 rfl (lv_at hl 2 rfl) ?_
  refine lv_aload_n hx hb dL_law_992 rfl (lv_at hl 0 rfl) ?_
  refine lv_iload_n hx hb dL_law_993 rfl (lv_at hl 3 rfl) ?_
  refine lv_iconst (v := 1) hx hb dL_law_994 (by decide) ?_
  refine lv_iadd hx hb dL_law_995 ?_
  refine lv_topi (fun y4 hy4 => ?_)
  have ey4 : y4.toInt = x.toInt + 1 := by rw [hy4, addI _ _ (by simp only [Int32.reduceToInt]; omega)]; rfl
  refine va_sld hx hb hX hbl hbA hI.2.2.1 (vp_in_iff.mpr ⟨by omega, by omega⟩) dL_law_996 ?_
  refine lv_topi (fun a5 ha5 => ?_)
  refine zlcall (con := zc_866) (zq_RL_137 X (zM_866 hw hm) (by decide) rfl rfl) rfl hI (As := [.ref g, .int a5]) (rest := []) ⟨⟨_, _, rfl, hk6.1, hk6.2⟩, ⟨_, rfl, bT _⟩, trivial⟩ (Nat.le_of_ble_eq_true rfl) hl.1 dL_law_997 (fun H locs w r hI hr hk hp => ?_)
  have hq := zrel_keep hk (by decide +kernel) hq
  have hr : zF2 (zok ks ad) [(0, (-2147483648), (2147483647))] r := hr
  obtain ⟨_, _, rfl, ⟨z6, rfl, lz6⟩, hr2⟩ := zst1 hr
  obtain rfl := zst0 hr2
  dsimp only at lz6
  dsimp only [List.cons_append, List.nil_append]
  refine lv_pop hx hb dL_law_1000 rfl ?_
  refine lv_goto (tgt := 2131) hx hb dL_law_1001 (by decide) ?_
  exact hT ls _ _ _ hl ⟨hI, hq⟩
theorem law_30 {p : Program} {l : Launch} {e : Env} {s : State} {m : MethodId} {below : List Frame} {meth : Method} {c : Code} {Q : State → Prop} {D : va_G} {cI cZ cB cJ cR : ClassId} {ks ad : List Nat} {b L h g : Nat} {xs : Nat → Int32} (hZ : zLaw p l s m c D cI cZ cB cJ cR ks ad b L h g xs) (hm : zMan l D cI cZ cB cJ cR ks ad (zPsi ks ad)) {x : Int32} (hx0 : 0 ≤ x.toInt) (hx1 : x.toInt + 6 ≤ (L : Int)) (hT : ∀ (ls : Array Slot) (w : va_W) (H : Heap) (locs : List Loc), lv_has ls 4 [(0, .ref b), (1, .ref h), (2, .ref g), (3, .int x)] → zINV D cI cZ cB cJ cR ks ad s w H locs → W p l e room_1 s m #[Value.ref b] below meth c H locs 98 7042 Q (F0 m 2131 ls [])) {ls : Array Slot} {w : va_W} {H : Heap} {locs : List Loc} (hl : lv_has ls 4 [(0, .ref b), (1, .ref h), (2, .ref g), (3, .int x)]) (hI : zINV D cI cZ cB cJ cR ks ad s w H locs) : W p l e room_1 s m #[Value.ref b] below meth c H locs 98 7042 Q (F0 m 1004 ls []) := by
  obtain ⟨X, hX, hbl, hL, hw, ⟨i5, hk5⟩, ⟨i6, hk6⟩⟩ := hZ
  have hx := X.1.1
  have hb := X.1.2.1
  have hbA : ¬ lwA s b := Nat.not_le.mpr hbl
  obtain ⟨hI, hq⟩ := hI
  refine lv_aload_n hx hb dL_law_1004 rfl (lv_at hl 1 rfl) ?_
  refine lv_aload_n hx hb dL_law_1005 rfl (lv_at hl 0 rfl) ?_
  refine lv_iload_n hx hb dL_law_1006 rfl (lv_at hl 3 rfl) ?_
  refine lv_iconst (v := 1) hx hb dL_law_1007 (by decide) ?_
  refine lv_iadd hx hb dL_law_1008 ?_
  refine lv_topi (fun y1 hy1 => ?_)
  have ey1 : y1.toInt = x.toInt + 1 := by rw [hy1, addI _ _ (by simp only [Int32.reduceToInt]; omega)]; rfl
  refine va_sld hx hb hX hbl hbA hI.2.2.1 (vp_in_iff.mpr ⟨by omega, by omega⟩) dL_law_1009 ?_
  refine lv_topi (fun a2 ha2 => ?_)
  refine zlcall (con := zc_649) (zq_RL_138 X (zM_649 hw hm) (by decide) rfl rfl) rfl hI (As := [.ref h, .int a2]) (rest := []) ⟨⟨_, _, rfl, hk5.1, hk5.2⟩, ⟨_, rfl, bT _⟩, trivial⟩ (Nat.le_of_ble_eq_true rfl) hl.1 dL_law_1010 (fun H locs w r hI hr hk hp => ?_)
  have hq := zrel_keep hk (by decide +kernel) hq
  have hr : zF2 (zok ks ad) [(0, (-2), (9))] r := hr
  obtain ⟨_, _, rfl, ⟨z3, rfl, lz3⟩, hr2⟩ := zst1 hr
  obtain rfl := zst0 hr2
  dsimp only at lz3
  dsimp only [List.cons_append, List.nil_append]
  refine lv_pop hx hb dL_law_1013 rfl ?_
  refine lv_aload_n hx hb dL_law_1014 rfl (lv_at hl 2 rfl) ?_
  refine lv_aload_n hx hb dL_law_1015 rfl (lv_at hl 0 rfl) ?_
  refine lv_iload_n hx hb dL_law_1016 rfl (lv_at hl 3 rfl) ?_
  refine lv_iconst (v := 1) hx hb dL_law_1017 (by decide) ?_
  refine lv_iadd hx hb dL_law_1018 ?_
  refine lv_topi (fun y4 hy4 => ?_)
  have ey4 : y4.toInt = x.toInt + 1 := by rw [hy4, addI _ _ (by simp only [Int32.reduceToInt]; omega)]; rfl
  refine va_sld hx hb hX hbl hbA hI.2.2.1 (vp_in_iff.mpr ⟨by omega, by omega⟩) dL_law_1019 ?_
  refine lv_topi (fun a5 ha5 => ?_)
  refine zlcall (con := zc_864) (zq_RL_141 X (zM_864 hw hm) (by decide) rfl rfl) rfl hI (As := [.ref g, .int a5]) (rest := []) ⟨⟨_, _, rfl, hk6.1, hk6.2⟩, ⟨_, rfl, bT _⟩, trivial⟩ (Nat.le_of_ble_eq_true rfl) hl.1 dL_law_1020 (fun H locs w r hI hr hk hp => ?_)
  have hq := zrel_keep hk (by decide +kernel) hq
  have hr : zF2 (zok ks ad) [(0, (-2), (9))] r := hr
  obtain ⟨_, _, rfl, ⟨z6, rfl, lz6⟩, hr2⟩ := zst1 hr
  obtain rfl := zst0 hr2
  dsimp only at lz6
  dsimp only [List.cons_append, List.nil_append]
  refine lv_pop hx hb dL_law_1023 rfl ?_
  refine lv_goto (tgt := 2131) hx hb dL_law_1024 (by decide) ?_
  exact hT ls _ _ _ hl ⟨hI, hq⟩
theorem law_31 {p : Program} {l : Launch} {e : Env} {s : State} {m : MethodId} {below : List Frame} {meth : Method} {c : Code} {Q : State → Prop} {D : va_G} {cI cZ cB cJ cR : ClassId} {ks ad : List Nat} {b L h g : Nat} {xs : Nat → Int32} (hZ : zLaw p l s m c D cI cZ cB cJ cR ks ad b L h g xs) (hm : zMan l D cI cZ cB cJ cR ks ad (zPsi ks ad)) {x : Int32} (hx0 : 0 ≤ x.toInt) (hx1 : x.toInt + 6 ≤ (L : Int)) (hT : ∀ (ls : Array Slot) (w : va_W) (H : Heap) (locs : List Loc), lv_has ls 4 [(0, .ref b), (1, .ref h), (2, .ref g), (3, .int x)] → zINV D cI cZ cB cJ cR ks ad s w H locs → W p l e room_1 s m #[Value.ref b] below meth c H locs 98 7042 Q (F0 m 2131 ls [])) {ls : Array Slot} {w : va_W} {H : Heap} {locs : List Loc} (hl : lv_has ls 4 [(0, .ref b), (1, .ref h), (2, .ref g), (3, .int x)]) (hI : zINV D cI cZ cB cJ cR ks ad s w H locs) : W p l e room_1 s m #[Value.ref b] below meth c H locs 98 7042 Q (F0 m 1027 ls []) := by
  obtain ⟨X, hX, hbl, hL, hw, ⟨i5, hk5⟩, ⟨i6, hk6⟩⟩ := hZ
  have hx := X.1.1
  have hb := X.1.2.1
  have hbA : ¬ lwA s b := Nat.not_le.mpr hbl
  obtain ⟨hI, hq⟩ := hI
  refine lv_aload_n hx hb dL_law_1027 rfl (lv_at hl 1 rfl) ?_
  refine zlcall (con := zc_640) (zq_RL_142 X (zM_640 hw hm) (by decide) rfl rfl) rfl hI (As := [.ref h]) (rest := []) ⟨⟨_, _, rfl, hk5.1, hk5.2⟩, trivial⟩ (Nat.le_of_ble_eq_true rfl) hl.1 dL_law_1028 (fun H locs w r hI hr hk hp => ?_)
  have hq := zrel_keep hk (by decide +kernel) hq
  have hr : zF2 (zok ks ad) [(0, (-2), (11))] r := hr
  obtain ⟨_, _, rfl, ⟨z1, rfl, lz1⟩, hr2⟩ := zst1 hr
  obtain rfl := zst0 hr2
  dsimp only at lz1
  dsimp only [List.cons_append, List.nil_append]
  refine lv_pop hx hb dL_law_1031 rfl ?_
  refine lv_aload_n hx hb dL_law_1032 rfl (lv_at hl 2 rfl) ?_
  refine zlcall (con := zc_840) (zq_RL_145 X (zM_840 hw hm) (by decide) rfl rfl) rfl hI (As := [.ref g]) (rest := []) ⟨⟨_, _, rfl, hk6.1, hk6.2⟩, trivial⟩ (Nat.le_of_ble_eq_true rfl) hl.1 dL_law_1033 (fun H locs w r hI hr hk hp => ?_)
  have hq := zrel_keep hk (by decide +kernel) hq
  have hr : zF2 (zok ks ad) [(0, (-2), (11))] r := hr
  obtain ⟨_, _, rfl, ⟨z2, rfl, lz2⟩, hr2⟩ := zst1 hr
  obtain rfl := zst0 hr2
  dsimp only at lz2
  dsimp only [List.cons_append, List.nil_append]
  refine lv_pop hx hb dL_law_1036 rfl ?_
  refine lv_goto (tgt := 2131) hx hb dL_law_1037 (by decide) ?_
  exact hT ls _ _ _ hl ⟨hI, hq⟩
theorem law_32 {p : Program} {l : Launch} {e : Env} {s : State} {m : MethodId} {below : List Frame} {meth : Method} {c : Code} {Q : State → Prop} {D : va_G} {cI cZ cB cJ cR : ClassId} {ks ad : List Nat} {b L h g : Nat} {xs : Nat → Int32} (hZ : zLaw p l s m c D cI cZ cB cJ cR ks ad b L h g xs) (hm : zMan l D cI cZ cB cJ cR ks ad (zPsi ks ad)) {x : Int32} (hx0 : 0 ≤ x.toInt) (hx1 : x.toInt + 6 ≤ (L : Int)) (hT : ∀ (ls : Array Slot) (w : va_W) (H : Heap) (locs : List Loc), lv_has ls 4 [(0, .ref b), (1, .ref h), (2, .ref g), (3, .int x)] → zINV D cI cZ cB cJ cR ks ad s w H locs → W p l e room_1 s m #[Value.ref b] below meth c H locs 98 7042 Q (F0 m 2131 ls [])) {ls : Array Slot} {w : va_W} {H : Heap} {locs : List Loc} (hl : lv_has ls 4 [(0, .ref b), (1, .ref h), (2, .ref g), (3, .int x)]) (hI : zINV D cI cZ cB cJ cR ks ad s w H locs) : W p l e room_1 s m #[Value.ref b] below meth c H locs 98 7042 Q (F0 m 1040 ls []) := by
  obtain ⟨X, hX, hbl, hL, hw, ⟨i5, hk5⟩, ⟨i6, hk6⟩⟩ := hZ
  have hx := X.1.1
  have hb := X.1.2.1
  have hbA : ¬ lwA s b := Nat.not_le.mpr hbl
  obtain ⟨hI, hq⟩ := hI
  refine lv_aload_n hx hb dL_law_1040 rfl (lv_at hl 1 rfl) ?_
  refine zlcall (con := zc_763) (zq_RL_146 X (zM_763 hw hm) (by decide) rfl rfl) rfl hI (As := [.ref h]) (rest := []) ⟨⟨_, _, rfl, hk5.1, hk5.2⟩, trivial⟩ (Nat.le_of_ble_eq_true rfl) hl.1 dL_law_1041 (fun H locs w r hI hr hk hp => ?_)
  have hq := zrel_keep hk (by decide +kernel) hq
  have hr : zF2 (zok ks ad) [(0, (-2147483648), (2147483647))] r := hr
  obtain ⟨_, _, rfl, ⟨z1, rfl, lz1⟩, hr2⟩ := zst1 hr
  obtain rfl := zst0 hr2
  dsimp only at lz1
  dsimp only [List.cons_append, List.nil_append]
  refine lv_pop hx hb dL_law_1044 rfl ?_
  refine lv_aload_n hx hb dL_law_1045 rfl (lv_at hl 2 rfl) ?_
  refine zlcall (con := zc_1037) (zq_RL_149 X (zM_1037 hw hm) (by decide) rfl rfl) rfl hI (As := [.ref g]) (rest := []) ⟨⟨_, _, rfl, hk6.1, hk6.2⟩, trivial⟩ (Nat.le_of_ble_eq_true rfl) hl.1 dL_law_1046 (fun H locs w r hI hr hk hp => ?_)
  have hq := zrel_keep hk (by decide +kernel) hq
  have hr : zF2 (zok ks ad) [(0, (-2147483648), (2147483647))] r := hr
  obtain ⟨_, _, rfl, ⟨z2, rfl, lz2⟩, hr2⟩ := zst1 hr
  obtain rfl := zst0 hr2
  dsimp only at lz2
  dsimp only [List.cons_append, List.nil_append]
  refine lv_pop hx hb dL_law_1049 rfl ?_
  refine lv_goto (tgt := 2131) hx hb dL_law_1050 (by decide) ?_
  exact hT ls _ _ _ hl ⟨hI, hq⟩
theorem law_33 {p : Program} {l : Launch} {e : Env} {s : State} {m : MethodId} {below : List Frame} {meth : Method} {c : Code} {Q : State → Prop} {D : va_G} {cI cZ cB cJ cR : ClassId} {ks ad : List Nat} {b L h g : Nat} {xs : Nat → Int32} (hZ : zLaw p l s m c D cI cZ cB cJ cR ks ad b L h g xs) (hm : zMan l D cI cZ cB cJ cR ks ad (zPsi ks ad)) {x : Int32} (hx0 : 0 ≤ x.toInt) (hx1 : x.toInt + 6 ≤ (L : Int)) (hT : ∀ (ls : Array Slot) (w : va_W) (H : Heap) (locs : List Loc), lv_has ls 4 [(0, .ref b), (1, .ref h), (2, .ref g), (3, .int x)] → zINV D cI cZ cB cJ cR ks ad s w H locs → W p l e room_1 s m #[Value.ref b] below meth c H locs 98 7042 Q (F0 m 2131 ls [])) {ls : Array Slot} {w : va_W} {H : Heap} {locs : List Loc} (hl : lv_has ls 4 [(0, .ref b), (1, .ref h), (2, .ref g), (3, .int x)]) (hI : zINV D cI cZ cB cJ cR ks ad s w H locs) : W p l e room_1 s m #[Value.ref b] below meth c H locs 98 7042 Q (F0 m 1053 ls []) := by
  obtain ⟨X, hX, hbl, hL, hw, ⟨i5, hk5⟩, ⟨i6, hk6⟩⟩ := hZ
  have hx := X.1.1
  have hb := X.1.2.1
  have hbA : ¬ lwA s b := Nat.not_le.mpr hbl
  obtain ⟨hI, hq⟩ := hI
  refine lv_aload_n hx hb dL_law_1053 rfl (lv_at hl 1 rfl) ?_
  refine zlcall (con := zc_671) (zq_RL_150 X (zM_671 hw hm) (by decide) rfl rfl) rfl hI (As := [.ref h]) (rest := []) ⟨⟨_, _, rfl, hk5.1, hk5.2⟩, trivial⟩ (Nat.le_of_ble_eq_true rfl) hl.1 dL_law_1054 (fun H locs w r hI hr hk hp => ?_)
  have hq := zrel_keep hk (by decide +kernel) hq
  have hr : zF2 (zok ks ad) [(0, (-2), (6))] r := hr
  obtain ⟨_, _, rfl, ⟨z1, rfl, lz1⟩, hr2⟩ := zst1 hr
  obtain rfl := zst0 hr2
  dsimp only at lz1
  dsimp only [List.cons_append, List.nil_append]
  refine lv_pop hx hb dL_law_1057 rfl ?_
  refine lv_aload_n hx hb dL_law_1058 rfl (lv_at hl 2 rfl) ?_
  refine zlcall (con := zc_897) (zq_RL_153 X (zM_897 hw hm) (by decide) rfl rfl) rfl hI (As := [.ref g]) (rest := []) ⟨⟨_, _, rfl, hk6.1, hk6.2⟩, trivial⟩ (Nat.le_of_ble_eq_true rfl) hl.1 dL_law_1059 (fun H locs w r hI hr hk hp => ?_)
  have hq := zrel_keep hk (by decide +kernel) hq
  have hr : zF2 (zok ks ad) [(0, (-2), (6))] r := hr
  obtain ⟨_, _, rfl, ⟨z2, rfl, lz2⟩, hr2⟩ := zst1 hr
  obtain rfl := zst0 hr2
  dsimp only at lz2
  dsimp only [List.cons_append, List.nil_append]
  refine lv_pop hx hb dL_law_1062 rfl ?_
  refine lv_goto (tgt := 2131) hx hb dL_law_1063 (by decide) ?_
  exact hT ls _ _ _ hl ⟨hI, hq⟩
theorem law_34 {p : Program} {l : Launch} {e : Env} {s : State} {m : MethodId} {below : List Frame} {meth : Method} {c : Code} {Q : State → Prop} {D : va_G} {cI cZ cB cJ cR : ClassId} {ks ad : List Nat} {b L h g : Nat} {xs : Nat → Int32} (hZ : zLaw p l s m c D cI cZ cB cJ cR ks ad b L h g xs) (hm : zMan l D cI cZ cB cJ cR ks ad (zPsi ks ad)) {x : Int32} (hx0 : 0 ≤ x.toInt) (hx1 : x.toInt + 6 ≤ (L : Int)) (hT : ∀ (ls : Array Slot) (w : va_W) (H : Heap) (locs : List Loc), lv_has ls 4 [(0, .ref b), (1, .ref h), (2, .ref g), (3, .int x)] → zINV D cI cZ cB cJ cR ks ad s w H locs → W p l e room_1 s m #[Value.ref b] below meth c H locs 98 7042 Q (F0 m 2131 ls [])) {ls : Array Slot} {w : va_W} {H : Heap} {locs : List Loc} (hl : lv_has ls 4 [(0, .ref b), (1, .ref h), (2, .ref g), (3, .int x)]) (hI : zINV D cI cZ cB cJ cR ks ad s w H locs) : W p l e room_1 s m #[Value.ref b] below meth c H locs 98 7042 Q (F0 m 1066 ls []) := by
  obtain ⟨X, hX, hbl, hL, hw, ⟨i5, hk5⟩, ⟨i6, hk6⟩⟩ := hZ
  have hx := X.1.1
  have hb := X.1.2.1
  have hbA : ¬ lwA s b := Nat.not_le.mpr hbl
  obtain ⟨hI, hq⟩ := hI
  refine lv_aload_n hx hb dL_law_1066 rfl (lv_at hl 1 rfl) ?_
  refine zlcall (con := zc_659) (zq_RL_154 X (zM_659 hw hm) (by decide) rfl rfl) rfl hI (As := [.ref h]) (rest := []) ⟨⟨_, _, rfl, hk5.1, hk5.2⟩, trivial⟩ (Nat.le_of_ble_eq_true rfl) hl.1 dL_law_1067 (fun H locs w r hI hr hk hp => ?_)
  have hq := zrel_keep hk (by decide +kernel) hq
  have hr : zF2 (zok ks ad) [(0, (-2), (69))] r := hr
  obtain ⟨_, _, rfl, ⟨z1, rfl, lz1⟩, hr2⟩ := zst1 hr
  obtain rfl := zst0 hr2
  dsimp only at lz1
  dsimp only [List.cons_append, List.nil_append]
  refine lv_pop hx hb dL_law_1070 rfl ?_
  refine lv_aload_n hx hb dL_law_1071 rfl (lv_at hl 2 rfl) ?_
  refine zlcall (con := zc_875) (zq_RL_157 X (zM_875 hw hm) (by decide) rfl rfl) rfl hI (As := [.ref g]) (rest := []) ⟨⟨_, _, rfl, hk6.1, hk6.2⟩, trivial⟩ (Nat.le_of_ble_eq_true rfl) hl.1 dL_law_1072 (fun H locs w r hI hr hk hp => ?_)
  have hq := zrel_keep hk (by decide +kernel) hq
  have hr : zF2 (zok ks ad) [(0, (-2), (69))] r := hr
  obtain ⟨_, _, rfl, ⟨z2, rfl, lz2⟩, hr2⟩ := zst1 hr
  obtain rfl := zst0 hr2
  dsimp only at lz2
  dsimp only [List.cons_append, List.nil_append]
  refine lv_pop hx hb dL_law_1075 rfl ?_
  refine lv_goto (tgt := 2131) hx hb dL_law_1076 (by decide) ?_
  exact hT ls _ _ _ hl ⟨hI, hq⟩
theorem law_35 {p : Program} {l : Launch} {e : Env} {s : State} {m : MethodId} {below : List Frame} {meth : Method} {c : Code} {Q : State → Prop} {D : va_G} {cI cZ cB cJ cR : ClassId} {ks ad : List Nat} {b L h g : Nat} {xs : Nat → Int32} (hZ : zLaw p l s m c D cI cZ cB cJ cR ks ad b L h g xs) (hm : zMan l D cI cZ cB cJ cR ks ad (zPsi ks ad)) {x : Int32} (hx0 : 0 ≤ x.toInt) (hx1 : x.toInt + 6 ≤ (L : Int)) (hT : ∀ (ls : Array Slot) (w : va_W) (H : Heap) (locs : List Loc), lv_has ls 4 [(0, .ref b), (1, .ref h), (2, .ref g), (3, .int x)] → zINV D cI cZ cB cJ cR ks ad s w H locs → W p l e room_1 s m #[Value.ref b] below meth c H locs 98 7042 Q (F0 m 2131 ls [])) {ls : Array Slot} {w : va_W} {H : Heap} {locs : List Loc} (hl : lv_has ls 4 [(0, .ref b), (1, .ref h), (2, .ref g), (3, .int x)]) (hI : zINV D cI cZ cB cJ cR ks ad s w H locs) : W p l e room_1 s m #[Value.ref b] below meth c H locs 98 7042 Q (F0 m 1079 ls []) := by
  obtain ⟨X, hX, hbl, hL, hw, ⟨i5, hk5⟩, ⟨i6, hk6⟩⟩ := hZ
  have hx := X.1.1
  have hb := X.1.2.1
  have hbA : ¬ lwA s b := Nat.not_le.mpr hbl
  obtain ⟨hI, hq⟩ := hI
  refine lv_aload_n hx hb dL_law_1079 rfl (lv_at hl 1 rfl) ?_
  refine lv_aload_n hx hb dL_law_1080 rfl (lv_at hl 0 rfl) ?_
  refine lv_iload_n hx hb dL_law_1081 rfl (lv_at hl 3 rfl) ?_
  refine lv_iconst (v := 1) hx hb dL_law_1082 (by decide) ?_
  refine lv_iadd hx hb dL_law_1083 ?_
  refine lv_topi (fun y1 hy1 => ?_)
  have ey1 : y1.toInt = x.toInt + 1 := by rw [hy1, addI _ _ (by simp only [Int32.reduceToInt]; omega)]; rfl
  refine va_sld hx hb hX hbl hbA hI.2.2.1 (vp_in_iff.mpr ⟨by omega, by omega⟩) dL_law_1084 ?_
  refine lv_topi (fun a2 ha2 => ?_)
  refine lv_aload_n hx hb dL_law_1085 rfl (lv_at hl 0 rfl) ?_
  refine lv_iload_n hx hb dL_law_1086 rfl (lv_at hl 3 rfl) ?_
  refine lv_iconst (v := 2) hx hb dL_law_1087 (by decide) ?_
  refine lv_iadd hx hb dL_law_1088 ?_
  refine lv_topi (fun y3 hy3 => ?_)
  have ey3 : y3.toInt = x.toInt + 2 := by rw [hy3, addI _ _ (by simp only [Int32.reduceToInt]; omega)]; rfl
  refine va_sld hx hb hX hbl hbA hI.2.2.1 (vp_in_iff.mpr ⟨by omega, by omega⟩) dL_law_1089 ?_
  refine lv_topi (fun a4 ha4 => ?_)
  refine zlcall (con := zc_814) (zq_RL_158 X (zM_814 hw hm) (by decide) rfl rfl) rfl hI (As := [.ref h, .int a2, .int a4]) (rest := []) ⟨⟨_, _, rfl, hk5.1, hk5.2⟩, ⟨_, rfl, bT _⟩, ⟨_, rfl, bT _⟩, trivial⟩ (Nat.le_of_ble_eq_true rfl) hl.1 dL_law_1090 (fun H locs w r hI hr hk hp => ?_)
  have hq := zrel_keep hk (by decide +kernel) hq
  have hr : zF2 (zok ks ad) [(0, (-2), (2147483647))] r := hr
  obtain ⟨_, _, rfl, ⟨z5, rfl, lz5⟩, hr2⟩ := zst1 hr
  obtain rfl := zst0 hr2
  dsimp only at lz5
  dsimp only [List.cons_append, List.nil_append]
  refine lv_pop hx hb dL_law_1093 rfl ?_
  refine lv_aload_n hx hb dL_law_1094 rfl (lv_at hl 2 rfl) ?_
  refine lv_aload_n hx hb dL_law_1095 rfl (lv_at hl 0 rfl) ?_
  refine lv_iload_n hx hb dL_law_1096 rfl (lv_at hl 3 rfl) ?_
  refine lv_iconst (v := 1) hx hb dL_law_1097 (by decide) ?_
  refine lv_iadd hx hb dL_law_1098 ?_
  refine lv_topi (fun y6 hy6 => ?_)
  have ey6 : y6.toInt = x.toInt + 1 := by rw [hy6, addI _ _ (by simp only [Int32.reduceToInt]; omega)]; rfl
  refine va_sld hx hb hX hbl hbA hI.2.2.1 (vp_in_iff.mpr ⟨by omega, by omega⟩) dL_law_1099 ?_
  refine lv_topi (fun a7 ha7 => ?_)
  refine lv_aload_n hx hb dL_law_1100 rfl (lv_at hl 0 rfl) ?_
  refine lv_iload_n hx hb dL_law_1101 rfl (lv_at hl 3 rfl) ?_
  refine lv_iconst (v := 2) hx hb dL_law_1102 (by decide) ?_
  refine lv_iadd hx hb dL_law_1103 ?_
  refine lv_topi (fun y8 hy8 => ?_)
  have ey8 : y8.toInt = x.toInt + 2 := by rw [hy8, addI _ _ (by simp only [Int32.reduceToInt]; omega)]; rfl
  refine va_sld hx hb hX hbl hbA hI.2.2.1 (vp_in_iff.mpr ⟨by omega, by omega⟩) dL_law_1104 ?_
  refine lv_topi (fun a9 ha9 => ?_)
  refine zlcall (con := zc_1156) (zq_RL_161 X (zM_1156 hw hm) (by decide) rfl rfl) rfl hI (As := [.ref g, .int a7, .int a9]) (rest := []) ⟨⟨_, _, rfl, hk6.1, hk6.2⟩, ⟨_, rfl, bT _⟩, ⟨_, rfl, bT _⟩, trivial⟩ (Nat.le_of_ble_eq_true rfl) hl.1 dL_law_1105 (fun H locs w r hI hr hk hp => ?_)
  have hq := zrel_keep hk (by decide +kernel) hq
  have hr : zF2 (zok ks ad) [(0, (-2147483648), (2147483647))] r := hr
  obtain ⟨_, _, rfl, ⟨z10, rfl, lz10⟩, hr2⟩ := zst1 hr
  obtain rfl := zst0 hr2
  dsimp only at lz10
  dsimp only [List.cons_append, List.nil_append]
  refine lv_pop hx hb dL_law_1108 rfl ?_
  refine lv_goto (tgt := 2131) hx hb dL_law_1109 (by decide) ?_
  exact hT ls _ _ _ hl ⟨hI, hq⟩
