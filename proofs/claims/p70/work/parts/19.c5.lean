theorem law_60 {p : Program} {l : Launch} {e : Env} {s : State} {m : MethodId} {below : List Frame} {meth : Method} {c : Code} {Q : State → Prop} {D : va_G} {cI cZ cB cJ cR : ClassId} {ks ad : List Nat} {b L h g : Nat} {xs : Nat → Int32} (hZ : zLaw p l s m c D cI cZ cB cJ cR ks ad b L h g xs) (hm : zMan l D cI cZ cB cJ cR ks ad (zPsi ks ad)) {x : Int32} (hx0 : 0 ≤ x.toInt) (hx1 : x.toInt + 6 ≤ (L : Int)) (hT : ∀ (ls : Array Slot) (w : va_W) (H : Heap) (locs : List Loc), lv_has ls 4 [(0, .ref b), (1, .ref h), (2, .ref g), (3, .int x)] → zINV D cI cZ cB cJ cR ks ad s w H locs → W p l e room_1 s m #[Value.ref b] below meth c H locs 98 7042 Q (F0 m 2131 ls [])) {ls : Array Slot} {w : va_W} {H : Heap} {locs : List Loc} (hl : lv_has ls 4 [(0, .ref b), (1, .ref h), (2, .ref g), (3, .int x)]) (hI : zINV D cI cZ cB cJ cR ks ad s w H locs) : W p l e room_1 s m #[Value.ref b] below meth c H locs 98 7042 Q (F0 m 1824 ls []) := by
  obtain ⟨X, hX, hbl, hL, hw, ⟨i5, hk5⟩, ⟨i6, hk6⟩⟩ := hZ
  have hx := X.1.1
  have hb := X.1.2.1
  have hbA : ¬ lwA s b := Nat.not_le.mpr hbl
  obtain ⟨hI, hq⟩ := hI
  refine lv_aload_n hx hb dL_law_1824 rfl (lv_at hl 1 rfl) ?_
  refine zlcall (con := zc_821) (zq_RL_259 X (zM_821 hw hm) (by decide) rfl rfl) rfl hI (As := [.ref h]) (rest := []) ⟨⟨_, _, rfl, hk5.1, hk5.2⟩, trivial⟩ (Nat.le_of_ble_eq_true rfl) hl.1 dL_law_1825 (fun H locs w r hI hr hk hp => ?_)
  have hq := zrel_keep hk (by decide +kernel) hq
  have hr : zF2 (zok ks ad) [(0, (-5), (40))] r := hr
  obtain ⟨_, _, rfl, ⟨z1, rfl, lz1⟩, hr2⟩ := zst1 hr
  obtain rfl := zst0 hr2
  dsimp only at lz1
  dsimp only [List.cons_append, List.nil_append]
  refine lv_pop hx hb dL_law_1828 rfl ?_
  refine lv_aload_n hx hb dL_law_1829 rfl (lv_at hl 2 rfl) ?_
  refine zlcall (con := zc_1163) (zq_RL_262 X (zM_1163 hw hm) (by decide) rfl rfl) rfl hI (As := [.ref g]) (rest := []) ⟨⟨_, _, rfl, hk6.1, hk6.2⟩, trivial⟩ (Nat.le_of_ble_eq_true rfl) hl.1 dL_law_1830 (fun H locs w r hI hr hk hp => ?_)
  have hq := zrel_keep hk (by decide +kernel) hq
  have hr : zF2 (zok ks ad) [(0, (-5), (39))] r := hr
  obtain ⟨_, _, rfl, ⟨z2, rfl, lz2⟩, hr2⟩ := zst1 hr
  obtain rfl := zst0 hr2
  dsimp only at lz2
  dsimp only [List.cons_append, List.nil_append]
  refine lv_pop hx hb dL_law_1833 rfl ?_
  refine lv_goto (tgt := 2131) hx hb dL_law_1834 (by decide) ?_
  exact hT ls _ _ _ hl ⟨hI, hq⟩
theorem law_61 {p : Program} {l : Launch} {e : Env} {s : State} {m : MethodId} {below : List Frame} {meth : Method} {c : Code} {Q : State → Prop} {D : va_G} {cI cZ cB cJ cR : ClassId} {ks ad : List Nat} {b L h g : Nat} {xs : Nat → Int32} (hZ : zLaw p l s m c D cI cZ cB cJ cR ks ad b L h g xs) (hm : zMan l D cI cZ cB cJ cR ks ad (zPsi ks ad)) {x : Int32} (hx0 : 0 ≤ x.toInt) (hx1 : x.toInt + 6 ≤ (L : Int)) (hT : ∀ (ls : Array Slot) (w : va_W) (H : Heap) (locs : List Loc), lv_has ls 4 [(0, .ref b), (1, .ref h), (2, .ref g), (3, .int x)] → zINV D cI cZ cB cJ cR ks ad s w H locs → W p l e room_1 s m #[Value.ref b] below meth c H locs 98 7042 Q (F0 m 2131 ls [])) {ls : Array Slot} {w : va_W} {H : Heap} {locs : List Loc} (hl : lv_has ls 4 [(0, .ref b), (1, .ref h), (2, .ref g), (3, .int x)]) (hI : zINV D cI cZ cB cJ cR ks ad s w H locs) : W p l e room_1 s m #[Value.ref b] below meth c H locs 98 7042 Q (F0 m 1837 ls []) := by
  obtain ⟨X, hX, hbl, hL, hw, ⟨i5, hk5⟩, ⟨i6, hk6⟩⟩ := hZ
  have hx := X.1.1
  have hb := X.1.2.1
  have hbA : ¬ lwA s b := Nat.not_le.mpr hbl
  obtain ⟨hI, hq⟩ := hI
  refine lv_aload_n hx hb dL_law_1837 rfl (lv_at hl 1 rfl) ?_
  refine zlcall (con := zc_635) (zq_RL_263 X (zM_635 hw hm) (by decide) rfl rfl) rfl hI (As := [.ref h]) (rest := []) ⟨⟨_, _, rfl, hk5.1, hk5.2⟩, trivial⟩ (Nat.le_of_ble_eq_true rfl) hl.1 dL_law_1838 (fun H locs w r hI hr hk hp => ?_)
  have hq := zrel_keep hk (by decide +kernel) hq
  have hr : zF2 (zok ks ad) [(0, (-2), (40))] r := hr
  obtain ⟨_, _, rfl, ⟨z1, rfl, lz1⟩, hr2⟩ := zst1 hr
  obtain rfl := zst0 hr2
  dsimp only at lz1
  dsimp only [List.cons_append, List.nil_append]
  refine lv_pop hx hb dL_law_1841 rfl ?_
  refine lv_aload_n hx hb dL_law_1842 rfl (lv_at hl 2 rfl) ?_
  refine zlcall (con := zc_835) (zq_RL_266 X (zM_835 hw hm) (by decide) rfl rfl) rfl hI (As := [.ref g]) (rest := []) ⟨⟨_, _, rfl, hk6.1, hk6.2⟩, trivial⟩ (Nat.le_of_ble_eq_true rfl) hl.1 dL_law_1843 (fun H locs w r hI hr hk hp => ?_)
  have hq := zrel_keep hk (by decide +kernel) hq
  have hr : zF2 (zok ks ad) [(0, (-2), (40))] r := hr
  obtain ⟨_, _, rfl, ⟨z2, rfl, lz2⟩, hr2⟩ := zst1 hr
  obtain rfl := zst0 hr2
  dsimp only at lz2
  dsimp only [List.cons_append, List.nil_append]
  refine lv_pop hx hb dL_law_1846 rfl ?_
  refine lv_goto (tgt := 2131) hx hb dL_law_1847 (by decide) ?_
  exact hT ls _ _ _ hl ⟨hI, hq⟩
theorem law_62 {p : Program} {l : Launch} {e : Env} {s : State} {m : MethodId} {below : List Frame} {meth : Method} {c : Code} {Q : State → Prop} {D : va_G} {cI cZ cB cJ cR : ClassId} {ks ad : List Nat} {b L h g : Nat} {xs : Nat → Int32} (hZ : zLaw p l s m c D cI cZ cB cJ cR ks ad b L h g xs) (hm : zMan l D cI cZ cB cJ cR ks ad (zPsi ks ad)) {x : Int32} (hx0 : 0 ≤ x.toInt) (hx1 : x.toInt + 6 ≤ (L : Int)) (hT : ∀ (ls : Array Slot) (w : va_W) (H : Heap) (locs : List Loc), lv_has ls 4 [(0, .ref b), (1, .ref h), (2, .ref g), (3, .int x)] → zINV D cI cZ cB cJ cR ks ad s w H locs → W p l e room_1 s m #[Value.ref b] below meth c H locs 98 7042 Q (F0 m 2131 ls [])) {ls : Array Slot} {w : va_W} {H : Heap} {locs : List Loc} (hl : lv_has ls 4 [(0, .ref b), (1, .ref h), (2, .ref g), (3, .int x)]) (hI : zINV D cI cZ cB cJ cR ks ad s w H locs) : W p l e room_1 s m #[Value.ref b] below meth c H locs 98 7042 Q (F0 m 1850 ls []) := by
  obtain ⟨X, hX, hbl, hL, hw, ⟨i5, hk5⟩, ⟨i6, hk6⟩⟩ := hZ
  have hx := X.1.1
  have hb := X.1.2.1
  have hbA : ¬ lwA s b := Nat.not_le.mpr hbl
  obtain ⟨hI, hq⟩ := hI
  refine lv_aload_n hx hb dL_law_1850 rfl (lv_at hl 1 rfl) ?_
  refine lv_aload_n hx hb dL_law_1851 rfl (lv_at hl 0 rfl) ?_
  refine lv_iload_n hx hb dL_law_1852 rfl (lv_at hl 3 rfl) ?_
  refine lv_iconst (v := 1) hx hb dL_law_1853 (by decide) ?_
  refine lv_iadd hx hb dL_law_1854 ?_
  refine lv_topi (fun y1 hy1 => ?_)
  have ey1 : y1.toInt = x.toInt + 1 := by rw [hy1, addI _ _ (by simp only [Int32.reduceToInt]; omega)]; rfl
  refine va_sld hx hb hX hbl hbA hI.2.2.1 (vp_in_iff.mpr ⟨by omega, by omega⟩) dL_law_1855 ?_
  refine lv_topi (fun a2 ha2 => ?_)
  refine lv_aload_n hx hb dL_law_1856 rfl (lv_at hl 0 rfl) ?_
  refine lv_iload_n hx hb dL_law_1857 rfl (lv_at hl 3 rfl) ?_
  refine lv_iconst (v := 2) hx hb dL_law_1858 (by decide) ?_
  refine lv_iadd hx hb dL_law_1859 ?_
  refine lv_topi (fun y3 hy3 => ?_)
  have ey3 : y3.toInt = x.toInt + 2 := by rw [hy3, addI _ _ (by simp only [Int32.reduceToInt]; omega)]; rfl
  refine va_sld hx hb hX hbl hbA hI.2.2.1 (vp_in_iff.mpr ⟨by omega, by omega⟩) dL_law_1860 ?_
  refine lv_topi (fun a4 ha4 => ?_)
  refine zlcall (con := zc_817) (zq_RL_267 X (zM_817 hw hm) (by decide) rfl rfl) rfl hI (As := [.ref h, .int a2, .int a4]) (rest := []) ⟨⟨_, _, rfl, hk5.1, hk5.2⟩, ⟨_, rfl, bT _⟩, ⟨_, rfl, bT _⟩, trivial⟩ (Nat.le_of_ble_eq_true rfl) hl.1 dL_law_1861 (fun H locs w r hI hr hk hp => ?_)
  have hq := zrel_keep hk (by decide +kernel) hq
  have hr : zF2 (zok ks ad) [(0, (-5), (99))] r := hr
  obtain ⟨_, _, rfl, ⟨z5, rfl, lz5⟩, hr2⟩ := zst1 hr
  obtain rfl := zst0 hr2
  dsimp only at lz5
  dsimp only [List.cons_append, List.nil_append]
  refine lv_pop hx hb dL_law_1864 rfl ?_
  refine lv_aload_n hx hb dL_law_1865 rfl (lv_at hl 2 rfl) ?_
  refine lv_aload_n hx hb dL_law_1866 rfl (lv_at hl 0 rfl) ?_
  refine lv_iload_n hx hb dL_law_1867 rfl (lv_at hl 3 rfl) ?_
  refine lv_iconst (v := 1) hx hb dL_law_1868 (by decide) ?_
  refine lv_iadd hx hb dL_law_1869 ?_
  refine lv_topi (fun y6 hy6 => ?_)
  have ey6 : y6.toInt = x.toInt + 1 := by rw [hy6, addI _ _ (by simp only [Int32.reduceToInt]; omega)]; rfl
  refine va_sld hx hb hX hbl hbA hI.2.2.1 (vp_in_iff.mpr ⟨by omega, by omega⟩) dL_law_1870 ?_
  refine lv_topi (fun a7 ha7 => ?_)
  refine lv_aload_n hx hb dL_law_1871 rfl (lv_at hl 0 rfl) ?_
  refine lv_iload_n hx hb dL_law_1872 rfl (lv_at hl 3 rfl) ?_
  refine lv_iconst (v := 2) hx hb dL_law_1873 (by decide) ?_
  refine lv_iadd hx hb dL_law_1874 ?_
  refine lv_topi (fun y8 hy8 => ?_)
  have ey8 : y8.toInt = x.toInt + 2 := by rw [hy8, addI _ _ (by simp only [Int32.reduceToInt]; omega)]; rfl
  refine va_sld hx hb hX hbl hbA hI.2.2.1 (vp_in_iff.mpr ⟨by omega, by omega⟩) dL_law_1875 ?_
  refine lv_topi (fun a9 ha9 => ?_)
  refine zlcall (con := zc_1131) (zq_RL_270 X (zM_1131 hw hm) (by decide) rfl rfl) rfl hI (As := [.ref g, .int a7, .int a9]) (rest := []) ⟨⟨_, _, rfl, hk6.1, hk6.2⟩, ⟨_, rfl, bT _⟩, ⟨_, rfl, bT _⟩, trivial⟩ (Nat.le_of_ble_eq_true rfl) hl.1 dL_law_1876 (fun H locs w r hI hr hk hp => ?_)
  have hq := zrel_keep hk (by decide +kernel) hq
  have hr : zF2 (zok ks ad) [(0, (-5), (99))] r := hr
  obtain ⟨_, _, rfl, ⟨z10, rfl, lz10⟩, hr2⟩ := zst1 hr
  obtain rfl := zst0 hr2
  dsimp only at lz10
  dsimp only [List.cons_append, List.nil_append]
  refine lv_pop hx hb dL_law_1879 rfl ?_
  refine lv_goto (tgt := 2131) hx hb dL_law_1880 (by decide) ?_
  exact hT ls _ _ _ hl ⟨hI, hq⟩
theorem law_63 {p : Program} {l : Launch} {e : Env} {s : State} {m : MethodId} {below : List Frame} {meth : Method} {c : Code} {Q : State → Prop} {D : va_G} {cI cZ cB cJ cR : ClassId} {ks ad : List Nat} {b L h g : Nat} {xs : Nat → Int32} (hZ : zLaw p l s m c D cI cZ cB cJ cR ks ad b L h g xs) (hm : zMan l D cI cZ cB cJ cR ks ad (zPsi ks ad)) {x : Int32} (hx0 : 0 ≤ x.toInt) (hx1 : x.toInt + 6 ≤ (L : Int)) (hT : ∀ (ls : Array Slot) (w : va_W) (H : Heap) (locs : List Loc), lv_has ls 4 [(0, .ref b), (1, .ref h), (2, .ref g), (3, .int x)] → zINV D cI cZ cB cJ cR ks ad s w H locs → W p l e room_1 s m #[Value.ref b] below meth c H locs 98 7042 Q (F0 m 2131 ls [])) {ls : Array Slot} {w : va_W} {H : Heap} {locs : List Loc} (hl : lv_has ls 4 [(0, .ref b), (1, .ref h), (2, .ref g), (3, .int x)]) (hI : zINV D cI cZ cB cJ cR ks ad s w H locs) : W p l e room_1 s m #[Value.ref b] below meth c H locs 98 7042 Q (F0 m 1883 ls []) := by
  obtain ⟨X, hX, hbl, hL, hw, ⟨i5, hk5⟩, ⟨i6, hk6⟩⟩ := hZ
  have hx := X.1.1
  have hb := X.1.2.1
  have hbA : ¬ lwA s b := Nat.not_le.mpr hbl
  obtain ⟨hI, hq⟩ := hI
  refine lv_aload_n hx hb dL_law_1883 rfl (lv_at hl 1 rfl) ?_
  refine lv_aload_n hx hb dL_law_1884 rfl (lv_at hl 0 rfl) ?_
  refine lv_iload_n hx hb dL_law_1885 rfl (lv_at hl 3 rfl) ?_
  refine lv_iconst (v := 1) hx hb dL_law_1886 (by decide) ?_
  refine lv_iadd hx hb dL_law_1887 ?_
  refine lv_topi (fun y1 hy1 => ?_)
  have ey1 : y1.toInt = x.toInt + 1 := by rw [hy1, addI _ _ (by simp only [Int32.reduceToInt]; omega)]; rfl
  refine va_sld hx hb hX hbl hbA hI.2.2.1 (vp_in_iff.mpr ⟨by omega, by omega⟩) dL_law_1888 ?_
  refine lv_topi (fun a2 ha2 => ?_)
  refine zlcall (con := zc_652) (zq_RL_271 X (zM_652 hw hm) (by decide) rfl rfl) rfl hI (As := [.ref h, .int a2]) (rest := []) ⟨⟨_, _, rfl, hk5.1, hk5.2⟩, ⟨_, rfl, bT _⟩, trivial⟩ (Nat.le_of_ble_eq_true rfl) hl.1 dL_law_1889 (fun H locs w r hI hr hk hp => ?_)
  have hq := zrel_keep hk (by decide +kernel) hq
  have hr : zF2 (zok ks ad) [(0, (-2147483648), (2147483647))] r := hr
  obtain ⟨_, _, rfl, ⟨z3, rfl, lz3⟩, hr2⟩ := zst1 hr
  obtain rfl := zst0 hr2
  dsimp only at lz3
  dsimp only [List.cons_append, List.nil_append]
  refine lv_pop hx hb dL_law_1892 rfl ?_
  refine lv_aload_n hx hb dL_law_1893 rfl (lv_at hl 2 rfl) ?_
  refine lv_aload_n hx hb dL_law_1894 rfl (lv_at hl 0 rfl) ?_
  refine lv_iload_n hx hb dL_law_1895 rfl (lv_at hl 3 rfl) ?_
  refine lv_iconst (v := 1) hx hb dL_law_1896 (by decide) ?_
  refine lv_iadd hx hb dL_law_1897 ?_
  refine lv_topi (fun y4 hy4 => ?_)
  have ey4 : y4.toInt = x.toInt + 1 := by rw [hy4, addI _ _ (by simp only [Int32.reduceToInt]; omega)]; rfl
  refine va_sld hx hb hX hbl hbA hI.2.2.1 (vp_in_iff.mpr ⟨by omega, by omega⟩) dL_law_1898 ?_
  refine lv_topi (fun a5 ha5 => ?_)
  refine zlcall (con := zc_867) (zq_RL_274 X (zM_867 hw hm) (by decide) rfl rfl) rfl hI (As := [.ref g, .int a5]) (rest := []) ⟨⟨_, _, rfl, hk6.1, hk6.2⟩, ⟨_, rfl, bT _⟩, trivial⟩ (Nat.le_of_ble_eq_true rfl) hl.1 dL_law_1899 (fun H locs w r hI hr hk hp => ?_)
  have hq := zrel_keep hk (by decide +kernel) hq
  have hr : zF2 (zok ks ad) [(0, (-2147483648), (2147483647))] r := hr
  obtain ⟨_, _, rfl, ⟨z6, rfl, lz6⟩, hr2⟩ := zst1 hr
  obtain rfl := zst0 hr2
  dsimp only at lz6
  dsimp only [List.cons_append, List.nil_append]
  refine lv_pop hx hb dL_law_1902 rfl ?_
  refine lv_goto (tgt := 2131) hx hb dL_law_1903 (by decide) ?_
  exact hT ls _ _ _ hl ⟨hI, hq⟩
theorem law_64 {p : Program} {l : Launch} {e : Env} {s : State} {m : MethodId} {below : List Frame} {meth : Method} {c : Code} {Q : State → Prop} {D : va_G} {cI cZ cB cJ cR : ClassId} {ks ad : List Nat} {b L h g : Nat} {xs : Nat → Int32} (hZ : zLaw p l s m c D cI cZ cB cJ cR ks ad b L h g xs) (hm : zMan l D cI cZ cB cJ cR ks ad (zPsi ks ad)) {x : Int32} (hx0 : 0 ≤ x.toInt) (hx1 : x.toInt + 6 ≤ (L : Int)) (hT : ∀ (ls : Array Slot) (w : va_W) (H : Heap) (locs : List Loc), lv_has ls 4 [(0, .ref b), (1, .ref h), (2, .ref g), (3, .int x)] → zINV D cI cZ cB cJ cR ks ad s w H locs → W p l e room_1 s m #[Value.ref b] below meth c H locs 98 7042 Q (F0 m 2131 ls [])) {ls : Array Slot} {w : va_W} {H : Heap} {locs : List Loc} (hl : lv_has ls 4 [(0, .ref b), (1, .ref h), (2, .ref g), (3, .int x)]) (hI : zINV D cI cZ cB cJ cR ks ad s w H locs) : W p l e room_1 s m #[Value.ref b] below meth c H locs 98 7042 Q (F0 m 1906 ls []) := by
  obtain ⟨X, hX, hbl, hL, hw, ⟨i5, hk5⟩, ⟨i6, hk6⟩⟩ := hZ
  have hx := X.1.1
  have hb := X.1.2.1
  have hbA : ¬ lwA s b := Nat.not_le.mpr hbl
  obtain ⟨hI, hq⟩ := hI
  refine lv_aload_n hx hb dL_law_1906 rfl (lv_at hl 1 rfl) ?_
  refine lv_aload_n hx hb dL_law_1907 rfl (lv_at hl 0 rfl) ?_
  refine lv_iload_n hx hb dL_law_1908 rfl (lv_at hl 3 rfl) ?_
  refine lv_iconst (v := 1) hx hb dL_law_1909 (by decide) ?_
  refine lv_iadd hx hb dL_law_1910 ?_
  refine lv_topi (fun y1 hy1 => ?_)
  have ey1 : y1.toInt = x.toInt + 1 := by rw [hy1, addI _ _ (by simp only [Int32.reduceToInt]; omega)]; rfl
  refine va_sld hx hb hX hbl hbA hI.2.2.1 (vp_in_iff.mpr ⟨by omega, by omega⟩) dL_law_1911 ?_
  refine lv_topi (fun a2 ha2 => ?_)
  refine zlcall (con := zc_676) (zq_RL_275 X (zM_676 hw hm) (by decide) rfl rfl) rfl hI (As := [.ref h, .int a2]) (rest := []) ⟨⟨_, _, rfl, hk5.1, hk5.2⟩, ⟨_, rfl, bT _⟩, trivial⟩ (Nat.le_of_ble_eq_true rfl) hl.1 dL_law_1912 (fun H locs w r hI hr hk hp => ?_)
  have hq := zrel_keep hk (by decide +kernel) hq
  have hr : zF2 (zok ks ad) [(0, (-2), (0))] r := hr
  obtain ⟨_, _, rfl, ⟨z3, rfl, lz3⟩, hr2⟩ := zst1 hr
  obtain rfl := zst0 hr2
  dsimp only at lz3
  dsimp only [List.cons_append, List.nil_append]
  refine lv_pop hx hb dL_law_1915 rfl ?_
  refine lv_aload_n hx hb dL_law_1916 rfl (lv_at hl 2 rfl) ?_
  refine lv_aload_n hx hb dL_law_1917 rfl (lv_at hl 0 rfl) ?_
  refine lv_iload_n hx hb dL_law_1918 rfl (lv_at hl 3 rfl) ?_
  refine lv_iconst (v := 1) hx hb dL_law_1919 (by decide) ?_
  refine lv_iadd hx hb dL_law_1920 ?_
  refine lv_topi (fun y4 hy4 => ?_)
  have ey4 : y4.toInt = x.toInt + 1 := by rw [hy4, addI _ _ (by simp only [Int32.reduceToInt]; omega)]; rfl
  refine va_sld hx hb hX hbl hbA hI.2.2.1 (vp_in_iff.mpr ⟨by omega, by omega⟩) dL_law_1921 ?_
  refine lv_topi (fun a5 ha5 => ?_)
  refine zlcall (con := zc_903) (zq_RL_278 X (zM_903 hw hm) (by decide) rfl rfl) rfl hI (As := [.ref g, .int a5]) (rest := []) ⟨⟨_, _, rfl, hk6.1, hk6.2⟩, ⟨_, rfl, bT _⟩, trivial⟩ (Nat.le_of_ble_eq_true rfl) hl.1 dL_law_1922 (fun H locs w r hI hr hk hp => ?_)
  have hq := zrel_keep hk (by decide +kernel) hq
  have hr : zF2 (zok ks ad) [(0, (-2), (0))] r := hr
  obtain ⟨_, _, rfl, ⟨z6, rfl, lz6⟩, hr2⟩ := zst1 hr
  obtain rfl := zst0 hr2
  dsimp only at lz6
  dsimp only [List.cons_append, List.nil_append]
  refine lv_pop hx hb dL_law_1925 rfl ?_
  refine lv_goto (tgt := 2131) hx hb dL_law_1926 (by decide) ?_
  exact hT ls _ _ _ hl ⟨hI, hq⟩
theorem law_65 {p : Program} {l : Launch} {e : Env} {s : State} {m : MethodId} {below : List Frame} {meth : Method} {c : Code} {Q : State → Prop} {D : va_G} {cI cZ cB cJ cR : ClassId} {ks ad : List Nat} {b L h g : Nat} {xs : Nat → Int32} (hZ : zLaw p l s m c D cI cZ cB cJ cR ks ad b L h g xs) (hm : zMan l D cI cZ cB cJ cR ks ad (zPsi ks ad)) {x : Int32} (hx0 : 0 ≤ x.toInt) (hx1 : x.toInt + 6 ≤ (L : Int)) (hT : ∀ (ls : Array Slot) (w : va_W) (H : Heap) (locs : List Loc), lv_has ls 4 [(0, .ref b), (1, .ref h), (2, .ref g), (3, .int x)] → zINV D cI cZ cB cJ cR ks ad s w H locs → W p l e room_1 s m #[Value.ref b] below meth c H locs 98 7042 Q (F0 m 2131 ls [])) {ls : Array Slot} {w : va_W} {H : Heap} {locs : List Loc} (hl : lv_has ls 4 [(0, .ref b), (1, .ref h), (2, .ref g), (3, .int x)]) (hI : zINV D cI cZ cB cJ cR ks ad s w H locs) : W p l e room_1 s m #[Value.ref b] below meth c H locs 98 7042 Q (F0 m 1929 ls []) := by
  obtain ⟨X, hX, hbl, hL, hw, ⟨i5, hk5⟩, ⟨i6, hk6⟩⟩ := hZ
  have hx := X.1.1
  have hb := X.1.2.1
  have hbA : ¬ lwA s b := Nat.not_le.mpr hbl
  obtain ⟨hI, hq⟩ := hI
  refine lv_aload_n hx hb dL_law_1929 rfl (lv_at hl 1 rfl) ?_
  refine lv_aload_n hx hb dL_law_1930 rfl (lv_at hl 0 rfl) ?_
  refine lv_iload_n hx hb dL_law_1931 rfl (lv_at hl 3 rfl) ?_
  refine lv_iconst (v := 1) hx hb dL_law_1932 (by decide) ?_
  refine lv_iadd hx hb dL_law_1933 ?_
  refine lv_topi (fun y1 hy1 => ?_)
  have ey1 : y1.toInt = x.toInt + 1 := by rw [hy1, addI _ _ (by simp only [Int32.reduceToInt]; omega)]; rfl
  refine va_sld hx hb hX hbl hbA hI.2.2.1 (vp_in_iff.mpr ⟨by omega, by omega⟩) dL_law_1934 ?_
  refine lv_topi (fun a2 ha2 => ?_)
  refine zlcall (con := zc_638) (zq_RL_279 X (zM_638 hw hm) (by decide) rfl rfl) rfl hI (As := [.ref h, .int a2]) (rest := []) ⟨⟨_, _, rfl, hk5.1, hk5.2⟩, ⟨_, rfl, bT _⟩, trivial⟩ (Nat.le_of_ble_eq_true rfl) hl.1 dL_law_1935 (fun H locs w r hI hr hk hp => ?_)
  have hq := zrel_keep hk (by decide +kernel) hq
  have hr : zF2 (zok ks ad) [(0, (-6), (0))] r := hr
  obtain ⟨_, _, rfl, ⟨z3, rfl, lz3⟩, hr2⟩ := zst1 hr
  obtain rfl := zst0 hr2
  dsimp only at lz3
  dsimp only [List.cons_append, List.nil_append]
  refine lv_pop hx hb dL_law_1938 rfl ?_
  refine lv_aload_n hx hb dL_law_1939 rfl (lv_at hl 2 rfl) ?_
  refine lv_aload_n hx hb dL_law_1940 rfl (lv_at hl 0 rfl) ?_
  refine lv_iload_n hx hb dL_law_1941 rfl (lv_at hl 3 rfl) ?_
  refine lv_iconst (v := 1) hx hb dL_law_1942 (by decide) ?_
  refine lv_iadd hx hb dL_law_1943 ?_
  refine lv_topi (fun y4 hy4 => ?_)
  have ey4 : y4.toInt = x.toInt + 1 := by rw [hy4, addI _ _ (by simp only [Int32.reduceToInt]; omega)]; rfl
  refine va_sld hx hb hX hbl hbA hI.2.2.1 (vp_in_iff.mpr ⟨by omega, by omega⟩) dL_law_1944 ?_
  refine lv_topi (fun a5 ha5 => ?_)
  refine zlcall (con := zc_840) (zq_RL_282 X (zM_840 hw hm) (by decide) rfl rfl) rfl hI (As := [.ref g, .int a5]) (rest := []) ⟨⟨_, _, rfl, hk6.1, hk6.2⟩, ⟨_, rfl, bT _⟩, trivial⟩ (Nat.le_of_ble_eq_true rfl) hl.1 dL_law_1945 (fun H locs w r hI hr hk hp => ?_)
  have hq := zrel_keep hk (by decide +kernel) hq
  have hr : zF2 (zok ks ad) [(0, (-6), (0))] r := hr
  obtain ⟨_, _, rfl, ⟨z6, rfl, lz6⟩, hr2⟩ := zst1 hr
  obtain rfl := zst0 hr2
  dsimp only at lz6
  dsimp only [List.cons_append, List.nil_append]
  refine lv_pop hx hb dL_law_1948 rfl ?_
  refine lv_goto (tgt := 2131) hx hb dL_law_1949 (by decide) ?_
  exact hT ls _ _ _ hl ⟨hI, hq⟩
theorem law_66 {p : Program} {l : Launch} {e : Env} {s : State} {m : MethodId} {below : List Frame} {meth : Method} {c : Code} {Q : State → Prop} {D : va_G} {cI cZ cB cJ cR : ClassId} {ks ad : List Nat} {b L h g : Nat} {xs : Nat → Int32} (hZ : zLaw p l s m c D cI cZ cB cJ cR ks ad b L h g xs) (hm : zMan l D cI cZ cB cJ cR ks ad (zPsi ks ad)) {x : Int32} (hx0 : 0 ≤ x.toInt) (hx1 : x.toInt + 6 ≤ (L : Int)) (hT : ∀ (ls : Array Slot) (w : va_W) (H : Heap) (locs : List Loc), lv_has ls 4 [(0, .ref b), (1, .ref h), (2, .ref g), (3, .int x)] → zINV D cI cZ cB cJ cR ks ad s w H locs → W p l e room_1 s m #[Value.ref b] below meth c H locs 98 7042 Q (F0 m 2131 ls [])) {ls : Array Slot} {w : va_W} {H : Heap} {locs : List Loc} (hl : lv_has ls 4 [(0, .ref b), (1, .ref h), (2, .ref g), (3, .int x)]) (hI : zINV D cI cZ cB cJ cR ks ad s w H locs) : W p l e room_1 s m #[Value.ref b] below meth c H locs 98 7042 Q (F0 m 1952 ls []) := by
  obtain ⟨X, hX, hbl, hL, hw, ⟨i5, hk5⟩, ⟨i6, hk6⟩⟩ := hZ
  have hx := X.1.1
  have hb := X.1.2.1
  have hbA : ¬ lwA s b := Nat.not_le.mpr hbl
  obtain ⟨hI, hq⟩ := hI
  refine lv_aload_n hx hb dL_law_1952 rfl (lv_at hl 1 rfl) ?_
  refine lv_aload_n hx hb dL_law_1953 rfl (lv_at hl 0 rfl) ?_
  refine lv_iload_n hx hb dL_law_1954 rfl (lv_at hl 3 rfl) ?_
  refine lv_iconst (v := 1) hx hb dL_law_1955 (by decide) ?_
  refine lv_iadd hx hb dL_law_1956 ?_
  refine lv_topi (fun y1 hy1 => ?_)
  have ey1 : y1.toInt = x.toInt + 1 := by rw [hy1, addI _ _ (by simp only [Int32.reduceToInt]; omega)]; rfl
  refine va_sld hx hb hX hbl hbA hI.2.2.1 (vp_in_iff.mpr ⟨by omega, by omega⟩) dL_law_1957 ?_
  generalize hv1 : xs y1.toNatClampNeg = v1
  refine lv_aload_n hx hb dL_law_1958 rfl (lv_at hl 0 rfl) ?_
  refine lv_iload_n hx hb dL_law_1959 rfl (lv_at hl 3 rfl) ?_
  refine lv_iconst (v := 2) hx hb dL_law_1960 (by decide) ?_
  refine lv_iadd hx hb dL_law_1961 ?_
  refine lv_topi (fun y2 hy2 => ?_)
  have ey2 : y2.toInt = x.toInt + 2 := by rw [hy2, addI _ _ (by simp only [Int32.reduceToInt]; omega)]; rfl
  refine va_sld hx hb hX hbl hbA hI.2.2.1 (vp_in_iff.mpr ⟨by omega, by omega⟩) dL_law_1962 ?_
  generalize hv2 : xs y2.toNatClampNeg = v2
  refine lv_aload_n hx hb dL_law_1963 rfl (lv_at hl 0 rfl) ?_
  refine lv_iload_n hx hb dL_law_1964 rfl (lv_at hl 3 rfl) ?_
  refine lv_iconst (v := 3) hx hb dL_law_1965 (by decide) ?_
  refine lv_iadd hx hb dL_law_1966 ?_
  refine lv_topi (fun y3 hy3 => ?_)
  have ey3 : y3.toInt = x.toInt + 3 := by rw [hy3, addI _ _ (by simp only [Int32.reduceToInt]; omega)]; rfl
  refine va_sld hx hb hX hbl hbA hI.2.2.1 (vp_in_iff.mpr ⟨by omega, by omega⟩) dL_law_1967 ?_
  generalize hv3 : xs y3.toNatClampNeg = v3
  rcases (show v1.toInt ≤ -1 ∨ (0 ≤ v1.toInt ∧ v1.toInt ≤ 0) ∨ (1 ≤ v1.toInt ∧ v1.toInt ≤ 1) ∨ (2 ≤ v1.toInt ∧ v1.toInt ≤ 2) ∨ (3 ≤ v1.toInt ∧ v1.toInt ≤ 3) ∨ 4 ≤ v1.toInt from by omega) with hc1 | hc1 | hc1 | hc1 | hc1 | hc1
  · skip
    refine zlcall (con := zc_1205) (zq_RL_283 X (zM_1205 hw hm) (by decide) rfl rfl) rfl hI (As := [.ref h, .int v1, .int v2, .int v3]) (rest := []) ⟨⟨_, _, rfl, hk5.1, hk5.2⟩, ⟨_, rfl, (bT _).1, hc1⟩, ⟨_, rfl, bT _⟩, ⟨_, rfl, bT _⟩, trivial⟩ (Nat.le_of_ble_eq_true rfl) hl.1 dL_law_1968 (fun H locs w r hI hr hk hp => ?_)
    have hq := zrel_keep hk (by decide +kernel) hq
    have hr : zF2 (zok ks ad) [(0, (-2), (-2))] r := hr
    obtain ⟨_, _, rfl, ⟨z1, rfl, lz1⟩, hr2⟩ := zst1 hr
    obtain rfl := zst0 hr2
    dsimp only at lz1
    dsimp only [List.cons_append, List.nil_append]
    refine lv_pop hx hb dL_law_1971 rfl ?_
    refine lv_aload_n hx hb dL_law_1972 rfl (lv_at hl 2 rfl) ?_
    refine lv_aload_n hx hb dL_law_1973 rfl (lv_at hl 0 rfl) ?_
    refine lv_iload_n hx hb dL_law_1974 rfl (lv_at hl 3 rfl) ?_
    refine lv_iconst (v := 1) hx hb dL_law_1975 (by decide) ?_
    refine lv_iadd hx hb dL_law_1976 ?_
    refine lv_topi (fun t1 ht1 => ?_)
    have et1 : t1.toInt = x.toInt + 1 := by rw [ht1, addI _ _ (by simp only [Int32.reduceToInt]; omega)]; rfl
    refine va_sld hx hb hX hbl hbA hI.2.2.1 (vp_in_iff.mpr ⟨by omega, by omega⟩) dL_law_1977 ?_
    rw [show t1 = y1 from by rw [ht1, hy1], hv1]
    refine lv_aload_n hx hb dL_law_1978 rfl (lv_at hl 0 rfl) ?_
    refine lv_iload_n hx hb dL_law_1979 rfl (lv_at hl 3 rfl) ?_
    refine lv_iconst (v := 2) hx hb dL_law_1980 (by decide) ?_
    refine lv_iadd hx hb dL_law_1981 ?_
    refine lv_topi (fun t2 ht2 => ?_)
    have et2 : t2.toInt = x.toInt + 2 := by rw [ht2, addI _ _ (by simp only [Int32.reduceToInt]; omega)]; rfl
    refine va_sld hx hb hX hbl hbA hI.2.2.1 (vp_in_iff.mpr ⟨by omega, by omega⟩) dL_law_1982 ?_
    rw [show t2 = y2 from by rw [ht2, hy2], hv2]
    refine lv_aload_n hx hb dL_law_1983 rfl (lv_at hl 0 rfl) ?_
    refine lv_iload_n hx hb dL_law_1984 rfl (lv_at hl 3 rfl) ?_
    refine lv_iconst (v := 3) hx hb dL_law_1985 (by decide) ?_
    refine lv_iadd hx hb dL_law_1986 ?_
    refine lv_topi (fun t3 ht3 => ?_)
    have et3 : t3.toInt = x.toInt + 3 := by rw [ht3, addI _ _ (by simp only [Int32.reduceToInt]; omega)]; rfl
    refine va_sld hx hb hX hbl hbA hI.2.2.1 (vp_in_iff.mpr ⟨by omega, by omega⟩) dL_law_1987 ?_
    rw [show t3 = y3 from by rw [ht3, hy3], hv3]
    refine zlcall (con := zc_1256) (zq_RL_286 X (zM_1256 hw hm) (by decide) rfl rfl) rfl hI (As := [.ref g, .int v1, .int v2, .int v3]) (rest := []) ⟨⟨_, _, rfl, hk6.1, hk6.2⟩, ⟨_, rfl, (bT _).1, hc1⟩, ⟨_, rfl, bT _⟩, ⟨_, rfl, bT _⟩, trivial⟩ (Nat.le_of_ble_eq_true rfl) hl.1 dL_law_1988 (fun H locs w r hI hr hk hp => ?_)
    have hq := zrel_keep hk (by decide +kernel) hq
    have hr : zF2 (zok ks ad) [(0, (-2), (-2))] r := hr
    obtain ⟨_, _, rfl, ⟨z2, rfl, lz2⟩, hr2⟩ := zst1 hr
    obtain rfl := zst0 hr2
    dsimp only at lz2
    dsimp only [List.cons_append, List.nil_append]
    refine lv_pop hx hb dL_law_1991 rfl ?_
    refine lv_goto (tgt := 2131) hx hb dL_law_1992 (by decide) ?_
    exact hT ls _ _ _ hl ⟨hI, hq⟩
  · skip
    rcases (show v2.toInt ≤ -1 ∨ (0 ≤ v2.toInt ∧ v2.toInt ≤ 3) ∨ 4 ≤ v2.toInt from by omega) with hc2 | hc2 | hc2
    · skip
      rcases (show v3.toInt ≤ -1 ∨ (0 ≤ v3.toInt ∧ v3.toInt ≤ 60) ∨ 61 ≤ v3.toInt from by omega) with hc3 | hc3 | hc3
      · skip
        refine zlcall (con := zc_1206) (zq_RL_283 X (zM_1206 hw hm) (by decide) rfl rfl) rfl hI (As := [.ref h, .int v1, .int v2, .int v3]) (rest := []) ⟨⟨_, _, rfl, hk5.1, hk5.2⟩, ⟨_, rfl, hc1⟩, ⟨_, rfl, (bT _).1, hc2⟩, ⟨_, rfl, (bT _).1, hc3⟩, trivial⟩ (Nat.le_of_ble_eq_true rfl) hl.1 dL_law_1968 (fun H locs w r hI hr hk hp => ?_)
        have hq := zrel_keep hk (by decide +kernel) hq
        have hr : zF2 (zok ks ad) [(0, (-2), (-2))] r := hr
        obtain ⟨_, _, rfl, ⟨z3, rfl, lz3⟩, hr2⟩ := zst1 hr
        obtain rfl := zst0 hr2
        dsimp only at lz3
        dsimp only [List.cons_append, List.nil_append]
        refine lv_pop hx hb dL_law_1971 rfl ?_
        refine lv_aload_n hx hb dL_law_1972 rfl (lv_at hl 2 rfl) ?_
        refine lv_aload_n hx hb dL_law_1973 rfl (lv_at hl 0 rfl) ?_
        refine lv_iload_n hx hb dL_law_1974 rfl (lv_at hl 3 rfl) ?_
        refine lv_iconst (v := 1) hx hb dL_law_1975 (by decide) ?_
        refine lv_iadd hx hb dL_law_1976 ?_
        refine lv_topi (fun t1 ht1 => ?_)
        have et1 : t1.toInt = x.toInt + 1 := by rw [ht1, addI _ _ (by simp only [Int32.reduceToInt]; omega)]; rfl
        refine va_sld hx hb hX hbl hbA hI.2.2.1 (vp_in_iff.mpr ⟨by omega, by omega⟩) dL_law_1977 ?_
        rw [show t1 = y1 from by rw [ht1, hy1], hv1]
        refine lv_aload_n hx hb dL_law_1978 rfl (lv_at hl 0 rfl) ?_
        refine lv_iload_n hx hb dL_law_1979 rfl (lv_at hl 3 rfl) ?_
        refine lv_iconst (v := 2) hx hb dL_law_1980 (by decide) ?_
        refine lv_iadd hx hb dL_law_1981 ?_
        refine lv_topi (fun t2 ht2 => ?_)
        have et2 : t2.toInt = x.toInt + 2 := by rw [ht2, addI _ _ (by simp only [Int32.reduceToInt]; omega)]; rfl
        refine va_sld hx hb hX hbl hbA hI.2.2.1 (vp_in_iff.mpr ⟨by omega, by omega⟩) dL_law_1982 ?_
        rw [show t2 = y2 from by rw [ht2, hy2], hv2]
        refine lv_aload_n hx hb dL_law_1983 rfl (lv_at hl 0 rfl) ?_
        refine lv_iload_n hx hb dL_law_1984 rfl (lv_at hl 3 rfl) ?_
        refine lv_iconst (v := 3) hx hb dL_law_1985 (by decide) ?_
        refine lv_iadd hx hb dL_law_1986 ?_
        refine lv_topi (fun t3 ht3 => ?_)
        have et3 : t3.toInt = x.toInt + 3 := by rw [ht3, addI _ _ (by simp only [Int32.reduceToInt]; omega)]; rfl
        refine va_sld hx hb hX hbl hbA hI.2.2.1 (vp_in_iff.mpr ⟨by omega, by omega⟩) dL_law_1987 ?_
        rw [show t3 = y3 from by rw [ht3, hy3], hv3]
        refine zlcall (con := zc_1257) (zq_RL_286 X (zM_1257 hw hm) (by decide) rfl rfl) rfl hI (As := [.ref g, .int v1, .int v2, .int v3]) (rest := []) ⟨⟨_, _, rfl, hk6.1, hk6.2⟩, ⟨_, rfl, hc1⟩, ⟨_, rfl, (bT _).1, hc2⟩, ⟨_, rfl, (bT _).1, hc3⟩, trivial⟩ (Nat.le_of_ble_eq_true rfl) hl.1 dL_law_1988 (fun H locs w r hI hr hk hp => ?_)
        have hq := zrel_keep hk (by decide +kernel) hq
        have hr : zF2 (zok ks ad) [(0, (-2), (-2))] r := hr
        obtain ⟨_, _, rfl, ⟨z4, rfl, lz4⟩, hr2⟩ := zst1 hr
        obtain rfl := zst0 hr2
        dsimp only at lz4
        dsimp only [List.cons_append, List.nil_append]
        refine lv_pop hx hb dL_law_1991 rfl ?_
        refine lv_goto (tgt := 2131) hx hb dL_law_1992 (by decide) ?_
        exact hT ls _ _ _ hl ⟨hI, hq⟩
      · skip
        refine zlcall (con := zc_1207) (zq_RL_283 X (zM_1207 hw hm) (by decide) rfl rfl) rfl hI (As := [.ref h, .int v1, .int v2, .int v3]) (rest := []) ⟨⟨_, _, rfl, hk5.1, hk5.2⟩, ⟨_, rfl, hc1⟩, ⟨_, rfl, (bT _).1, hc2⟩, ⟨_, rfl, hc3⟩, trivial⟩ (Nat.le_of_ble_eq_true rfl) hl.1 dL_law_1968 (fun H locs w r hI hr hk hp => ?_)
        have hq := zrel_keep hk (by decide +kernel) hq
        have hr : zF2 (zok ks ad) [(0, (-2), (-2))] r := hr
        obtain ⟨_, _, rfl, ⟨z5, rfl, lz5⟩, hr2⟩ := zst1 hr
        obtain rfl := zst0 hr2
        dsimp only at lz5
        dsimp only [List.cons_append, List.nil_append]
        refine lv_pop hx hb dL_law_1971 rfl ?_
        refine lv_aload_n hx hb dL_law_1972 rfl (lv_at hl 2 rfl) ?_
        refine lv_aload_n hx hb dL_law_1973 rfl (lv_at hl 0 rfl) ?_
        refine lv_iload_n hx hb dL_law_1974 rfl (lv_at hl 3 rfl) ?_
        refine lv_iconst (v := 1) hx hb dL_law_1975 (by decide) ?_
        refine lv_iadd hx hb dL_law_1976 ?_
        refine lv_topi (fun t1 ht1 => ?_)
        have et1 : t1.toInt = x.toInt + 1 := by rw [ht1, addI _ _ (by simp only [Int32.reduceToInt]; omega)]; rfl
        refine va_sld hx hb hX hbl hbA hI.2.2.1 (vp_in_iff.mpr ⟨by omega, by omega⟩) dL_law_1977 ?_
        rw [show t1 = y1 from by rw [ht1, hy1], hv1]
        refine lv_aload_n hx hb dL_law_1978 rfl (lv_at hl 0 rfl) ?_
        refine lv_iload_n hx hb dL_law_1979 rfl (lv_at hl 3 rfl) ?_
        refine lv_iconst (v := 2) hx hb dL_law_1980 (by decide) ?_
        refine lv_iadd hx hb dL_law_1981 ?_
        refine lv_topi (fun t2 ht2 => ?_)
        have et2 : t2.toInt = x.toInt + 2 := by rw [ht2, addI _ _ (by simp only [Int32.reduceToInt]; omega)]; rfl
        refine va_sld hx hb hX hbl hbA hI.2.2.1 (vp_in_iff.mpr ⟨by omega, by omega⟩) dL_law_1982 ?_
        rw [show t2 = y2 from by rw [ht2, hy2], hv2]
        refine lv_aload_n hx hb dL_law_1983 rfl (lv_at hl 0 rfl) ?_
        refine lv_iload_n hx hb dL_law_1984 rfl (lv_at hl 3 rfl) ?_
        refine lv_iconst (v := 3) hx hb dL_law_1985 (by decide) ?_
        refine lv_iadd hx hb dL_law_1986 ?_
        refine lv_topi (fun t3 ht3 => ?_)
        have et3 : t3.toInt = x.toInt + 3 := by rw [ht3, addI _ _ (by simp only [Int32.reduceToInt]; omega)]; rfl
        refine va_sld hx hb hX hbl hbA hI.2.2.1 (vp_in_iff.mpr ⟨by omega, by omega⟩) dL_law_1987 ?_
        rw [show t3 = y3 from by rw [ht3, hy3], hv3]
        refine zlcall (con := zc_1258) (zq_RL_286 X (zM_1258 hw hm) (by decide) rfl rfl) rfl hI (As := [.ref g, .int v1, .int v2, .int v3]) (rest := []) ⟨⟨_, _, rfl, hk6.1, hk6.2⟩, ⟨_, rfl, hc1⟩, ⟨_, rfl, (bT _).1, hc2⟩, ⟨_, rfl, hc3⟩, trivial⟩ (Nat.le_of_ble_eq_true rfl) hl.1 dL_law_1988 (fun H locs w r hI hr hk hp => ?_)
        have hq := zrel_keep hk (by decide +kernel) hq
        have hr : zF2 (zok ks ad) [(0, (-2), (-2))] r := hr
        obtain ⟨_, _, rfl, ⟨z6, rfl, lz6⟩, hr2⟩ := zst1 hr
        obtain rfl := zst0 hr2
        dsimp only at lz6
        dsimp only [List.cons_append, List.nil_append]
        refine lv_pop hx hb dL_law_1991 rfl ?_
        refine lv_goto (tgt := 2131) hx hb dL_law_1992 (by decide) ?_
        exact hT ls _ _ _ hl ⟨hI, hq⟩
      · skip
        refine zlcall (con := zc_1208) (zq_RL_283 X (zM_1208 hw hm) (by decide) rfl rfl) rfl hI (As := [.ref h, .int v1, .int v2, .int v3]) (rest := []) ⟨⟨_, _, rfl, hk5.1, hk5.2⟩, ⟨_, rfl, hc1⟩, ⟨_, rfl, (bT _).1, hc2⟩, ⟨_, rfl, hc3, (bT _).2⟩, trivial⟩ (Nat.le_of_ble_eq_true rfl) hl.1 dL_law_1968 (fun H locs w r hI hr hk hp => ?_)
        have hq := zrel_keep hk (by decide +kernel) hq
        have hr : zF2 (zok ks ad) [(0, (-2), (-2))] r := hr
        obtain ⟨_, _, rfl, ⟨z7, rfl, lz7⟩, hr2⟩ := zst1 hr
        obtain rfl := zst0 hr2
        dsimp only at lz7
        dsimp only [List.cons_append, List.nil_append]
        refine lv_pop hx hb dL_law_1971 rfl ?_
        refine lv_aload_n hx hb dL_law_1972 rfl (lv_at hl 2 rfl) ?_
        refine lv_aload_n hx hb dL_law_1973 rfl (lv_at hl 0 rfl) ?_
        refine lv_iload_n hx hb dL_law_1974 rfl (lv_at hl 3 rfl) ?_
        refine lv_iconst (v := 1) hx hb dL_law_1975 (by decide) ?_
        refine lv_iadd hx hb dL_law_1976 ?_
        refine lv_topi (fun t1 ht1 => ?_)
        have et1 : t1.toInt = x.toInt + 1 := by rw [ht1, addI _ _ (by simp only [Int32.reduceToInt]; omega)]; rfl
        refine va_sld hx hb hX hbl hbA hI.2.2.1 (vp_in_iff.mpr ⟨by omega, by omega⟩) dL_law_1977 ?_
        rw [show t1 = y1 from by rw [ht1, hy1], hv1]
        refine lv_aload_n hx hb dL_law_1978 rfl (lv_at hl 0 rfl) ?_
        refine lv_iload_n hx hb dL_law_1979 rfl (lv_at hl 3 rfl) ?_
        refine lv_iconst (v := 2) hx hb dL_law_1980 (by decide) ?_
        refine lv_iadd hx hb dL_law_1981 ?_
        refine lv_topi (fun t2 ht2 => ?_)
        have et2 : t2.toInt = x.toInt + 2 := by rw [ht2, addI _ _ (by simp only [Int32.reduceToInt]; omega)]; rfl
        refine va_sld hx hb hX hbl hbA hI.2.2.1 (vp_in_iff.mpr ⟨by omega, by omega⟩) dL_law_1982 ?_
        rw [show t2 = y2 from by rw [ht2, hy2], hv2]
        refine lv_aload_n hx hb dL_law_1983 rfl (lv_at hl 0 rfl) ?_
        refine lv_iload_n hx hb dL_law_1984 rfl (lv_at hl 3 rfl) ?_
        refine lv_iconst (v := 3) hx hb dL_law_1985 (by decide) ?_
        refine lv_iadd hx hb dL_law_1986 ?_
        refine lv_topi (fun t3 ht3 => ?_)
        have et3 : t3.toInt = x.toInt + 3 := by rw [ht3, addI _ _ (by simp only [Int32.reduceToInt]; omega)]; rfl
        refine va_sld hx hb hX hbl hbA hI.2.2.1 (vp_in_iff.mpr ⟨by omega, by omega⟩) dL_law_1987 ?_
        rw [show t3 = y3 from by rw [ht3, hy3], hv3]
        refine zlcall (con := zc_1259) (zq_RL_286 X (zM_1259 hw hm) (by decide) rfl rfl) rfl hI (As := [.ref g, .int v1, .int v2, .int v3]) (rest := []) ⟨⟨_, _, rfl, hk6.1, hk6.2⟩, ⟨_, rfl, hc1⟩, ⟨_, rfl, (bT _).1, hc2⟩, ⟨_, rfl, hc3, (bT _).2⟩, trivial⟩ (Nat.le_of_ble_eq_true rfl) hl.1 dL_law_1988 (fun H locs w r hI hr hk hp => ?_)
        have hq := zrel_keep hk (by decide +kernel) hq
        have hr : zF2 (zok ks ad) [(0, (-2), (-2))] r := hr
        obtain ⟨_, _, rfl, ⟨z8, rfl, lz8⟩, hr2⟩ := zst1 hr
        obtain rfl := zst0 hr2
        dsimp only at lz8
        dsimp only [List.cons_append, List.nil_append]
        refine lv_pop hx hb dL_law_1991 rfl ?_
        refine lv_goto (tgt := 2131) hx hb dL_law_1992 (by decide) ?_
        exact hT ls _ _ _ hl ⟨hI, hq⟩
    · skip
      rcases (show v3.toInt ≤ -1 ∨ (0 ≤ v3.toInt ∧ v3.toInt ≤ 60) ∨ 61 ≤ v3.toInt from by omega) with hc3 | hc3 | hc3
      · skip
        refine zlcall (con := zc_1209) (zq_RL_283 X (zM_1209 hw hm) (by decide) rfl rfl) rfl hI (As := [.ref h, .int v1, .int v2, .int v3]) (rest := []) ⟨⟨_, _, rfl, hk5.1, hk5.2⟩, ⟨_, rfl, hc1⟩, ⟨_, rfl, hc2⟩, ⟨_, rfl, (bT _).1, hc3⟩, trivial⟩ (Nat.le_of_ble_eq_true rfl) hl.1 dL_law_1968 (fun H locs w r hI hr hk hp => ?_)
        have hq := zrel_keep hk (by decide +kernel) hq
        have hr : zF2 (zok ks ad) [(0, (-3), (-3))] r := hr
        obtain ⟨_, _, rfl, ⟨z9, rfl, lz9⟩, hr2⟩ := zst1 hr
        obtain rfl := zst0 hr2
        dsimp only at lz9
        dsimp only [List.cons_append, List.nil_append]
        refine lv_pop hx hb dL_law_1971 rfl ?_
        refine lv_aload_n hx hb dL_law_1972 rfl (lv_at hl 2 rfl) ?_
        refine lv_aload_n hx hb dL_law_1973 rfl (lv_at hl 0 rfl) ?_
        refine lv_iload_n hx hb dL_law_1974 rfl (lv_at hl 3 rfl) ?_
        refine lv_iconst (v := 1) hx hb dL_law_1975 (by decide) ?_
        refine lv_iadd hx hb dL_law_1976 ?_
        refine lv_topi (fun t1 ht1 => ?_)
        have et1 : t1.toInt = x.toInt + 1 := by rw [ht1, addI _ _ (by simp only [Int32.reduceToInt]; omega)]; rfl
        refine va_sld hx hb hX hbl hbA hI.2.2.1 (vp_in_iff.mpr ⟨by omega, by omega⟩) dL_law_1977 ?_
        rw [show t1 = y1 from by rw [ht1, hy1], hv1]
        refine lv_aload_n hx hb dL_law_1978 rfl (lv_at hl 0 rfl) ?_
        refine lv_iload_n hx hb dL_law_1979 rfl (lv_at hl 3 rfl) ?_
        refine lv_iconst (v := 2) hx hb dL_law_1980 (by decide) ?_
        refine lv_iadd hx hb dL_law_1981 ?_
        refine lv_topi (fun t2 ht2 => ?_)
        have et2 : t2.toInt = x.toInt + 2 := by rw [ht2, addI _ _ (by simp only [Int32.reduceToInt]; omega)]; rfl
        refine va_sld hx hb hX hbl hbA hI.2.2.1 (vp_in_iff.mpr ⟨by omega, by omega⟩) dL_law_1982 ?_
        rw [show t2 = y2 from by rw [ht2, hy2], hv2]
        refine lv_aload_n hx hb dL_law_1983 rfl (lv_at hl 0 rfl) ?_
        refine lv_iload_n hx hb dL_law_1984 rfl (lv_at hl 3 rfl) ?_
        refine lv_iconst (v := 3) hx hb dL_law_1985 (by decide) ?_
        refine lv_iadd hx hb dL_law_1986 ?_
        refine lv_topi (fun t3 ht3 => ?_)
        have et3 : t3.toInt = x.toInt + 3 := by rw [ht3, addI _ _ (by simp only [Int32.reduceToInt]; omega)]; rfl
        refine va_sld hx hb hX hbl hbA hI.2.2.1 (vp_in_iff.mpr ⟨by omega, by omega⟩) dL_law_1987 ?_
        rw [show t3 = y3 from by rw [ht3, hy3], hv3]
        refine zlcall (con := zc_1260) (zq_RL_286 X (zM_1260 hw hm) (by decide) rfl rfl) rfl hI (As := [.ref g, .int v1, .int v2, .int v3]) (rest := []) ⟨⟨_, _, rfl, hk6.1, hk6.2⟩, ⟨_, rfl, hc1⟩, ⟨_, rfl, hc2⟩, ⟨_, rfl, (bT _).1, hc3⟩, trivial⟩ (Nat.le_of_ble_eq_true rfl) hl.1 dL_law_1988 (fun H locs w r hI hr hk hp => ?_)
        have hq := zrel_keep hk (by decide +kernel) hq
        have hr : zF2 (zok ks ad) [(0, (-3), (-3))] r := hr
        obtain ⟨_, _, rfl, ⟨z10, rfl, lz10⟩, hr2⟩ := zst1 hr
        obtain rfl := zst0 hr2
        dsimp only at lz10
        dsimp only [List.cons_append, List.nil_append]
        refine lv_pop hx hb dL_law_1991 rfl ?_
        refine lv_goto (tgt := 2131) hx hb dL_law_1992 (by decide) ?_
        exact hT ls _ _ _ hl ⟨hI, hq⟩
      · skip
        refine zlcall (con := zc_1210) (zq_RL_283 X (zM_1210 hw hm) (by decide) rfl rfl) rfl hI (As := [.ref h, .int v1, .int v2, .int v3]) (rest := []) ⟨⟨_, _, rfl, hk5.1, hk5.2⟩, ⟨_, rfl, hc1⟩, ⟨_, rfl, hc2⟩, ⟨_, rfl, hc3⟩, trivial⟩ (Nat.le_of_ble_eq_true rfl) hl.1 dL_law_1968 (fun H locs wA r hI hr hkA hpA => ?_)
        have hr : zF2 (zok ks ad) [(0, (0), (0))] r := hr
        obtain ⟨_, _, rfl, ⟨z11, rfl, lz11⟩, hr2⟩ := zst1 hr
        obtain rfl := zst0 hr2
        dsimp only at lz11
        dsimp only [List.cons_append, List.nil_append]
        refine lv_pop hx hb dL_law_1971 rfl ?_
        refine lv_aload_n hx hb dL_law_1972 rfl (lv_at hl 2 rfl) ?_
        refine lv_aload_n hx hb dL_law_1973 rfl (lv_at hl 0 rfl) ?_
        refine lv_iload_n hx hb dL_law_1974 rfl (lv_at hl 3 rfl) ?_
        refine lv_iconst (v := 1) hx hb dL_law_1975 (by decide) ?_
        refine lv_iadd hx hb dL_law_1976 ?_
        refine lv_topi (fun t1 ht1 => ?_)
        have et1 : t1.toInt = x.toInt + 1 := by rw [ht1, addI _ _ (by simp only [Int32.reduceToInt]; omega)]; rfl
        refine va_sld hx hb hX hbl hbA hI.2.2.1 (vp_in_iff.mpr ⟨by omega, by omega⟩) dL_law_1977 ?_
        rw [show t1 = y1 from by rw [ht1, hy1], hv1]
        refine lv_aload_n hx hb dL_law_1978 rfl (lv_at hl 0 rfl) ?_
        refine lv_iload_n hx hb dL_law_1979 rfl (lv_at hl 3 rfl) ?_
        refine lv_iconst (v := 2) hx hb dL_law_1980 (by decide) ?_
        refine lv_iadd hx hb dL_law_1981 ?_
        refine lv_topi (fun t2 ht2 => ?_)
        have et2 : t2.toInt = x.toInt + 2 := by rw [ht2, addI _ _ (by simp only [Int32.reduceToInt]; omega)]; rfl
        refine va_sld hx hb hX hbl hbA hI.2.2.1 (vp_in_iff.mpr ⟨by omega, by omega⟩) dL_law_1982 ?_
        rw [show t2 = y2 from by rw [ht2, hy2], hv2]
        refine lv_aload_n hx hb dL_law_1983 rfl (lv_at hl 0 rfl) ?_
        refine lv_iload_n hx hb dL_law_1984 rfl (lv_at hl 3 rfl) ?_
        refine lv_iconst (v := 3) hx hb dL_law_1985 (by decide) ?_
        refine lv_iadd hx hb dL_law_1986 ?_
        refine lv_topi (fun t3 ht3 => ?_)
        have et3 : t3.toInt = x.toInt + 3 := by rw [ht3, addI _ _ (by simp only [Int32.reduceToInt]; omega)]; rfl
        refine va_sld hx hb hX hbl hbA hI.2.2.1 (vp_in_iff.mpr ⟨by omega, by omega⟩) dL_law_1987 ?_
        rw [show t3 = y3 from by rw [ht3, hy3], hv3]
        refine zlcall (con := zc_1261) (zq_RL_286 X (zM_1261 hw hm) (by decide) rfl rfl) rfl hI (As := [.ref g, .int v1, .int v2, .int v3]) (rest := []) ⟨⟨_, _, rfl, hk6.1, hk6.2⟩, ⟨_, rfl, hc1⟩, ⟨_, rfl, hc2⟩, ⟨_, rfl, hc3⟩, trivial⟩ (Nat.le_of_ble_eq_true rfl) hl.1 dL_law_1988 (fun H locs wB r hI hr hkB hpB => ?_)
        have hr : zF2 (zok ks ad) [(0, (0), (0))] r := hr
        obtain ⟨_, _, rfl, ⟨z12, rfl, lz12⟩, hr2⟩ := zst1 hr
        obtain rfl := zst0 hr2
        dsimp only at lz12
        dsimp only [List.cons_append, List.nil_append]
        have oA : (1 : Int) ≤ zfv ks wA 29 1000 ∧ zfv ks wA 29 1000 ≤ 1 := hpA.2.1 (29, 1000, 1, 1) (List.mem_of_getElem? (i := 0) rfl)
        have oW : (0 : Int) ≤ zfv ks wB 36 1000 ∧ zfv ks wB 36 1000 ≤ 3 := hpB.2.1 (36, 1000, 0, 3) (List.mem_of_getElem? (i := 0) rfl)
        have oS := zrowf (x1 := 0) (x2 := v1.toInt) (a := v2.toInt) (b := v3.toInt) (p := zfv ks wA 29 1000) (q := zfv ks wA 30 1000) (r := zfv ks wA 31 1000) (t := z11.toInt) hpA.2.2 (by decide +kernel) (by decide +kernel)
        have oM := zrowg (x1 := 0) (x2 := v1.toInt) (a := v2.toInt) (b := v3.toInt) (q := zfv ks wB 36 1000) (r := zfv ks wB 37 1000) (t := z12.toInt) hpB.2.2 (by decide +kernel) (by decide +kernel)
        have oV := zroww (x1 := 0) (x2 := v1.toInt) (a := v2.toInt) (b := v3.toInt) (p := zfv ks wA 29 1000) (q := zfv ks wA 30 1000) (r := zfv ks wA 31 1000) (t := z11.toInt) hpA.2.2 (by decide +kernel) (by decide +kernel)
        have oU := zrowx (x1 := 0) (x2 := v1.toInt) (a := v2.toInt) (b := v3.toInt) (q := zfv ks wB 36 1000) (r := zfv ks wB 37 1000) (t := z12.toInt) hpB.2.2 (by decide +kernel) (by decide +kernel)
        have hq := zrel_row 0 hq hkA hkB (by decide +kernel) (by decide +kernel) (by decide +kernel) (by decide +kernel) (by decide +kernel) (Int.le_antisymm oA.2 oA.1) oS oW.1 oM oV oU
        refine lv_pop hx hb dL_law_1991 rfl ?_
        refine lv_goto (tgt := 2131) hx hb dL_law_1992 (by decide) ?_
        exact hT ls _ _ _ hl ⟨hI, hq⟩
      · skip
        refine zlcall (con := zc_1211) (zq_RL_283 X (zM_1211 hw hm) (by decide) rfl rfl) rfl hI (As := [.ref h, .int v1, .int v2, .int v3]) (rest := []) ⟨⟨_, _, rfl, hk5.1, hk5.2⟩, ⟨_, rfl, hc1⟩, ⟨_, rfl, hc2⟩, ⟨_, rfl, hc3, (bT _).2⟩, trivial⟩ (Nat.le_of_ble_eq_true rfl) hl.1 dL_law_1968 (fun H locs w r hI hr hk hp => ?_)
        have hq := zrel_keep hk (by decide +kernel) hq
        have hr : zF2 (zok ks ad) [(0, (-2), (-2))] r := hr
        obtain ⟨_, _, rfl, ⟨z13, rfl, lz13⟩, hr2⟩ := zst1 hr
        obtain rfl := zst0 hr2
        dsimp only at lz13
        dsimp only [List.cons_append, List.nil_append]
        refine lv_pop hx hb dL_law_1971 rfl ?_
        refine lv_aload_n hx hb dL_law_1972 rfl (lv_at hl 2 rfl) ?_
        refine lv_aload_n hx hb dL_law_1973 rfl (lv_at hl 0 rfl) ?_
        refine lv_iload_n hx hb dL_law_1974 rfl (lv_at hl 3 rfl) ?_
        refine lv_iconst (v := 1) hx hb dL_law_1975 (by decide) ?_
        refine lv_iadd hx hb dL_law_1976 ?_
        refine lv_topi (fun t1 ht1 => ?_)
        have et1 : t1.toInt = x.toInt + 1 := by rw [ht1, addI _ _ (by simp only [Int32.reduceToInt]; omega)]; rfl
        refine va_sld hx hb hX hbl hbA hI.2.2.1 (vp_in_iff.mpr ⟨by omega, by omega⟩) dL_law_1977 ?_
        rw [show t1 = y1 from by rw [ht1, hy1], hv1]
        refine lv_aload_n hx hb dL_law_1978 rfl (lv_at hl 0 rfl) ?_
        refine lv_iload_n hx hb dL_law_1979 rfl (lv_at hl 3 rfl) ?_
        refine lv_iconst (v := 2) hx hb dL_law_1980 (by decide) ?_
        refine lv_iadd hx hb dL_law_1981 ?_
        refine lv_topi (fun t2 ht2 => ?_)
        have et2 : t2.toInt = x.toInt + 2 := by rw [ht2, addI _ _ (by simp only [Int32.reduceToInt]; omega)]; rfl
        refine va_sld hx hb hX hbl hbA hI.2.2.1 (vp_in_iff.mpr ⟨by omega, by omega⟩) dL_law_1982 ?_
        rw [show t2 = y2 from by rw [ht2, hy2], hv2]
        refine lv_aload_n hx hb dL_law_1983 rfl (lv_at hl 0 rfl) ?_
        refine lv_iload_n hx hb dL_law_1984 rfl (lv_at hl 3 rfl) ?_
        refine lv_iconst (v := 3) hx hb dL_law_1985 (by decide) ?_
        refine lv_iadd hx hb dL_law_1986 ?_
        refine lv_topi (fun t3 ht3 => ?_)
        have et3 : t3.toInt = x.toInt + 3 := by rw [ht3, addI _ _ (by simp only [Int32.reduceToInt]; omega)]; rfl
        refine va_sld hx hb hX hbl hbA hI.2.2.1 (vp_in_iff.mpr ⟨by omega, by omega⟩) dL_law_1987 ?_
        rw [show t3 = y3 from by rw [ht3, hy3], hv3]
        refine zlcall (con := zc_1262) (zq_RL_286 X (zM_1262 hw hm) (by decide) rfl rfl) rfl hI (As := [.ref g, .int v1, .int v2, .int v3]) (rest := []) ⟨⟨_, _, rfl, hk6.1, hk6.2⟩, ⟨_, rfl, hc1⟩, ⟨_, rfl, hc2⟩, ⟨_, rfl, hc3, (bT _).2⟩, trivial⟩ (Nat.le_of_ble_eq_true rfl) hl.1 dL_law_1988 (fun H locs w r hI hr hk hp => ?_)
        have hq := zrel_keep hk (by decide +kernel) hq
        have hr : zF2 (zok ks ad) [(0, (-2), (-2))] r := hr
        obtain ⟨_, _, rfl, ⟨z14, rfl, lz14⟩, hr2⟩ := zst1 hr
        obtain rfl := zst0 hr2
        dsimp only at lz14
        dsimp only [List.cons_append, List.nil_append]
        refine lv_pop hx hb dL_law_1991 rfl ?_
        refine lv_goto (tgt := 2131) hx hb dL_law_1992 (by decide) ?_
        exact hT ls _ _ _ hl ⟨hI, hq⟩
    · skip
      rcases (show v3.toInt ≤ -1 ∨ (0 ≤ v3.toInt ∧ v3.toInt ≤ 60) ∨ 61 ≤ v3.toInt from by omega) with hc3 | hc3 | hc3
      · skip
        refine zlcall (con := zc_1212) (zq_RL_283 X (zM_1212 hw hm) (by decide) rfl rfl) rfl hI (As := [.ref h, .int v1, .int v2, .int v3]) (rest := []) ⟨⟨_, _, rfl, hk5.1, hk5.2⟩, ⟨_, rfl, hc1⟩, ⟨_, rfl, hc2, (bT _).2⟩, ⟨_, rfl, (bT _).1, hc3⟩, trivial⟩ (Nat.le_of_ble_eq_true rfl) hl.1 dL_law_1968 (fun H locs w r hI hr hk hp => ?_)
        have hq := zrel_keep hk (by decide +kernel) hq
        have hr : zF2 (zok ks ad) [(0, (-2), (-2))] r := hr
        obtain ⟨_, _, rfl, ⟨z15, rfl, lz15⟩, hr2⟩ := zst1 hr
        obtain rfl := zst0 hr2
        dsimp only at lz15
        dsimp only [List.cons_append, List.nil_append]
        refine lv_pop hx hb dL_law_1971 rfl ?_
        refine lv_aload_n hx hb dL_law_1972 rfl (lv_at hl 2 rfl) ?_
        refine lv_aload_n hx hb dL_law_1973 rfl (lv_at hl 0 rfl) ?_
        refine lv_iload_n hx hb dL_law_1974 rfl (lv_at hl 3 rfl) ?_
        refine lv_iconst (v := 1) hx hb dL_law_1975 (by decide) ?_
        refine lv_iadd hx hb dL_law_1976 ?_
        refine lv_topi (fun t1 ht1 => ?_)
        have et1 : t1.toInt = x.toInt + 1 := by rw [ht1, addI _ _ (by simp only [Int32.reduceToInt]; omega)]; rfl
        refine va_sld hx hb hX hbl hbA hI.2.2.1 (vp_in_iff.mpr ⟨by omega, by omega⟩) dL_law_1977 ?_
        rw [show t1 = y1 from by rw [ht1, hy1], hv1]
        refine lv_aload_n hx hb dL_law_1978 rfl (lv_at hl 0 rfl) ?_
        refine lv_iload_n hx hb dL_law_1979 rfl (lv_at hl 3 rfl) ?_
        refine lv_iconst (v := 2) hx hb dL_law_1980 (by decide) ?_
        refine lv_iadd hx hb dL_law_1981 ?_
        refine lv_topi (fun t2 ht2 => ?_)
        have et2 : t2.toInt = x.toInt + 2 := by rw [ht2, addI _ _ (by simp only [Int32.reduceToInt]; omega)]; rfl
        refine va_sld hx hb hX hbl hbA hI.2.2.1 (vp_in_iff.mpr ⟨by omega, by omega⟩) dL_law_1982 ?_
        rw [show t2 = y2 from by rw [ht2, hy2], hv2]
        refine lv_aload_n hx hb dL_law_1983 rfl (lv_at hl 0 rfl) ?_
        refine lv_iload_n hx hb dL_law_1984 rfl (lv_at hl 3 rfl) ?_
        refine lv_iconst (v := 3) hx hb dL_law_1985 (by decide) ?_
        refine lv_iadd hx hb dL_law_1986 ?_
        refine lv_topi (fun t3 ht3 => ?_)
        have et3 : t3.toInt = x.toInt + 3 := by rw [ht3, addI _ _ (by simp only [Int32.reduceToInt]; omega)]; rfl
        refine va_sld hx hb hX hbl hbA hI.2.2.1 (vp_in_iff.mpr ⟨by omega, by omega⟩) dL_law_1987 ?_
        rw [show t3 = y3 from by rw [ht3, hy3], hv3]
        refine zlcall (con := zc_1263) (zq_RL_286 X (zM_1263 hw hm) (by decide) rfl rfl) rfl hI (As := [.ref g, .int v1, .int v2, .int v3]) (rest := []) ⟨⟨_, _, rfl, hk6.1, hk6.2⟩, ⟨_, rfl, hc1⟩, ⟨_, rfl, hc2, (bT _).2⟩, ⟨_, rfl, (bT _).1, hc3⟩, trivial⟩ (Nat.le_of_ble_eq_true rfl) hl.1 dL_law_1988 (fun H locs w r hI hr hk hp => ?_)
        have hq := zrel_keep hk (by decide +kernel) hq
        have hr : zF2 (zok ks ad) [(0, (-2), (-2))] r := hr
        obtain ⟨_, _, rfl, ⟨z16, rfl, lz16⟩, hr2⟩ := zst1 hr
        obtain rfl := zst0 hr2
        dsimp only at lz16
        dsimp only [List.cons_append, List.nil_append]
        refine lv_pop hx hb dL_law_1991 rfl ?_
        refine lv_goto (tgt := 2131) hx hb dL_law_1992 (by decide) ?_
        exact hT ls _ _ _ hl ⟨hI, hq⟩
      · skip
        refine zlcall (con := zc_1213) (zq_RL_283 X (zM_1213 hw hm) (by decide) rfl rfl) rfl hI (As := [.ref h, .int v1, .int v2, .int v3]) (rest := []) ⟨⟨_, _, rfl, hk5.1, hk5.2⟩, ⟨_, rfl, hc1⟩, ⟨_, rfl, hc2, (bT _).2⟩, ⟨_, rfl, hc3⟩, trivial⟩ (Nat.le_of_ble_eq_true rfl) hl.1 dL_law_1968 (fun H locs w r hI hr hk hp => ?_)
        have hq := zrel_keep hk (by decide +kernel) hq
        have hr : zF2 (zok ks ad) [(0, (-2), (-2))] r := hr
        obtain ⟨_, _, rfl, ⟨z17, rfl, lz17⟩, hr2⟩ := zst1 hr
        obtain rfl := zst0 hr2
        dsimp only at lz17
        dsimp only [List.cons_append, List.nil_append]
        refine lv_pop hx hb dL_law_1971 rfl ?_
        refine lv_aload_n hx hb dL_law_1972 rfl (lv_at hl 2 rfl) ?_
        refine lv_aload_n hx hb dL_law_1973 rfl (lv_at hl 0 rfl) ?_
        refine lv_iload_n hx hb dL_law_1974 rfl (lv_at hl 3 rfl) ?_
        refine lv_iconst (v := 1) hx hb dL_law_1975 (by decide) ?_
        refine lv_iadd hx hb dL_law_1976 ?_
        refine lv_topi (fun t1 ht1 => ?_)
        have et1 : t1.toInt = x.toInt + 1 := by rw [ht1, addI _ _ (by simp only [Int32.reduceToInt]; omega)]; rfl
        refine va_sld hx hb hX hbl hbA hI.2.2.1 (vp_in_iff.mpr ⟨by omega, by omega⟩) dL_law_1977 ?_
        rw [show t1 = y1 from by rw [ht1, hy1], hv1]
        refine lv_aload_n hx hb dL_law_1978 rfl (lv_at hl 0 rfl) ?_
        refine lv_iload_n hx hb dL_law_1979 rfl (lv_at hl 3 rfl) ?_
        refine lv_iconst (v := 2) hx hb dL_law_1980 (by decide) ?_
        refine lv_iadd hx hb dL_law_1981 ?_
        refine lv_topi (fun t2 ht2 => ?_)
        have et2 : t2.toInt = x.toInt + 2 := by rw [ht2, addI _ _ (by simp only [Int32.reduceToInt]; omega)]; rfl
        refine va_sld hx hb hX hbl hbA hI.2.2.1 (vp_in_iff.mpr ⟨by omega, by omega⟩) dL_law_1982 ?_
        rw [show t2 = y2 from by rw [ht2, hy2], hv2]
        refine lv_aload_n hx hb dL_law_1983 rfl (lv_at hl 0 rfl) ?_
        refine lv_iload_n hx hb dL_law_1984 rfl (lv_at hl 3 rfl) ?_
        refine lv_iconst (v := 3) hx hb dL_law_1985 (by decide) ?_
        refine lv_iadd hx hb dL_law_1986 ?_
        refine lv_topi (fun t3 ht3 => ?_)
        have et3 : t3.toInt = x.toInt + 3 := by rw [ht3, addI _ _ (by simp only [Int32.reduceToInt]; omega)]; rfl
        refine va_sld hx hb hX hbl hbA hI.2.2.1 (vp_in_iff.mpr ⟨by omega, by omega⟩) dL_law_1987 ?_
        rw [show t3 = y3 from by rw [ht3, hy3], hv3]
        refine zlcall (con := zc_1264) (zq_RL_286 X (zM_1264 hw hm) (by decide) rfl rfl) rfl hI (As := [.ref g, .int v1, .int v2, .int v3]) (rest := []) ⟨⟨_, _, rfl, hk6.1, hk6.2⟩, ⟨_, rfl, hc1⟩, ⟨_, rfl, hc2, (bT _).2⟩, ⟨_, rfl, hc3⟩, trivial⟩ (Nat.le_of_ble_eq_true rfl) hl.1 dL_law_1988 (fun H locs w r hI hr hk hp => ?_)
        have hq := zrel_keep hk (by decide +kernel) hq
        have hr : zF2 (zok ks ad) [(0, (-2), (-2))] r := hr
        obtain ⟨_, _, rfl, ⟨z18, rfl, lz18⟩, hr2⟩ := zst1 hr
        obtain rfl := zst0 hr2
        dsimp only at lz18
        dsimp only [List.cons_append, List.nil_append]
        refine lv_pop hx hb dL_law_1991 rfl ?_
        refine lv_goto (tgt := 2131) hx hb dL_law_1992 (by decide) ?_
        exact hT ls _ _ _ hl ⟨hI, hq⟩
      · skip
        refine zlcall (con := zc_1214) (zq_RL_283 X (zM_1214 hw hm) (by decide) rfl rfl) rfl hI (As := [.ref h, .int v1, .int v2, .int v3]) (rest := []) ⟨⟨_, _, rfl, hk5.1, hk5.2⟩, ⟨_, rfl, hc1⟩, ⟨_, rfl, hc2, (bT _).2⟩, ⟨_, rfl, hc3, (bT _).2⟩, trivial⟩ (Nat.le_of_ble_eq_true rfl) hl.1 dL_law_1968 (fun H locs w r hI hr hk hp => ?_)
        have hq := zrel_keep hk (by decide +kernel) hq
        have hr : zF2 (zok ks ad) [(0, (-2), (-2))] r := hr
        obtain ⟨_, _, rfl, ⟨z19, rfl, lz19⟩, hr2⟩ := zst1 hr
        obtain rfl := zst0 hr2
        dsimp only at lz19
        dsimp only [List.cons_append, List.nil_append]
        refine lv_pop hx hb dL_law_1971 rfl ?_
        refine lv_aload_n hx hb dL_law_1972 rfl (lv_at hl 2 rfl) ?_
        refine lv_aload_n hx hb dL_law_1973 rfl (lv_at hl 0 rfl) ?_
        refine lv_iload_n hx hb dL_law_1974 rfl (lv_at hl 3 rfl) ?_
        refine lv_iconst (v := 1) hx hb dL_law_1975 (by decide) ?_
        refine lv_iadd hx hb dL_law_1976 ?_
        refine lv_topi (fun t1 ht1 => ?_)
        have et1 : t1.toInt = x.toInt + 1 := by rw [ht1, addI _ _ (by simp only [Int32.reduceToInt]; omega)]; rfl
        refine va_sld hx hb hX hbl hbA hI.2.2.1 (vp_in_iff.mpr ⟨by omega, by omega⟩) dL_law_1977 ?_
        rw [show t1 = y1 from by rw [ht1, hy1], hv1]
        refine lv_aload_n hx hb dL_law_1978 rfl (lv_at hl 0 rfl) ?_
        refine lv_iload_n hx hb dL_law_1979 rfl (lv_at hl 3 rfl) ?_
        refine lv_iconst (v := 2) hx hb dL_law_1980 (by decide) ?_
        refine lv_iadd hx hb dL_law_1981 ?_
        refine lv_topi (fun t2 ht2 => ?_)
        have et2 : t2.toInt = x.toInt + 2 := by rw [ht2, addI _ _ (by simp only [Int32.reduceToInt]; omega)]; rfl
        refine va_sld hx hb hX hbl hbA hI.2.2.1 (vp_in_iff.mpr ⟨by omega, by omega⟩) dL_law_1982 ?_
        rw [show t2 = y2 from by rw [ht2, hy2], hv2]
        refine lv_aload_n hx hb dL_law_1983 rfl (lv_at hl 0 rfl) ?_
        refine lv_iload_n hx hb dL_law_1984 rfl (lv_at hl 3 rfl) ?_
        refine lv_iconst (v := 3) hx hb dL_law_1985 (by decide) ?_
        refine lv_iadd hx hb dL_law_1986 ?_
        refine lv_topi (fun t3 ht3 => ?_)
        have et3 : t3.toInt = x.toInt + 3 := by rw [ht3, addI _ _ (by simp only [Int32.reduceToInt]; omega)]; rfl
        refine va_sld hx hb hX hbl hbA hI.2.2.1 (vp_in_iff.mpr ⟨by omega, by omega⟩) dL_law_1987 ?_
        rw [show t3 = y3 from by rw [ht3, hy3], hv3]
        refine zlcall (con := zc_1265) (zq_RL_286 X (zM_1265 hw hm) (by decide) rfl rfl) rfl hI (As := [.ref g, .int v1, .int v2, .int v3]) (rest := []) ⟨⟨_, _, rfl, hk6.1, hk6.2⟩, ⟨_, rfl, hc1⟩, ⟨_, rfl, hc2, (bT _).2⟩, ⟨_, rfl, hc3, (bT _).2⟩, trivial⟩ (Nat.le_of_ble_eq_true rfl) hl.1 dL_law_1988 (fun H locs w r hI hr hk hp => ?_)
        have hq := zrel_keep hk (by decide +kernel) hq
        have hr : zF2 (zok ks ad) [(0, (-2), (-2))] r := hr
        obtain ⟨_, _, rfl, ⟨z20, rfl, lz20⟩, hr2⟩ := zst1 hr
        obtain rfl := zst0 hr2
        dsimp only at lz20
        dsimp only [List.cons_append, List.nil_append]
        refine lv_pop hx hb dL_law_1991 rfl ?_
        refine lv_goto (tgt := 2131) hx hb dL_law_1992 (by decide) ?_
        exact hT ls _ _ _ hl ⟨hI, hq⟩
  · skip
    rcases (show v2.toInt ≤ -1 ∨ (0 ≤ v2.toInt ∧ v2.toInt ≤ 3) ∨ 4 ≤ v2.toInt from by omega) with hc2 | hc2 | hc2
    · skip
      rcases (show v3.toInt ≤ -1 ∨ (0 ≤ v3.toInt ∧ v3.toInt ≤ 60) ∨ 61 ≤ v3.toInt from by omega) with hc3 | hc3 | hc3
      · skip
        refine zlcall (con := zc_1215) (zq_RL_283 X (zM_1215 hw hm) (by decide) rfl rfl) rfl hI (As := [.ref h, .int v1, .int v2, .int v3]) (rest := []) ⟨⟨_, _, rfl, hk5.1, hk5.2⟩, ⟨_, rfl, hc1⟩, ⟨_, rfl, (bT _).1, hc2⟩, ⟨_, rfl, (bT _).1, hc3⟩, trivial⟩ (Nat.le_of_ble_eq_true rfl) hl.1 dL_law_1968 (fun H locs w r hI hr hk hp => ?_)
        have hq := zrel_keep hk (by decide +kernel) hq
        have hr : zF2 (zok ks ad) [(0, (-2), (-2))] r := hr
        obtain ⟨_, _, rfl, ⟨z21, rfl, lz21⟩, hr2⟩ := zst1 hr
        obtain rfl := zst0 hr2
        dsimp only at lz21
        dsimp only [List.cons_append, List.nil_append]
        refine lv_pop hx hb dL_law_1971 rfl ?_
        refine lv_aload_n hx hb dL_law_1972 rfl (lv_at hl 2 rfl) ?_
        refine lv_aload_n hx hb dL_law_1973 rfl (lv_at hl 0 rfl) ?_
        refine lv_iload_n hx hb dL_law_1974 rfl (lv_at hl 3 rfl) ?_
        refine lv_iconst (v := 1) hx hb dL_law_1975 (by decide) ?_
        refine lv_iadd hx hb dL_law_1976 ?_
        refine lv_topi (fun t1 ht1 => ?_)
        have et1 : t1.toInt = x.toInt + 1 := by rw [ht1, addI _ _ (by simp only [Int32.reduceToInt]; omega)]; rfl
        refine va_sld hx hb hX hbl hbA hI.2.2.1 (vp_in_iff.mpr ⟨by omega, by omega⟩) dL_law_1977 ?_
        rw [show t1 = y1 from by rw [ht1, hy1], hv1]
        refine lv_aload_n hx hb dL_law_1978 rfl (lv_at hl 0 rfl) ?_
        refine lv_iload_n hx hb dL_law_1979 rfl (lv_at hl 3 rfl) ?_
        refine lv_iconst (v := 2) hx hb dL_law_1980 (by decide) ?_
        refine lv_iadd hx hb dL_law_1981 ?_
        refine lv_topi (fun t2 ht2 => ?_)
        have et2 : t2.toInt = x.toInt + 2 := by rw [ht2, addI _ _ (by simp only [Int32.reduceToInt]; omega)]; rfl
        refine va_sld hx hb hX hbl hbA hI.2.2.1 (vp_in_iff.mpr ⟨by omega, by omega⟩) dL_law_1982 ?_
        rw [show t2 = y2 from by rw [ht2, hy2], hv2]
        refine lv_aload_n hx hb dL_law_1983 rfl (lv_at hl 0 rfl) ?_
        refine lv_iload_n hx hb dL_law_1984 rfl (lv_at hl 3 rfl) ?_
        refine lv_iconst (v := 3) hx hb dL_law_1985 (by decide) ?_
        refine lv_iadd hx hb dL_law_1986 ?_
        refine lv_topi (fun t3 ht3 => ?_)
        have et3 : t3.toInt = x.toInt + 3 := by rw [ht3, addI _ _ (by simp only [Int32.reduceToInt]; omega)]; rfl
        refine va_sld hx hb hX hbl hbA hI.2.2.1 (vp_in_iff.mpr ⟨by omega, by omega⟩) dL_law_1987 ?_
        rw [show t3 = y3 from by rw [ht3, hy3], hv3]
        refine zlcall (con := zc_1266) (zq_RL_286 X (zM_1266 hw hm) (by decide) rfl rfl) rfl hI (As := [.ref g, .int v1, .int v2, .int v3]) (rest := []) ⟨⟨_, _, rfl, hk6.1, hk6.2⟩, ⟨_, rfl, hc1⟩, ⟨_, rfl, (bT _).1, hc2⟩, ⟨_, rfl, (bT _).1, hc3⟩, trivial⟩ (Nat.le_of_ble_eq_true rfl) hl.1 dL_law_1988 (fun H locs w r hI hr hk hp => ?_)
        have hq := zrel_keep hk (by decide +kernel) hq
        have hr : zF2 (zok ks ad) [(0, (-2), (-2))] r := hr
        obtain ⟨_, _, rfl, ⟨z22, rfl, lz22⟩, hr2⟩ := zst1 hr
        obtain rfl := zst0 hr2
        dsimp only at lz22
        dsimp only [List.cons_append, List.nil_append]
        refine lv_pop hx hb dL_law_1991 rfl ?_
        refine lv_goto (tgt := 2131) hx hb dL_law_1992 (by decide) ?_
        exact hT ls _ _ _ hl ⟨hI, hq⟩
      · skip
        refine zlcall (con := zc_1216) (zq_RL_283 X (zM_1216 hw hm) (by decide) rfl rfl) rfl hI (As := [.ref h, .int v1, .int v2, .int v3]) (rest := []) ⟨⟨_, _, rfl, hk5.1, hk5.2⟩, ⟨_, rfl, hc1⟩, ⟨_, rfl, (bT _).1, hc2⟩, ⟨_, rfl, hc3⟩, trivial⟩ (Nat.le_of_ble_eq_true rfl) hl.1 dL_law_1968 (fun H locs w r hI hr hk hp => ?_)
        have hq := zrel_keep hk (by decide +kernel) hq
        have hr : zF2 (zok ks ad) [(0, (-2), (-2))] r := hr
        obtain ⟨_, _, rfl, ⟨z23, rfl, lz23⟩, hr2⟩ := zst1 hr
        obtain rfl := zst0 hr2
        dsimp only at lz23
        dsimp only [List.cons_append, List.nil_append]
        refine lv_pop hx hb dL_law_1971 rfl ?_
        refine lv_aload_n hx hb dL_law_1972 rfl (lv_at hl 2 rfl) ?_
        refine lv_aload_n hx hb dL_law_1973 rfl (lv_at hl 0 rfl) ?_
        refine lv_iload_n hx hb dL_law_1974 rfl (lv_at hl 3 rfl) ?_
        refine lv_iconst (v := 1) hx hb dL_law_1975 (by decide) ?_
        refine lv_iadd hx hb dL_law_1976 ?_
        refine lv_topi (fun t1 ht1 => ?_)
        have et1 : t1.toInt = x.toInt + 1 := by rw [ht1, addI _ _ (by simp only [Int32.reduceToInt]; omega)]; rfl
        refine va_sld hx hb hX hbl hbA hI.2.2.1 (vp_in_iff.mpr ⟨by omega, by omega⟩) dL_law_1977 ?_
        rw [show t1 = y1 from by rw [ht1, hy1], hv1]
        refine lv_aload_n hx hb dL_law_1978 rfl (lv_at hl 0 rfl) ?_
        refine lv_iload_n hx hb dL_law_1979 rfl (lv_at hl 3 rfl) ?_
        refine lv_iconst (v := 2) hx hb dL_law_1980 (by decide) ?_
        refine lv_iadd hx hb dL_law_1981 ?_
        refine lv_topi (fun t2 ht2 => ?_)
        have et2 : t2.toInt = x.toInt + 2 := by rw [ht2, addI _ _ (by simp only [Int32.reduceToInt]; omega)]; rfl
        refine va_sld hx hb hX hbl hbA hI.2.2.1 (vp_in_iff.mpr ⟨by omega, by omega⟩) dL_law_1982 ?_
        rw [show t2 = y2 from by rw [ht2, hy2], hv2]
        refine lv_aload_n hx hb dL_law_1983 rfl (lv_at hl 0 rfl) ?_
        refine lv_iload_n hx hb dL_law_1984 rfl (lv_at hl 3 rfl) ?_
        refine lv_iconst (v := 3) hx hb dL_law_1985 (by decide) ?_
        refine lv_iadd hx hb dL_law_1986 ?_
        refine lv_topi (fun t3 ht3 => ?_)
        have et3 : t3.toInt = x.toInt + 3 := by rw [ht3, addI _ _ (by simp only [Int32.reduceToInt]; omega)]; rfl
        refine va_sld hx hb hX hbl hbA hI.2.2.1 (vp_in_iff.mpr ⟨by omega, by omega⟩) dL_law_1987 ?_
        rw [show t3 = y3 from by rw [ht3, hy3], hv3]
        refine zlcall (con := zc_1267) (zq_RL_286 X (zM_1267 hw hm) (by decide) rfl rfl) rfl hI (As := [.ref g, .int v1, .int v2, .int v3]) (rest := []) ⟨⟨_, _, rfl, hk6.1, hk6.2⟩, ⟨_, rfl, hc1⟩, ⟨_, rfl, (bT _).1, hc2⟩, ⟨_, rfl, hc3⟩, trivial⟩ (Nat.le_of_ble_eq_true rfl) hl.1 dL_law_1988 (fun H locs w r hI hr hk hp => ?_)
        have hq := zrel_keep hk (by decide +kernel) hq
        have hr : zF2 (zok ks ad) [(0, (-2), (-2))] r := hr
        obtain ⟨_, _, rfl, ⟨z24, rfl, lz24⟩, hr2⟩ := zst1 hr
        obtain rfl := zst0 hr2
        dsimp only at lz24
        dsimp only [List.cons_append, List.nil_append]
        refine lv_pop hx hb dL_law_1991 rfl ?_
        refine lv_goto (tgt := 2131) hx hb dL_law_1992 (by decide) ?_
        exact hT ls _ _ _ hl ⟨hI, hq⟩
      · skip
        refine zlcall (con := zc_1217) (zq_RL_283 X (zM_1217 hw hm) (by decide) rfl rfl) rfl hI (As := [.ref h, .int v1, .int v2, .int v3]) (rest := []) ⟨⟨_, _, rfl, hk5.1, hk5.2⟩, ⟨_, rfl, hc1⟩, ⟨_, rfl, (bT _).1, hc2⟩, ⟨_, rfl, hc3, (bT _).2⟩, trivial⟩ (Nat.le_of_ble_eq_true rfl) hl.1 dL_law_1968 (fun H locs w r hI hr hk hp => ?_)
        have hq := zrel_keep hk (by decide +kernel) hq
        have hr : zF2 (zok ks ad) [(0, (-2), (-2))] r := hr
        obtain ⟨_, _, rfl, ⟨z25, rfl, lz25⟩, hr2⟩ := zst1 hr
        obtain rfl := zst0 hr2
        dsimp only at lz25
        dsimp only [List.cons_append, List.nil_append]
        refine lv_pop hx hb dL_law_1971 rfl ?_
        refine lv_aload_n hx hb dL_law_1972 rfl (lv_at hl 2 rfl) ?_
        refine lv_aload_n hx hb dL_law_1973 rfl (lv_at hl 0 rfl) ?_
        refine lv_iload_n hx hb dL_law_1974 rfl (lv_at hl 3 rfl) ?_
        refine lv_iconst (v := 1) hx hb dL_law_1975 (by decide) ?_
        refine lv_iadd hx hb dL_law_1976 ?_
        refine lv_topi (fun t1 ht1 => ?_)
        have et1 : t1.toInt = x.toInt + 1 := by rw [ht1, addI _ _ (by simp only [Int32.reduceToInt]; omega)]; rfl
        refine va_sld hx hb hX hbl hbA hI.2.2.1 (vp_in_iff.mpr ⟨by omega, by omega⟩) dL_law_1977 ?_
        rw [show t1 = y1 from by rw [ht1, hy1], hv1]
        refine lv_aload_n hx hb dL_law_1978 rfl (lv_at hl 0 rfl) ?_
        refine lv_iload_n hx hb dL_law_1979 rfl (lv_at hl 3 rfl) ?_
        refine lv_iconst (v := 2) hx hb dL_law_1980 (by decide) ?_
        refine lv_iadd hx hb dL_law_1981 ?_
        refine lv_topi (fun t2 ht2 => ?_)
        have et2 : t2.toInt = x.toInt + 2 := by rw [ht2, addI _ _ (by simp only [Int32.reduceToInt]; omega)]; rfl
        refine va_sld hx hb hX hbl hbA hI.2.2.1 (vp_in_iff.mpr ⟨by omega, by omega⟩) dL_law_1982 ?_
        rw [show t2 = y2 from by rw [ht2, hy2], hv2]
        refine lv_aload_n hx hb dL_law_1983 rfl (lv_at hl 0 rfl) ?_
        refine lv_iload_n hx hb dL_law_1984 rfl (lv_at hl 3 rfl) ?_
        refine lv_iconst (v := 3) hx hb dL_law_1985 (by decide) ?_
        refine lv_iadd hx hb dL_law_1986 ?_
        refine lv_topi (fun t3 ht3 => ?_)
        have et3 : t3.toInt = x.toInt + 3 := by rw [ht3, addI _ _ (by simp only [Int32.reduceToInt]; omega)]; rfl
        refine va_sld hx hb hX hbl hbA hI.2.2.1 (vp_in_iff.mpr ⟨by omega, by omega⟩) dL_law_1987 ?_
        rw [show t3 = y3 from by rw [ht3, hy3], hv3]
        refine zlcall (con := zc_1268) (zq_RL_286 X (zM_1268 hw hm) (by decide) rfl rfl) rfl hI (As := [.ref g, .int v1, .int v2, .int v3]) (rest := []) ⟨⟨_, _, rfl, hk6.1, hk6.2⟩, ⟨_, rfl, hc1⟩, ⟨_, rfl, (bT _).1, hc2⟩, ⟨_, rfl, hc3, (bT _).2⟩, trivial⟩ (Nat.le_of_ble_eq_true rfl) hl.1 dL_law_1988 (fun H locs w r hI hr hk hp => ?_)
        have hq := zrel_keep hk (by decide +kernel) hq
        have hr : zF2 (zok ks ad) [(0, (-2), (-2))] r := hr
        obtain ⟨_, _, rfl, ⟨z26, rfl, lz26⟩, hr2⟩ := zst1 hr
        obtain rfl := zst0 hr2
        dsimp only at lz26
        dsimp only [List.cons_append, List.nil_append]
        refine lv_pop hx hb dL_law_1991 rfl ?_
        refine lv_goto (tgt := 2131) hx hb dL_law_1992 (by decide) ?_
        exact hT ls _ _ _ hl ⟨hI, hq⟩
    · skip
      rcases (show v3.toInt ≤ -1 ∨ (0 ≤ v3.toInt ∧ v3.toInt ≤ 60) ∨ 61 ≤ v3.toInt from by omega) with hc3 | hc3 | hc3
      · skip
        refine zlcall (con := zc_1218) (zq_RL_283 X (zM_1218 hw hm) (by decide) rfl rfl) rfl hI (As := [.ref h, .int v1, .int v2, .int v3]) (rest := []) ⟨⟨_, _, rfl, hk5.1, hk5.2⟩, ⟨_, rfl, hc1⟩, ⟨_, rfl, hc2⟩, ⟨_, rfl, (bT _).1, hc3⟩, trivial⟩ (Nat.le_of_ble_eq_true rfl) hl.1 dL_law_1968 (fun H locs w r hI hr hk hp => ?_)
        have hq := zrel_keep hk (by decide +kernel) hq
        have hr : zF2 (zok ks ad) [(0, (-3), (-3))] r := hr
        obtain ⟨_, _, rfl, ⟨z27, rfl, lz27⟩, hr2⟩ := zst1 hr
        obtain rfl := zst0 hr2
        dsimp only at lz27
        dsimp only [List.cons_append, List.nil_append]
        refine lv_pop hx hb dL_law_1971 rfl ?_
        refine lv_aload_n hx hb dL_law_1972 rfl (lv_at hl 2 rfl) ?_
        refine lv_aload_n hx hb dL_law_1973 rfl (lv_at hl 0 rfl) ?_
        refine lv_iload_n hx hb dL_law_1974 rfl (lv_at hl 3 rfl) ?_
        refine lv_iconst (v := 1) hx hb dL_law_1975 (by decide) ?_
        refine lv_iadd hx hb dL_law_1976 ?_
        refine lv_topi (fun t1 ht1 => ?_)
        have et1 : t1.toInt = x.toInt + 1 := by rw [ht1, addI _ _ (by simp only [Int32.reduceToInt]; omega)]; rfl
        refine va_sld hx hb hX hbl hbA hI.2.2.1 (vp_in_iff.mpr ⟨by omega, by omega⟩) dL_law_1977 ?_
        rw [show t1 = y1 from by rw [ht1, hy1], hv1]
        refine lv_aload_n hx hb dL_law_1978 rfl (lv_at hl 0 rfl) ?_
        refine lv_iload_n hx hb dL_law_1979 rfl (lv_at hl 3 rfl) ?_
        refine lv_iconst (v := 2) hx hb dL_law_1980 (by decide) ?_
        refine lv_iadd hx hb dL_law_1981 ?_
        refine lv_topi (fun t2 ht2 => ?_)
        have et2 : t2.toInt = x.toInt + 2 := by rw [ht2, addI _ _ (by simp only [Int32.reduceToInt]; omega)]; rfl
        refine va_sld hx hb hX hbl hbA hI.2.2.1 (vp_in_iff.mpr ⟨by omega, by omega⟩) dL_law_1982 ?_
        rw [show t2 = y2 from by rw [ht2, hy2], hv2]
        refine lv_aload_n hx hb dL_law_1983 rfl (lv_at hl 0 rfl) ?_
        refine lv_iload_n hx hb dL_law_1984 rfl (lv_at hl 3 rfl) ?_
        refine lv_iconst (v := 3) hx hb dL_law_1985 (by decide) ?_
        refine lv_iadd hx hb dL_law_1986 ?_
        refine lv_topi (fun t3 ht3 => ?_)
        have et3 : t3.toInt = x.toInt + 3 := by rw [ht3, addI _ _ (by simp only [Int32.reduceToInt]; omega)]; rfl
        refine va_sld hx hb hX hbl hbA hI.2.2.1 (vp_in_iff.mpr ⟨by omega, by omega⟩) dL_law_1987 ?_
        rw [show t3 = y3 from by rw [ht3, hy3], hv3]
        refine zlcall (con := zc_1269) (zq_RL_286 X (zM_1269 hw hm) (by decide) rfl rfl) rfl hI (As := [.ref g, .int v1, .int v2, .int v3]) (rest := []) ⟨⟨_, _, rfl, hk6.1, hk6.2⟩, ⟨_, rfl, hc1⟩, ⟨_, rfl, hc2⟩, ⟨_, rfl, (bT _).1, hc3⟩, trivial⟩ (Nat.le_of_ble_eq_true rfl) hl.1 dL_law_1988 (fun H locs w r hI hr hk hp => ?_)
        have hq := zrel_keep hk (by decide +kernel) hq
        have hr : zF2 (zok ks ad) [(0, (-3), (-3))] r := hr
        obtain ⟨_, _, rfl, ⟨z28, rfl, lz28⟩, hr2⟩ := zst1 hr
        obtain rfl := zst0 hr2
        dsimp only at lz28
        dsimp only [List.cons_append, List.nil_append]
        refine lv_pop hx hb dL_law_1991 rfl ?_
        refine lv_goto (tgt := 2131) hx hb dL_law_1992 (by decide) ?_
        exact hT ls _ _ _ hl ⟨hI, hq⟩
      · skip
        refine zlcall (con := zc_1219) (zq_RL_283 X (zM_1219 hw hm) (by decide) rfl rfl) rfl hI (As := [.ref h, .int v1, .int v2, .int v3]) (rest := []) ⟨⟨_, _, rfl, hk5.1, hk5.2⟩, ⟨_, rfl, hc1⟩, ⟨_, rfl, hc2⟩, ⟨_, rfl, hc3⟩, trivial⟩ (Nat.le_of_ble_eq_true rfl) hl.1 dL_law_1968 (fun H locs wA r hI hr hkA hpA => ?_)
        have hr : zF2 (zok ks ad) [(0, (0), (0))] r := hr
        obtain ⟨_, _, rfl, ⟨z29, rfl, lz29⟩, hr2⟩ := zst1 hr
        obtain rfl := zst0 hr2
        dsimp only at lz29
        dsimp only [List.cons_append, List.nil_append]
        refine lv_pop hx hb dL_law_1971 rfl ?_
        refine lv_aload_n hx hb dL_law_1972 rfl (lv_at hl 2 rfl) ?_
        refine lv_aload_n hx hb dL_law_1973 rfl (lv_at hl 0 rfl) ?_
        refine lv_iload_n hx hb dL_law_1974 rfl (lv_at hl 3 rfl) ?_
        refine lv_iconst (v := 1) hx hb dL_law_1975 (by decide) ?_
        refine lv_iadd hx hb dL_law_1976 ?_
        refine lv_topi (fun t1 ht1 => ?_)
        have et1 : t1.toInt = x.toInt + 1 := by rw [ht1, addI _ _ (by simp only [Int32.reduceToInt]; omega)]; rfl
        refine va_sld hx hb hX hbl hbA hI.2.2.1 (vp_in_iff.mpr ⟨by omega, by omega⟩) dL_law_1977 ?_
        rw [show t1 = y1 from by rw [ht1, hy1], hv1]
        refine lv_aload_n hx hb dL_law_1978 rfl (lv_at hl 0 rfl) ?_
        refine lv_iload_n hx hb dL_law_1979 rfl (lv_at hl 3 rfl) ?_
        refine lv_iconst (v := 2) hx hb dL_law_1980 (by decide) ?_
        refine lv_iadd hx hb dL_law_1981 ?_
        refine lv_topi (fun t2 ht2 => ?_)
        have et2 : t2.toInt = x.toInt + 2 := by rw [ht2, addI _ _ (by simp only [Int32.reduceToInt]; omega)]; rfl
        refine va_sld hx hb hX hbl hbA hI.2.2.1 (vp_in_iff.mpr ⟨by omega, by omega⟩) dL_law_1982 ?_
        rw [show t2 = y2 from by rw [ht2, hy2], hv2]
        refine lv_aload_n hx hb dL_law_1983 rfl (lv_at hl 0 rfl) ?_
        refine lv_iload_n hx hb dL_law_1984 rfl (lv_at hl 3 rfl) ?_
        refine lv_iconst (v := 3) hx hb dL_law_1985 (by decide) ?_
        refine lv_iadd hx hb dL_law_1986 ?_
        refine lv_topi (fun t3 ht3 => ?_)
        have et3 : t3.toInt = x.toInt + 3 := by rw [ht3, addI _ _ (by simp only [Int32.reduceToInt]; omega)]; rfl
        refine va_sld hx hb hX hbl hbA hI.2.2.1 (vp_in_iff.mpr ⟨by omega, by omega⟩) dL_law_1987 ?_
        rw [show t3 = y3 from by rw [ht3, hy3], hv3]
        refine zlcall (con := zc_1270) (zq_RL_286 X (zM_1270 hw hm) (by decide) rfl rfl) rfl hI (As := [.ref g, .int v1, .int v2, .int v3]) (rest := []) ⟨⟨_, _, rfl, hk6.1, hk6.2⟩, ⟨_, rfl, hc1⟩, ⟨_, rfl, hc2⟩, ⟨_, rfl, hc3⟩, trivial⟩ (Nat.le_of_ble_eq_true rfl) hl.1 dL_law_1988 (fun H locs wB r hI hr hkB hpB => ?_)
        have hr : zF2 (zok ks ad) [(0, (0), (0))] r := hr
        obtain ⟨_, _, rfl, ⟨z30, rfl, lz30⟩, hr2⟩ := zst1 hr
        obtain rfl := zst0 hr2
        dsimp only at lz30
        dsimp only [List.cons_append, List.nil_append]
        have oA : (1 : Int) ≤ zfv ks wA 29 1001 ∧ zfv ks wA 29 1001 ≤ 1 := hpA.2.1 (29, 1001, 1, 1) (List.mem_of_getElem? (i := 0) rfl)
        have oW : (0 : Int) ≤ zfv ks wB 36 1001 ∧ zfv ks wB 36 1001 ≤ 3 := hpB.2.1 (36, 1001, 0, 3) (List.mem_of_getElem? (i := 0) rfl)
        have oS := zrowf (x1 := 0) (x2 := v1.toInt) (a := v2.toInt) (b := v3.toInt) (p := zfv ks wA 29 1001) (q := zfv ks wA 30 1001) (r := zfv ks wA 31 1001) (t := z29.toInt) hpA.2.2 (by decide +kernel) (by decide +kernel)
        have oM := zrowg (x1 := 0) (x2 := v1.toInt) (a := v2.toInt) (b := v3.toInt) (q := zfv ks wB 36 1001) (r := zfv ks wB 37 1001) (t := z30.toInt) hpB.2.2 (by decide +kernel) (by decide +kernel)
        have oV := zroww (x1 := 0) (x2 := v1.toInt) (a := v2.toInt) (b := v3.toInt) (p := zfv ks wA 29 1001) (q := zfv ks wA 30 1001) (r := zfv ks wA 31 1001) (t := z29.toInt) hpA.2.2 (by decide +kernel) (by decide +kernel)
        have oU := zrowx (x1 := 0) (x2 := v1.toInt) (a := v2.toInt) (b := v3.toInt) (q := zfv ks wB 36 1001) (r := zfv ks wB 37 1001) (t := z30.toInt) hpB.2.2 (by decide +kernel) (by decide +kernel)
        have hq := zrel_row 1 hq hkA hkB (by decide +kernel) (by decide +kernel) (by decide +kernel) (by decide +kernel) (by decide +kernel) (Int.le_antisymm oA.2 oA.1) oS oW.1 oM oV oU
        refine lv_pop hx hb dL_law_1991 rfl ?_
        refine lv_goto (tgt := 2131) hx hb dL_law_1992 (by decide) ?_
        exact hT ls _ _ _ hl ⟨hI, hq⟩
      · skip
        refine zlcall (con := zc_1220) (zq_RL_283 X (zM_1220 hw hm) (by decide) rfl rfl) rfl hI (As := [.ref h, .int v1, .int v2, .int v3]) (rest := []) ⟨⟨_, _, rfl, hk5.1, hk5.2⟩, ⟨_, rfl, hc1⟩, ⟨_, rfl, hc2⟩, ⟨_, rfl, hc3, (bT _).2⟩, trivial⟩ (Nat.le_of_ble_eq_true rfl) hl.1 dL_law_1968 (fun H locs w r hI hr hk hp => ?_)
        have hq := zrel_keep hk (by decide +kernel) hq
        have hr : zF2 (zok ks ad) [(0, (-2), (-2))] r := hr
        obtain ⟨_, _, rfl, ⟨z31, rfl, lz31⟩, hr2⟩ := zst1 hr
        obtain rfl := zst0 hr2
        dsimp only at lz31
        dsimp only [List.cons_append, List.nil_append]
        refine lv_pop hx hb dL_law_1971 rfl ?_
        refine lv_aload_n hx hb dL_law_1972 rfl (lv_at hl 2 rfl) ?_
        refine lv_aload_n hx hb dL_law_1973 rfl (lv_at hl 0 rfl) ?_
        refine lv_iload_n hx hb dL_law_1974 rfl (lv_at hl 3 rfl) ?_
        refine lv_iconst (v := 1) hx hb dL_law_1975 (by decide) ?_
        refine lv_iadd hx hb dL_law_1976 ?_
        refine lv_topi (fun t1 ht1 => ?_)
        have et1 : t1.toInt = x.toInt + 1 := by rw [ht1, addI _ _ (by simp only [Int32.reduceToInt]; omega)]; rfl
        refine va_sld hx hb hX hbl hbA hI.2.2.1 (vp_in_iff.mpr ⟨by omega, by omega⟩) dL_law_1977 ?_
        rw [show t1 = y1 from by rw [ht1, hy1], hv1]
        refine lv_aload_n hx hb dL_law_1978 rfl (lv_at hl 0 rfl) ?_
        refine lv_iload_n hx hb dL_law_1979 rfl (lv_at hl 3 rfl) ?_
        refine lv_iconst (v := 2) hx hb dL_law_1980 (by decide) ?_
        refine lv_iadd hx hb dL_law_1981 ?_
        refine lv_topi (fun t2 ht2 => ?_)
        have et2 : t2.toInt = x.toInt + 2 := by rw [ht2, addI _ _ (by simp only [Int32.reduceToInt]; omega)]; rfl
        refine va_sld hx hb hX hbl hbA hI.2.2.1 (vp_in_iff.mpr ⟨by omega, by omega⟩) dL_law_1982 ?_
        rw [show t2 = y2 from by rw [ht2, hy2], hv2]
        refine lv_aload_n hx hb dL_law_1983 rfl (lv_at hl 0 rfl) ?_
        refine lv_iload_n hx hb dL_law_1984 rfl (lv_at hl 3 rfl) ?_
        refine lv_iconst (v := 3) hx hb dL_law_1985 (by decide) ?_
        refine lv_iadd hx hb dL_law_1986 ?_
        refine lv_topi (fun t3 ht3 => ?_)
        have et3 : t3.toInt = x.toInt + 3 := by rw [ht3, addI _ _ (by simp only [Int32.reduceToInt]; omega)]; rfl
        refine va_sld hx hb hX hbl hbA hI.2.2.1 (vp_in_iff.mpr ⟨by omega, by omega⟩) dL_law_1987 ?_
        rw [show t3 = y3 from by rw [ht3, hy3], hv3]
        refine zlcall (con := zc_1271) (zq_RL_286 X (zM_1271 hw hm) (by decide) rfl rfl) rfl hI (As := [.ref g, .int v1, .int v2, .int v3]) (rest := []) ⟨⟨_, _, rfl, hk6.1, hk6.2⟩, ⟨_, rfl, hc1⟩, ⟨_, rfl, hc2⟩, ⟨_, rfl, hc3, (bT _).2⟩, trivial⟩ (Nat.le_of_ble_eq_true rfl) hl.1 dL_law_1988 (fun H locs w r hI hr hk hp => ?_)
        have hq := zrel_keep hk (by decide +kernel) hq
        have hr : zF2 (zok ks ad) [(0, (-2), (-2))] r := hr
        obtain ⟨_, _, rfl, ⟨z32, rfl, lz32⟩, hr2⟩ := zst1 hr
        obtain rfl := zst0 hr2
        dsimp only at lz32
        dsimp only [List.cons_append, List.nil_append]
        refine lv_pop hx hb dL_law_1991 rfl ?_
        refine lv_goto (tgt := 2131) hx hb dL_law_1992 (by decide) ?_
        exact hT ls _ _ _ hl ⟨hI, hq⟩
    · skip
      rcases (show v3.toInt ≤ -1 ∨ (0 ≤ v3.toInt ∧ v3.toInt ≤ 60) ∨ 61 ≤ v3.toInt from by omega) with hc3 | hc3 | hc3
      · skip
        refine zlcall (con := zc_1221) (zq_RL_283 X (zM_1221 hw hm) (by decide) rfl rfl) rfl hI (As := [.ref h, .int v1, .int v2, .int v3]) (rest := []) ⟨⟨_, _, rfl, hk5.1, hk5.2⟩, ⟨_, rfl, hc1⟩, ⟨_, rfl, hc2, (bT _).2⟩, ⟨_, rfl, (bT _).1, hc3⟩, trivial⟩ (Nat.le_of_ble_eq_true rfl) hl.1 dL_law_1968 (fun H locs w r hI hr hk hp => ?_)
        have hq := zrel_keep hk (by decide +kernel) hq
        have hr : zF2 (zok ks ad) [(0, (-2), (-2))] r := hr
        obtain ⟨_, _, rfl, ⟨z33, rfl, lz33⟩, hr2⟩ := zst1 hr
        obtain rfl := zst0 hr2
        dsimp only at lz33
        dsimp only [List.cons_append, List.nil_append]
        refine lv_pop hx hb dL_law_1971 rfl ?_
        refine lv_aload_n hx hb dL_law_1972 rfl (lv_at hl 2 rfl) ?_
        refine lv_aload_n hx hb dL_law_1973 rfl (lv_at hl 0 rfl) ?_
        refine lv_iload_n hx hb dL_law_1974 rfl (lv_at hl 3 rfl) ?_
        refine lv_iconst (v := 1) hx hb dL_law_1975 (by decide) ?_
        refine lv_iadd hx hb dL_law_1976 ?_
        refine lv_topi (fun t1 ht1 => ?_)
        have et1 : t1.toInt = x.toInt + 1 := by rw [ht1, addI _ _ (by simp only [Int32.reduceToInt]; omega)]; rfl
        refine va_sld hx hb hX hbl hbA hI.2.2.1 (vp_in_iff.mpr ⟨by omega, by omega⟩) dL_law_1977 ?_
        rw [show t1 = y1 from by rw [ht1, hy1], hv1]
        refine lv_aload_n hx hb dL_law_1978 rfl (lv_at hl 0 rfl) ?_
        refine lv_iload_n hx hb dL_law_1979 rfl (lv_at hl 3 rfl) ?_
        refine lv_iconst (v := 2) hx hb dL_law_1980 (by decide) ?_
        refine lv_iadd hx hb dL_law_1981 ?_
        refine lv_topi (fun t2 ht2 => ?_)
        have et2 : t2.toInt = x.toInt + 2 := by rw [ht2, addI _ _ (by simp only [Int32.reduceToInt]; omega)]; rfl
        refine va_sld hx hb hX hbl hbA hI.2.2.1 (vp_in_iff.mpr ⟨by omega, by omega⟩) dL_law_1982 ?_
        rw [show t2 = y2 from by rw [ht2, hy2], hv2]
        refine lv_aload_n hx hb dL_law_1983 rfl (lv_at hl 0 rfl) ?_
        refine lv_iload_n hx hb dL_law_1984 rfl (lv_at hl 3 rfl) ?_
        refine lv_iconst (v := 3) hx hb dL_law_1985 (by decide) ?_
        refine lv_iadd hx hb dL_law_1986 ?_
        refine lv_topi (fun t3 ht3 => ?_)
        have et3 : t3.toInt = x.toInt + 3 := by rw [ht3, addI _ _ (by simp only [Int32.reduceToInt]; omega)]; rfl
        refine va_sld hx hb hX hbl hbA hI.2.2.1 (vp_in_iff.mpr ⟨by omega, by omega⟩) dL_law_1987 ?_
        rw [show t3 = y3 from by rw [ht3, hy3], hv3]
        refine zlcall (con := zc_1272) (zq_RL_286 X (zM_1272 hw hm) (by decide) rfl rfl) rfl hI (As := [.ref g, .int v1, .int v2, .int v3]) (rest := []) ⟨⟨_, _, rfl, hk6.1, hk6.2⟩, ⟨_, rfl, hc1⟩, ⟨_, rfl, hc2, (bT _).2⟩, ⟨_, rfl, (bT _).1, hc3⟩, trivial⟩ (Nat.le_of_ble_eq_true rfl) hl.1 dL_law_1988 (fun H locs w r hI hr hk hp => ?_)
        have hq := zrel_keep hk (by decide +kernel) hq
        have hr : zF2 (zok ks ad) [(0, (-2), (-2))] r := hr
        obtain ⟨_, _, rfl, ⟨z34, rfl, lz34⟩, hr2⟩ := zst1 hr
        obtain rfl := zst0 hr2
        dsimp only at lz34
        dsimp only [List.cons_append, List.nil_append]
        refine lv_pop hx hb dL_law_1991 rfl ?_
        refine lv_goto (tgt := 2131) hx hb dL_law_1992 (by decide) ?_
        exact hT ls _ _ _ hl ⟨hI, hq⟩
      · skip
        refine zlcall (con := zc_1222) (zq_RL_283 X (zM_1222 hw hm) (by decide) rfl rfl) rfl hI (As := [.ref h, .int v1, .int v2, .int v3]) (rest := []) ⟨⟨_, _, rfl, hk5.1, hk5.2⟩, ⟨_, rfl, hc1⟩, ⟨_, rfl, hc2, (bT _).2⟩, ⟨_, rfl, hc3⟩, trivial⟩ (Nat.le_of_ble_eq_true rfl) hl.1 dL_law_1968 (fun H locs w r hI hr hk hp => ?_)
        have hq := zrel_keep hk (by decide +kernel) hq
        have hr : zF2 (zok ks ad) [(0, (-2), (-2))] r := hr
        obtain ⟨_, _, rfl, ⟨z35, rfl, lz35⟩, hr2⟩ := zst1 hr
        obtain rfl := zst0 hr2
        dsimp only at lz35
        dsimp only [List.cons_append, List.nil_append]
        refine lv_pop hx hb dL_law_1971 rfl ?_
        refine lv_aload_n hx hb dL_law_1972 rfl (lv_at hl 2 rfl) ?_
        refine lv_aload_n hx hb dL_law_1973 rfl (lv_at hl 0 rfl) ?_
        refine lv_iload_n hx hb dL_law_1974 rfl (lv_at hl 3 rfl) ?_
        refine lv_iconst (v := 1) hx hb dL_law_1975 (by decide) ?_
        refine lv_iadd hx hb dL_law_1976 ?_
        refine lv_topi (fun t1 ht1 => ?_)
        have et1 : t1.toInt = x.toInt + 1 := by rw [ht1, addI _ _ (by simp only [Int32.reduceToInt]; omega)]; rfl
        refine va_sld hx hb hX hbl hbA hI.2.2.1 (vp_in_iff.mpr ⟨by omega, by omega⟩) dL_law_1977 ?_
        rw [show t1 = y1 from by rw [ht1, hy1], hv1]
        refine lv_aload_n hx hb dL_law_1978 rfl (lv_at hl 0 rfl) ?_
        refine lv_iload_n hx hb dL_law_1979 rfl (lv_at hl 3 rfl) ?_
        refine lv_iconst (v := 2) hx hb dL_law_1980 (by decide) ?_
        refine lv_iadd hx hb dL_law_1981 ?_
        refine lv_topi (fun t2 ht2 => ?_)
        have et2 : t2.toInt = x.toInt + 2 := by rw [ht2, addI _ _ (by simp only [Int32.reduceToInt]; omega)]; rfl
        refine va_sld hx hb hX hbl hbA hI.2.2.1 (vp_in_iff.mpr ⟨by omega, by omega⟩) dL_law_1982 ?_
        rw [show t2 = y2 from by rw [ht2, hy2], hv2]
        refine lv_aload_n hx hb dL_law_1983 rfl (lv_at hl 0 rfl) ?_
        refine lv_iload_n hx hb dL_law_1984 rfl (lv_at hl 3 rfl) ?_
        refine lv_iconst (v := 3) hx hb dL_law_1985 (by decide) ?_
        refine lv_iadd hx hb dL_law_1986 ?_
        refine lv_topi (fun t3 ht3 => ?_)
        have et3 : t3.toInt = x.toInt + 3 := by rw [ht3, addI _ _ (by simp only [Int32.reduceToInt]; omega)]; rfl
        refine va_sld hx hb hX hbl hbA hI.2.2.1 (vp_in_iff.mpr ⟨by omega, by omega⟩) dL_law_1987 ?_
        rw [show t3 = y3 from by rw [ht3, hy3], hv3]
        refine zlcall (con := zc_1273) (zq_RL_286 X (zM_1273 hw hm) (by decide) rfl rfl) rfl hI (As := [.ref g, .int v1, .int v2, .int v3]) (rest := []) ⟨⟨_, _, rfl, hk6.1, hk6.2⟩, ⟨_, rfl, hc1⟩, ⟨_, rfl, hc2, (bT _).2⟩, ⟨_, rfl, hc3⟩, trivial⟩ (Nat.le_of_ble_eq_true rfl) hl.1 dL_law_1988 (fun H locs w r hI hr hk hp => ?_)
        have hq := zrel_keep hk (by decide +kernel) hq
        have hr : zF2 (zok ks ad) [(0, (-2), (-2))] r := hr
        obtain ⟨_, _, rfl, ⟨z36, rfl, lz36⟩, hr2⟩ := zst1 hr
        obtain rfl := zst0 hr2
        dsimp only at lz36
        dsimp only [List.cons_append, List.nil_append]
        refine lv_pop hx hb dL_law_1991 rfl ?_
        refine lv_goto (tgt := 2131) hx hb dL_law_1992 (by decide) ?_
        exact hT ls _ _ _ hl ⟨hI, hq⟩
      · skip
        refine zlcall (con := zc_1223) (zq_RL_283 X (zM_1223 hw hm) (by decide) rfl rfl) rfl hI (As := [.ref h, .int v1, .int v2, .int v3]) (rest := []) ⟨⟨_, _, rfl, hk5.1, hk5.2⟩, ⟨_, rfl, hc1⟩, ⟨_, rfl, hc2, (bT _).2⟩, ⟨_, rfl, hc3, (bT _).2⟩, trivial⟩ (Nat.le_of_ble_eq_true rfl) hl.1 dL_law_1968 (fun H locs w r hI hr hk hp => ?_)
        have hq := zrel_keep hk (by decide +kernel) hq
        have hr : zF2 (zok ks ad) [(0, (-2), (-2))] r := hr
        obtain ⟨_, _, rfl, ⟨z37, rfl, lz37⟩, hr2⟩ := zst1 hr
        obtain rfl := zst0 hr2
        dsimp only at lz37
        dsimp only [List.cons_append, List.nil_append]
        refine lv_pop hx hb dL_law_1971 rfl ?_
        refine lv_aload_n hx hb dL_law_1972 rfl (lv_at hl 2 rfl) ?_
        refine lv_aload_n hx hb dL_law_1973 rfl (lv_at hl 0 rfl) ?_
        refine lv_iload_n hx hb dL_law_1974 rfl (lv_at hl 3 rfl) ?_
        refine lv_iconst (v := 1) hx hb dL_law_1975 (by decide) ?_
        refine lv_iadd hx hb dL_law_1976 ?_
        refine lv_topi (fun t1 ht1 => ?_)
        have et1 : t1.toInt = x.toInt + 1 := by rw [ht1, addI _ _ (by simp only [Int32.reduceToInt]; omega)]; rfl
        refine va_sld hx hb hX hbl hbA hI.2.2.1 (vp_in_iff.mpr ⟨by omega, by omega⟩) dL_law_1977 ?_
        rw [show t1 = y1 from by rw [ht1, hy1], hv1]
        refine lv_aload_n hx hb dL_law_1978 rfl (lv_at hl 0 rfl) ?_
        refine lv_iload_n hx hb dL_law_1979 rfl (lv_at hl 3 rfl) ?_
        refine lv_iconst (v := 2) hx hb dL_law_1980 (by decide) ?_
        refine lv_iadd hx hb dL_law_1981 ?_
        refine lv_topi (fun t2 ht2 => ?_)
        have et2 : t2.toInt = x.toInt + 2 := by rw [ht2, addI _ _ (by simp only [Int32.reduceToInt]; omega)]; rfl
        refine va_sld hx hb hX hbl hbA hI.2.2.1 (vp_in_iff.mpr ⟨by omega, by omega⟩) dL_law_1982 ?_
        rw [show t2 = y2 from by rw [ht2, hy2], hv2]
        refine lv_aload_n hx hb dL_law_1983 rfl (lv_at hl 0 rfl) ?_
        refine lv_iload_n hx hb dL_law_1984 rfl (lv_at hl 3 rfl) ?_
        refine lv_iconst (v := 3) hx hb dL_law_1985 (by decide) ?_
        refine lv_iadd hx hb dL_law_1986 ?_
        refine lv_topi (fun t3 ht3 => ?_)
        have et3 : t3.toInt = x.toInt + 3 := by rw [ht3, addI _ _ (by simp only [Int32.reduceToInt]; omega)]; rfl
        refine va_sld hx hb hX hbl hbA hI.2.2.1 (vp_in_iff.mpr ⟨by omega, by omega⟩) dL_law_1987 ?_
        rw [show t3 = y3 from by rw [ht3, hy3], hv3]
        refine zlcall (con := zc_1274) (zq_RL_286 X (zM_1274 hw hm) (by decide) rfl rfl) rfl hI (As := [.ref g, .int v1, .int v2, .int v3]) (rest := []) ⟨⟨_, _, rfl, hk6.1, hk6.2⟩, ⟨_, rfl, hc1⟩, ⟨_, rfl, hc2, (bT _).2⟩, ⟨_, rfl, hc3, (bT _).2⟩, trivial⟩ (Nat.le_of_ble_eq_true rfl) hl.1 dL_law_1988 (fun H locs w r hI hr hk hp => ?_)
        have hq := zrel_keep hk (by decide +kernel) hq
        have hr : zF2 (zok ks ad) [(0, (-2), (-2))] r := hr
        obtain ⟨_, _, rfl, ⟨z38, rfl, lz38⟩, hr2⟩ := zst1 hr
        obtain rfl := zst0 hr2
        dsimp only at lz38
        dsimp only [List.cons_append, List.nil_append]
        refine lv_pop hx hb dL_law_1991 rfl ?_
        refine lv_goto (tgt := 2131) hx hb dL_law_1992 (by decide) ?_
        exact hT ls _ _ _ hl ⟨hI, hq⟩
  · skip
    rcases (show v2.toInt ≤ -1 ∨ (0 ≤ v2.toInt ∧ v2.toInt ≤ 3) ∨ 4 ≤ v2.toInt from by omega) with hc2 | hc2 | hc2
    · skip
      rcases (show v3.toInt ≤ -1 ∨ (0 ≤ v3.toInt ∧ v3.toInt ≤ 60) ∨ 61 ≤ v3.toInt from by omega) with hc3 | hc3 | hc3
      · skip
        refine zlcall (con := zc_1224) (zq_RL_283 X (zM_1224 hw hm) (by decide) rfl rfl) rfl hI (As := [.ref h, .int v1, .int v2, .int v3]) (rest := []) ⟨⟨_, _, rfl, hk5.1, hk5.2⟩, ⟨_, rfl, hc1⟩, ⟨_, rfl, (bT _).1, hc2⟩, ⟨_, rfl, (bT _).1, hc3⟩, trivial⟩ (Nat.le_of_ble_eq_true rfl) hl.1 dL_law_1968 (fun H locs w r hI hr hk hp => ?_)
        have hq := zrel_keep hk (by decide +kernel) hq
        have hr : zF2 (zok ks ad) [(0, (-2), (-2))] r := hr
        obtain ⟨_, _, rfl, ⟨z39, rfl, lz39⟩, hr2⟩ := zst1 hr
        obtain rfl := zst0 hr2
        dsimp only at lz39
        dsimp only [List.cons_append, List.nil_append]
        refine lv_pop hx hb dL_law_1971 rfl ?_
        refine lv_aload_n hx hb dL_law_1972 rfl (lv_at hl 2 rfl) ?_
        refine lv_aload_n hx hb dL_law_1973 rfl (lv_at hl 0 rfl) ?_
        refine lv_iload_n hx hb dL_law_1974 rfl (lv_at hl 3 rfl) ?_
        refine lv_iconst (v := 1) hx hb dL_law_1975 (by decide) ?_
        refine lv_iadd hx hb dL_law_1976 ?_
        refine lv_topi (fun t1 ht1 => ?_)
        have et1 : t1.toInt = x.toInt + 1 := by rw [ht1, addI _ _ (by simp only [Int32.reduceToInt]; omega)]; rfl
        refine va_sld hx hb hX hbl hbA hI.2.2.1 (vp_in_iff.mpr ⟨by omega, by omega⟩) dL_law_1977 ?_
        rw [show t1 = y1 from by rw [ht1, hy1], hv1]
        refine lv_aload_n hx hb dL_law_1978 rfl (lv_at hl 0 rfl) ?_
        refine lv_iload_n hx hb dL_law_1979 rfl (lv_at hl 3 rfl) ?_
        refine lv_iconst (v := 2) hx hb dL_law_1980 (by decide) ?_
        refine lv_iadd hx hb dL_law_1981 ?_
        refine lv_topi (fun t2 ht2 => ?_)
        have et2 : t2.toInt = x.toInt + 2 := by rw [ht2, addI _ _ (by simp only [Int32.reduceToInt]; omega)]; rfl
        refine va_sld hx hb hX hbl hbA hI.2.2.1 (vp_in_iff.mpr ⟨by omega, by omega⟩) dL_law_1982 ?_
        rw [show t2 = y2 from by rw [ht2, hy2], hv2]
        refine lv_aload_n hx hb dL_law_1983 rfl (lv_at hl 0 rfl) ?_
        refine lv_iload_n hx hb dL_law_1984 rfl (lv_at hl 3 rfl) ?_
        refine lv_iconst (v := 3) hx hb dL_law_1985 (by decide) ?_
        refine lv_iadd hx hb dL_law_1986 ?_
        refine lv_topi (fun t3 ht3 => ?_)
        have et3 : t3.toInt = x.toInt + 3 := by rw [ht3, addI _ _ (by simp only [Int32.reduceToInt]; omega)]; rfl
        refine va_sld hx hb hX hbl hbA hI.2.2.1 (vp_in_iff.mpr ⟨by omega, by omega⟩) dL_law_1987 ?_
        rw [show t3 = y3 from by rw [ht3, hy3], hv3]
        refine zlcall (con := zc_1275) (zq_RL_286 X (zM_1275 hw hm) (by decide) rfl rfl) rfl hI (As := [.ref g, .int v1, .int v2, .int v3]) (rest := []) ⟨⟨_, _, rfl, hk6.1, hk6.2⟩, ⟨_, rfl, hc1⟩, ⟨_, rfl, (bT _).1, hc2⟩, ⟨_, rfl, (bT _).1, hc3⟩, trivial⟩ (Nat.le_of_ble_eq_true rfl) hl.1 dL_law_1988 (fun H locs w r hI hr hk hp => ?_)
        have hq := zrel_keep hk (by decide +kernel) hq
        have hr : zF2 (zok ks ad) [(0, (-2), (-2))] r := hr
        obtain ⟨_, _, rfl, ⟨z40, rfl, lz40⟩, hr2⟩ := zst1 hr
        obtain rfl := zst0 hr2
        dsimp only at lz40
        dsimp only [List.cons_append, List.nil_append]
        refine lv_pop hx hb dL_law_1991 rfl ?_
        refine lv_goto (tgt := 2131) hx hb dL_law_1992 (by decide) ?_
        exact hT ls _ _ _ hl ⟨hI, hq⟩
      · skip
        refine zlcall (con := zc_1225) (zq_RL_283 X (zM_1225 hw hm) (by decide) rfl rfl) rfl hI (As := [.ref h, .int v1, .int v2, .int v3]) (rest := []) ⟨⟨_, _, rfl, hk5.1, hk5.2⟩, ⟨_, rfl, hc1⟩, ⟨_, rfl, (bT _).1, hc2⟩, ⟨_, rfl, hc3⟩, trivial⟩ (Nat.le_of_ble_eq_true rfl) hl.1 dL_law_1968 (fun H locs w r hI hr hk hp => ?_)
        have hq := zrel_keep hk (by decide +kernel) hq
        have hr : zF2 (zok ks ad) [(0, (-2), (-2))] r := hr
        obtain ⟨_, _, rfl, ⟨z41, rfl, lz41⟩, hr2⟩ := zst1 hr
        obtain rfl := zst0 hr2
        dsimp only at lz41
        dsimp only [List.cons_append, List.nil_append]
        refine lv_pop hx hb dL_law_1971 rfl ?_
        refine lv_aload_n hx hb dL_law_1972 rfl (lv_at hl 2 rfl) ?_
        refine lv_aload_n hx hb dL_law_1973 rfl (lv_at hl 0 rfl) ?_
        refine lv_iload_n hx hb dL_law_1974 rfl (lv_at hl 3 rfl) ?_
        refine lv_iconst (v := 1) hx hb dL_law_1975 (by decide) ?_
        refine lv_iadd hx hb dL_law_1976 ?_
        refine lv_topi (fun t1 ht1 => ?_)
        have et1 : t1.toInt = x.toInt + 1 := by rw [ht1, addI _ _ (by simp only [Int32.reduceToInt]; omega)]; rfl
        refine va_sld hx hb hX hbl hbA hI.2.2.1 (vp_in_iff.mpr ⟨by omega, by omega⟩) dL_law_1977 ?_
        rw [show t1 = y1 from by rw [ht1, hy1], hv1]
        refine lv_aload_n hx hb dL_law_1978 rfl (lv_at hl 0 rfl) ?_
        refine lv_iload_n hx hb dL_law_1979 rfl (lv_at hl 3 rfl) ?_
        refine lv_iconst (v := 2) hx hb dL_law_1980 (by decide) ?_
        refine lv_iadd hx hb dL_law_1981 ?_
        refine lv_topi (fun t2 ht2 => ?_)
        have et2 : t2.toInt = x.toInt + 2 := by rw [ht2, addI _ _ (by simp only [Int32.reduceToInt]; omega)]; rfl
        refine va_sld hx hb hX hbl hbA hI.2.2.1 (vp_in_iff.mpr ⟨by omega, by omega⟩) dL_law_1982 ?_
        rw [show t2 = y2 from by rw [ht2, hy2], hv2]
        refine lv_aload_n hx hb dL_law_1983 rfl (lv_at hl 0 rfl) ?_
        refine lv_iload_n hx hb dL_law_1984 rfl (lv_at hl 3 rfl) ?_
        refine lv_iconst (v := 3) hx hb dL_law_1985 (by decide) ?_
        refine lv_iadd hx hb dL_law_1986 ?_
        refine lv_topi (fun t3 ht3 => ?_)
        have et3 : t3.toInt = x.toInt + 3 := by rw [ht3, addI _ _ (by simp only [Int32.reduceToInt]; omega)]; rfl
        refine va_sld hx hb hX hbl hbA hI.2.2.1 (vp_in_iff.mpr ⟨by omega, by omega⟩) dL_law_1987 ?_
        rw [show t3 = y3 from by rw [ht3, hy3], hv3]
        refine zlcall (con := zc_1276) (zq_RL_286 X (zM_1276 hw hm) (by decide) rfl rfl) rfl hI (As := [.ref g, .int v1, .int v2, .int v3]) (rest := []) ⟨⟨_, _, rfl, hk6.1, hk6.2⟩, ⟨_, rfl, hc1⟩, ⟨_, rfl, (bT _).1, hc2⟩, ⟨_, rfl, hc3⟩, trivial⟩ (Nat.le_of_ble_eq_true rfl) hl.1 dL_law_1988 (fun H locs w r hI hr hk hp => ?_)
        have hq := zrel_keep hk (by decide +kernel) hq
        have hr : zF2 (zok ks ad) [(0, (-2), (-2))] r := hr
        obtain ⟨_, _, rfl, ⟨z42, rfl, lz42⟩, hr2⟩ := zst1 hr
        obtain rfl := zst0 hr2
        dsimp only at lz42
        dsimp only [List.cons_append, List.nil_append]
        refine lv_pop hx hb dL_law_1991 rfl ?_
        refine lv_goto (tgt := 2131) hx hb dL_law_1992 (by decide) ?_
        exact hT ls _ _ _ hl ⟨hI, hq⟩
      · skip
        refine zlcall (con := zc_1226) (zq_RL_283 X (zM_1226 hw hm) (by decide) rfl rfl) rfl hI (As := [.ref h, .int v1, .int v2, .int v3]) (rest := []) ⟨⟨_, _, rfl, hk5.1, hk5.2⟩, ⟨_, rfl, hc1⟩, ⟨_, rfl, (bT _).1, hc2⟩, ⟨_, rfl, hc3, (bT _).2⟩, trivial⟩ (Nat.le_of_ble_eq_true rfl) hl.1 dL_law_1968 (fun H locs w r hI hr hk hp => ?_)
        have hq := zrel_keep hk (by decide +kernel) hq
        have hr : zF2 (zok ks ad) [(0, (-2), (-2))] r := hr
        obtain ⟨_, _, rfl, ⟨z43, rfl, lz43⟩, hr2⟩ := zst1 hr
        obtain rfl := zst0 hr2
        dsimp only at lz43
        dsimp only [List.cons_append, List.nil_append]
        refine lv_pop hx hb dL_law_1971 rfl ?_
        refine lv_aload_n hx hb dL_law_1972 rfl (lv_at hl 2 rfl) ?_
        refine lv_aload_n hx hb dL_law_1973 rfl (lv_at hl 0 rfl) ?_
        refine lv_iload_n hx hb dL_law_1974 rfl (lv_at hl 3 rfl) ?_
        refine lv_iconst (v := 1) hx hb dL_law_1975 (by decide) ?_
        refine lv_iadd hx hb dL_law_1976 ?_
        refine lv_topi (fun t1 ht1 => ?_)
        have et1 : t1.toInt = x.toInt + 1 := by rw [ht1, addI _ _ (by simp only [Int32.reduceToInt]; omega)]; rfl
        refine va_sld hx hb hX hbl hbA hI.2.2.1 (vp_in_iff.mpr ⟨by omega, by omega⟩) dL_law_1977 ?_
        rw [show t1 = y1 from by rw [ht1, hy1], hv1]
        refine lv_aload_n hx hb dL_law_1978 rfl (lv_at hl 0 rfl) ?_
        refine lv_iload_n hx hb dL_law_1979 rfl (lv_at hl 3 rfl) ?_
        refine lv_iconst (v := 2) hx hb dL_law_1980 (by decide) ?_
        refine lv_iadd hx hb dL_law_1981 ?_
        refine lv_topi (fun t2 ht2 => ?_)
        have et2 : t2.toInt = x.toInt + 2 := by rw [ht2, addI _ _ (by simp only [Int32.reduceToInt]; omega)]; rfl
        refine va_sld hx hb hX hbl hbA hI.2.2.1 (vp_in_iff.mpr ⟨by omega, by omega⟩) dL_law_1982 ?_
        rw [show t2 = y2 from by rw [ht2, hy2], hv2]
        refine lv_aload_n hx hb dL_law_1983 rfl (lv_at hl 0 rfl) ?_
        refine lv_iload_n hx hb dL_law_1984 rfl (lv_at hl 3 rfl) ?_
        refine lv_iconst (v := 3) hx hb dL_law_1985 (by decide) ?_
        refine lv_iadd hx hb dL_law_1986 ?_
        refine lv_topi (fun t3 ht3 => ?_)
        have et3 : t3.toInt = x.toInt + 3 := by rw [ht3, addI _ _ (by simp only [Int32.reduceToInt]; omega)]; rfl
        refine va_sld hx hb hX hbl hbA hI.2.2.1 (vp_in_iff.mpr ⟨by omega, by omega⟩) dL_law_1987 ?_
        rw [show t3 = y3 from by rw [ht3, hy3], hv3]
        refine zlcall (con := zc_1277) (zq_RL_286 X (zM_1277 hw hm) (by decide) rfl rfl) rfl hI (As := [.ref g, .int v1, .int v2, .int v3]) (rest := []) ⟨⟨_, _, rfl, hk6.1, hk6.2⟩, ⟨_, rfl, hc1⟩, ⟨_, rfl, (bT _).1, hc2⟩, ⟨_, rfl, hc3, (bT _).2⟩, trivial⟩ (Nat.le_of_ble_eq_true rfl) hl.1 dL_law_1988 (fun H locs w r hI hr hk hp => ?_)
        have hq := zrel_keep hk (by decide +kernel) hq
        have hr : zF2 (zok ks ad) [(0, (-2), (-2))] r := hr
        obtain ⟨_, _, rfl, ⟨z44, rfl, lz44⟩, hr2⟩ := zst1 hr
        obtain rfl := zst0 hr2
        dsimp only at lz44
        dsimp only [List.cons_append, List.nil_append]
        refine lv_pop hx hb dL_law_1991 rfl ?_
        refine lv_goto (tgt := 2131) hx hb dL_law_1992 (by decide) ?_
        exact hT ls _ _ _ hl ⟨hI, hq⟩
    · skip
      rcases (show v3.toInt ≤ -1 ∨ (0 ≤ v3.toInt ∧ v3.toInt ≤ 60) ∨ 61 ≤ v3.toInt from by omega) with hc3 | hc3 | hc3
      · skip
        refine zlcall (con := zc_1227) (zq_RL_283 X (zM_1227 hw hm) (by decide) rfl rfl) rfl hI (As := [.ref h, .int v1, .int v2, .int v3]) (rest := []) ⟨⟨_, _, rfl, hk5.1, hk5.2⟩, ⟨_, rfl, hc1⟩, ⟨_, rfl, hc2⟩, ⟨_, rfl, (bT _).1, hc3⟩, trivial⟩ (Nat.le_of_ble_eq_true rfl) hl.1 dL_law_1968 (fun H locs w r hI hr hk hp => ?_)
        have hq := zrel_keep hk (by decide +kernel) hq
        have hr : zF2 (zok ks ad) [(0, (-3), (-3))] r := hr
        obtain ⟨_, _, rfl, ⟨z45, rfl, lz45⟩, hr2⟩ := zst1 hr
        obtain rfl := zst0 hr2
        dsimp only at lz45
        dsimp only [List.cons_append, List.nil_append]
        refine lv_pop hx hb dL_law_1971 rfl ?_
        refine lv_aload_n hx hb dL_law_1972 rfl (lv_at hl 2 rfl) ?_
        refine lv_aload_n hx hb dL_law_1973 rfl (lv_at hl 0 rfl) ?_
        refine lv_iload_n hx hb dL_law_1974 rfl (lv_at hl 3 rfl) ?_
        refine lv_iconst (v := 1) hx hb dL_law_1975 (by decide) ?_
        refine lv_iadd hx hb dL_law_1976 ?_
        refine lv_topi (fun t1 ht1 => ?_)
        have et1 : t1.toInt = x.toInt + 1 := by rw [ht1, addI _ _ (by simp only [Int32.reduceToInt]; omega)]; rfl
        refine va_sld hx hb hX hbl hbA hI.2.2.1 (vp_in_iff.mpr ⟨by omega, by omega⟩) dL_law_1977 ?_
        rw [show t1 = y1 from by rw [ht1, hy1], hv1]
        refine lv_aload_n hx hb dL_law_1978 rfl (lv_at hl 0 rfl) ?_
        refine lv_iload_n hx hb dL_law_1979 rfl (lv_at hl 3 rfl) ?_
        refine lv_iconst (v := 2) hx hb dL_law_1980 (by decide) ?_
        refine lv_iadd hx hb dL_law_1981 ?_
        refine lv_topi (fun t2 ht2 => ?_)
        have et2 : t2.toInt = x.toInt + 2 := by rw [ht2, addI _ _ (by simp only [Int32.reduceToInt]; omega)]; rfl
        refine va_sld hx hb hX hbl hbA hI.2.2.1 (vp_in_iff.mpr ⟨by omega, by omega⟩) dL_law_1982 ?_
        rw [show t2 = y2 from by rw [ht2, hy2], hv2]
        refine lv_aload_n hx hb dL_law_1983 rfl (lv_at hl 0 rfl) ?_
        refine lv_iload_n hx hb dL_law_1984 rfl (lv_at hl 3 rfl) ?_
        refine lv_iconst (v := 3) hx hb dL_law_1985 (by decide) ?_
        refine lv_iadd hx hb dL_law_1986 ?_
        refine lv_topi (fun t3 ht3 => ?_)
        have et3 : t3.toInt = x.toInt + 3 := by rw [ht3, addI _ _ (by simp only [Int32.reduceToInt]; omega)]; rfl
        refine va_sld hx hb hX hbl hbA hI.2.2.1 (vp_in_iff.mpr ⟨by omega, by omega⟩) dL_law_1987 ?_
        rw [show t3 = y3 from by rw [ht3, hy3], hv3]
        refine zlcall (con := zc_1278) (zq_RL_286 X (zM_1278 hw hm) (by decide) rfl rfl) rfl hI (As := [.ref g, .int v1, .int v2, .int v3]) (rest := []) ⟨⟨_, _, rfl, hk6.1, hk6.2⟩, ⟨_, rfl, hc1⟩, ⟨_, rfl, hc2⟩, ⟨_, rfl, (bT _).1, hc3⟩, trivial⟩ (Nat.le_of_ble_eq_true rfl) hl.1 dL_law_1988 (fun H locs w r hI hr hk hp => ?_)
        have hq := zrel_keep hk (by decide +kernel) hq
        have hr : zF2 (zok ks ad) [(0, (-3), (-3))] r := hr
        obtain ⟨_, _, rfl, ⟨z46, rfl, lz46⟩, hr2⟩ := zst1 hr
        obtain rfl := zst0 hr2
        dsimp only at lz46
        dsimp only [List.cons_append, List.nil_append]
        refine lv_pop hx hb dL_law_1991 rfl ?_
        refine lv_goto (tgt := 2131) hx hb dL_law_1992 (by decide) ?_
        exact hT ls _ _ _ hl ⟨hI, hq⟩
      · skip
        refine zlcall (con := zc_1228) (zq_RL_283 X (zM_1228 hw hm) (by decide) rfl rfl) rfl hI (As := [.ref h, .int v1, .int v2, .int v3]) (rest := []) ⟨⟨_, _, rfl, hk5.1, hk5.2⟩, ⟨_, rfl, hc1⟩, ⟨_, rfl, hc2⟩, ⟨_, rfl, hc3⟩, trivial⟩ (Nat.le_of_ble_eq_true rfl) hl.1 dL_law_1968 (fun H locs wA r hI hr hkA hpA => ?_)
        have hr : zF2 (zok ks ad) [(0, (0), (0))] r := hr
        obtain ⟨_, _, rfl, ⟨z47, rfl, lz47⟩, hr2⟩ := zst1 hr
        obtain rfl := zst0 hr2
        dsimp only at lz47
        dsimp only [List.cons_append, List.nil_append]
        refine lv_pop hx hb dL_law_1971 rfl ?_
        refine lv_aload_n hx hb dL_law_1972 rfl (lv_at hl 2 rfl) ?_
        refine lv_aload_n hx hb dL_law_1973 rfl (lv_at hl 0 rfl) ?_
        refine lv_iload_n hx hb dL_law_1974 rfl (lv_at hl 3 rfl) ?_
        refine lv_iconst (v := 1) hx hb dL_law_1975 (by decide) ?_
        refine lv_iadd hx hb dL_law_1976 ?_
        refine lv_topi (fun t1 ht1 => ?_)
        have et1 : t1.toInt = x.toInt + 1 := by rw [ht1, addI _ _ (by simp only [Int32.reduceToInt]; omega)]; rfl
        refine va_sld hx hb hX hbl hbA hI.2.2.1 (vp_in_iff.mpr ⟨by omega, by omega⟩) dL_law_1977 ?_
        rw [show t1 = y1 from by rw [ht1, hy1], hv1]
        refine lv_aload_n hx hb dL_law_1978 rfl (lv_at hl 0 rfl) ?_
        refine lv_iload_n hx hb dL_law_1979 rfl (lv_at hl 3 rfl) ?_
        refine lv_iconst (v := 2) hx hb dL_law_1980 (by decide) ?_
        refine lv_iadd hx hb dL_law_1981 ?_
        refine lv_topi (fun t2 ht2 => ?_)
        have et2 : t2.toInt = x.toInt + 2 := by rw [ht2, addI _ _ (by simp only [Int32.reduceToInt]; omega)]; rfl
        refine va_sld hx hb hX hbl hbA hI.2.2.1 (vp_in_iff.mpr ⟨by omega, by omega⟩) dL_law_1982 ?_
        rw [show t2 = y2 from by rw [ht2, hy2], hv2]
        refine lv_aload_n hx hb dL_law_1983 rfl (lv_at hl 0 rfl) ?_
        refine lv_iload_n hx hb dL_law_1984 rfl (lv_at hl 3 rfl) ?_
        refine lv_iconst (v := 3) hx hb dL_law_1985 (by decide) ?_
        refine lv_iadd hx hb dL_law_1986 ?_
        refine lv_topi (fun t3 ht3 => ?_)
        have et3 : t3.toInt = x.toInt + 3 := by rw [ht3, addI _ _ (by simp only [Int32.reduceToInt]; omega)]; rfl
        refine va_sld hx hb hX hbl hbA hI.2.2.1 (vp_in_iff.mpr ⟨by omega, by omega⟩) dL_law_1987 ?_
        rw [show t3 = y3 from by rw [ht3, hy3], hv3]
        refine zlcall (con := zc_1279) (zq_RL_286 X (zM_1279 hw hm) (by decide) rfl rfl) rfl hI (As := [.ref g, .int v1, .int v2, .int v3]) (rest := []) ⟨⟨_, _, rfl, hk6.1, hk6.2⟩, ⟨_, rfl, hc1⟩, ⟨_, rfl, hc2⟩, ⟨_, rfl, hc3⟩, trivial⟩ (Nat.le_of_ble_eq_true rfl) hl.1 dL_law_1988 (fun H locs wB r hI hr hkB hpB => ?_)
        have hr : zF2 (zok ks ad) [(0, (0), (0))] r := hr
        obtain ⟨_, _, rfl, ⟨z48, rfl, lz48⟩, hr2⟩ := zst1 hr
        obtain rfl := zst0 hr2
        dsimp only at lz48
        dsimp only [List.cons_append, List.nil_append]
        have oA : (1 : Int) ≤ zfv ks wA 29 1002 ∧ zfv ks wA 29 1002 ≤ 1 := hpA.2.1 (29, 1002, 1, 1) (List.mem_of_getElem? (i := 0) rfl)
        have oW : (0 : Int) ≤ zfv ks wB 36 1002 ∧ zfv ks wB 36 1002 ≤ 3 := hpB.2.1 (36, 1002, 0, 3) (List.mem_of_getElem? (i := 0) rfl)
        have oS := zrowf (x1 := 0) (x2 := v1.toInt) (a := v2.toInt) (b := v3.toInt) (p := zfv ks wA 29 1002) (q := zfv ks wA 30 1002) (r := zfv ks wA 31 1002) (t := z47.toInt) hpA.2.2 (by decide +kernel) (by decide +kernel)
        have oM := zrowg (x1 := 0) (x2 := v1.toInt) (a := v2.toInt) (b := v3.toInt) (q := zfv ks wB 36 1002) (r := zfv ks wB 37 1002) (t := z48.toInt) hpB.2.2 (by decide +kernel) (by decide +kernel)
        have oV := zroww (x1 := 0) (x2 := v1.toInt) (a := v2.toInt) (b := v3.toInt) (p := zfv ks wA 29 1002) (q := zfv ks wA 30 1002) (r := zfv ks wA 31 1002) (t := z47.toInt) hpA.2.2 (by decide +kernel) (by decide +kernel)
        have oU := zrowx (x1 := 0) (x2 := v1.toInt) (a := v2.toInt) (b := v3.toInt) (q := zfv ks wB 36 1002) (r := zfv ks wB 37 1002) (t := z48.toInt) hpB.2.2 (by decide +kernel) (by decide +kernel)
        have hq := zrel_row 2 hq hkA hkB (by decide +kernel) (by decide +kernel) (by decide +kernel) (by decide +kernel) (by decide +kernel) (Int.le_antisymm oA.2 oA.1) oS oW.1 oM oV oU
        refine lv_pop hx hb dL_law_1991 rfl ?_
        refine lv_goto (tgt := 2131) hx hb dL_law_1992 (by decide) ?_
        exact hT ls _ _ _ hl ⟨hI, hq⟩
      · skip
        refine zlcall (con := zc_1229) (zq_RL_283 X (zM_1229 hw hm) (by decide) rfl rfl) rfl hI (As := [.ref h, .int v1, .int v2, .int v3]) (rest := []) ⟨⟨_, _, rfl, hk5.1, hk5.2⟩, ⟨_, rfl, hc1⟩, ⟨_, rfl, hc2⟩, ⟨_, rfl, hc3, (bT _).2⟩, trivial⟩ (Nat.le_of_ble_eq_true rfl) hl.1 dL_law_1968 (fun H locs w r hI hr hk hp => ?_)
        have hq := zrel_keep hk (by decide +kernel) hq
        have hr : zF2 (zok ks ad) [(0, (-2), (-2))] r := hr
        obtain ⟨_, _, rfl, ⟨z49, rfl, lz49⟩, hr2⟩ := zst1 hr
        obtain rfl := zst0 hr2
        dsimp only at lz49
        dsimp only [List.cons_append, List.nil_append]
        refine lv_pop hx hb dL_law_1971 rfl ?_
        refine lv_aload_n hx hb dL_law_1972 rfl (lv_at hl 2 rfl) ?_
        refine lv_aload_n hx hb dL_law_1973 rfl (lv_at hl 0 rfl) ?_
        refine lv_iload_n hx hb dL_law_1974 rfl (lv_at hl 3 rfl) ?_
        refine lv_iconst (v := 1) hx hb dL_law_1975 (by decide) ?_
        refine lv_iadd hx hb dL_law_1976 ?_
        refine lv_topi (fun t1 ht1 => ?_)
        have et1 : t1.toInt = x.toInt + 1 := by rw [ht1, addI _ _ (by simp only [Int32.reduceToInt]; omega)]; rfl
        refine va_sld hx hb hX hbl hbA hI.2.2.1 (vp_in_iff.mpr ⟨by omega, by omega⟩) dL_law_1977 ?_
        rw [show t1 = y1 from by rw [ht1, hy1], hv1]
        refine lv_aload_n hx hb dL_law_1978 rfl (lv_at hl 0 rfl) ?_
        refine lv_iload_n hx hb dL_law_1979 rfl (lv_at hl 3 rfl) ?_
        refine lv_iconst (v := 2) hx hb dL_law_1980 (by decide) ?_
        refine lv_iadd hx hb dL_law_1981 ?_
        refine lv_topi (fun t2 ht2 => ?_)
        have et2 : t2.toInt = x.toInt + 2 := by rw [ht2, addI _ _ (by simp only [Int32.reduceToInt]; omega)]; rfl
        refine va_sld hx hb hX hbl hbA hI.2.2.1 (vp_in_iff.mpr ⟨by omega, by omega⟩) dL_law_1982 ?_
        rw [show t2 = y2 from by rw [ht2, hy2], hv2]
        refine lv_aload_n hx hb dL_law_1983 rfl (lv_at hl 0 rfl) ?_
        refine lv_iload_n hx hb dL_law_1984 rfl (lv_at hl 3 rfl) ?_
        refine lv_iconst (v := 3) hx hb dL_law_1985 (by decide) ?_
        refine lv_iadd hx hb dL_law_1986 ?_
        refine lv_topi (fun t3 ht3 => ?_)
        have et3 : t3.toInt = x.toInt + 3 := by rw [ht3, addI _ _ (by simp only [Int32.reduceToInt]; omega)]; rfl
        refine va_sld hx hb hX hbl hbA hI.2.2.1 (vp_in_iff.mpr ⟨by omega, by omega⟩) dL_law_1987 ?_
        rw [show t3 = y3 from by rw [ht3, hy3], hv3]
        refine zlcall (con := zc_1280) (zq_RL_286 X (zM_1280 hw hm) (by decide) rfl rfl) rfl hI (As := [.ref g, .int v1, .int v2, .int v3]) (rest := []) ⟨⟨_, _, rfl, hk6.1, hk6.2⟩, ⟨_, rfl, hc1⟩, ⟨_, rfl, hc2⟩, ⟨_, rfl, hc3, (bT _).2⟩, trivial⟩ (Nat.le_of_ble_eq_true rfl) hl.1 dL_law_1988 (fun H locs w r hI hr hk hp => ?_)
        have hq := zrel_keep hk (by decide +kernel) hq
        have hr : zF2 (zok ks ad) [(0, (-2), (-2))] r := hr
        obtain ⟨_, _, rfl, ⟨z50, rfl, lz50⟩, hr2⟩ := zst1 hr
        obtain rfl := zst0 hr2
        dsimp only at lz50
        dsimp only [List.cons_append, List.nil_append]
        refine lv_pop hx hb dL_law_1991 rfl ?_
        refine lv_goto (tgt := 2131) hx hb dL_law_1992 (by decide) ?_
        exact hT ls _ _ _ hl ⟨hI, hq⟩
    · skip
      rcases (show v3.toInt ≤ -1 ∨ (0 ≤ v3.toInt ∧ v3.toInt ≤ 60) ∨ 61 ≤ v3.toInt from by omega) with hc3 | hc3 | hc3
      · skip
        refine zlcall (con := zc_1230) (zq_RL_283 X (zM_1230 hw hm) (by decide) rfl rfl) rfl hI (As := [.ref h, .int v1, .int v2, .int v3]) (rest := []) ⟨⟨_, _, rfl, hk5.1, hk5.2⟩, ⟨_, rfl, hc1⟩, ⟨_, rfl, hc2, (bT _).2⟩, ⟨_, rfl, (bT _).1, hc3⟩, trivial⟩ (Nat.le_of_ble_eq_true rfl) hl.1 dL_law_1968 (fun H locs w r hI hr hk hp => ?_)
        have hq := zrel_keep hk (by decide +kernel) hq
        have hr : zF2 (zok ks ad) [(0, (-2), (-2))] r := hr
        obtain ⟨_, _, rfl, ⟨z51, rfl, lz51⟩, hr2⟩ := zst1 hr
        obtain rfl := zst0 hr2
        dsimp only at lz51
        dsimp only [List.cons_append, List.nil_append]
        refine lv_pop hx hb dL_law_1971 rfl ?_
        refine lv_aload_n hx hb dL_law_1972 rfl (lv_at hl 2 rfl) ?_
        refine lv_aload_n hx hb dL_law_1973 rfl (lv_at hl 0 rfl) ?_
        refine lv_iload_n hx hb dL_law_1974 rfl (lv_at hl 3 rfl) ?_
        refine lv_iconst (v := 1) hx hb dL_law_1975 (by decide) ?_
        refine lv_iadd hx hb dL_law_1976 ?_
        refine lv_topi (fun t1 ht1 => ?_)
        have et1 : t1.toInt = x.toInt + 1 := by rw [ht1, addI _ _ (by simp only [Int32.reduceToInt]; omega)]; rfl
        refine va_sld hx hb hX hbl hbA hI.2.2.1 (vp_in_iff.mpr ⟨by omega, by omega⟩) dL_law_1977 ?_
        rw [show t1 = y1 from by rw [ht1, hy1], hv1]
        refine lv_aload_n hx hb dL_law_1978 rfl (lv_at hl 0 rfl) ?_
        refine lv_iload_n hx hb dL_law_1979 rfl (lv_at hl 3 rfl) ?_
        refine lv_iconst (v := 2) hx hb dL_law_1980 (by decide) ?_
        refine lv_iadd hx hb dL_law_1981 ?_
        refine lv_topi (fun t2 ht2 => ?_)
        have et2 : t2.toInt = x.toInt + 2 := by rw [ht2, addI _ _ (by simp only [Int32.reduceToInt]; omega)]; rfl
        refine va_sld hx hb hX hbl hbA hI.2.2.1 (vp_in_iff.mpr ⟨by omega, by omega⟩) dL_law_1982 ?_
        rw [show t2 = y2 from by rw [ht2, hy2], hv2]
        refine lv_aload_n hx hb dL_law_1983 rfl (lv_at hl 0 rfl) ?_
        refine lv_iload_n hx hb dL_law_1984 rfl (lv_at hl 3 rfl) ?_
        refine lv_iconst (v := 3) hx hb dL_law_1985 (by decide) ?_
        refine lv_iadd hx hb dL_law_1986 ?_
        refine lv_topi (fun t3 ht3 => ?_)
        have et3 : t3.toInt = x.toInt + 3 := by rw [ht3, addI _ _ (by simp only [Int32.reduceToInt]; omega)]; rfl
        refine va_sld hx hb hX hbl hbA hI.2.2.1 (vp_in_iff.mpr ⟨by omega, by omega⟩) dL_law_1987 ?_
        rw [show t3 = y3 from by rw [ht3, hy3], hv3]
        refine zlcall (con := zc_1281) (zq_RL_286 X (zM_1281 hw hm) (by decide) rfl rfl) rfl hI (As := [.ref g, .int v1, .int v2, .int v3]) (rest := []) ⟨⟨_, _, rfl, hk6.1, hk6.2⟩, ⟨_, rfl, hc1⟩, ⟨_, rfl, hc2, (bT _).2⟩, ⟨_, rfl, (bT _).1, hc3⟩, trivial⟩ (Nat.le_of_ble_eq_true rfl) hl.1 dL_law_1988 (fun H locs w r hI hr hk hp => ?_)
        have hq := zrel_keep hk (by decide +kernel) hq
        have hr : zF2 (zok ks ad) [(0, (-2), (-2))] r := hr
        obtain ⟨_, _, rfl, ⟨z52, rfl, lz52⟩, hr2⟩ := zst1 hr
        obtain rfl := zst0 hr2
        dsimp only at lz52
        dsimp only [List.cons_append, List.nil_append]
        refine lv_pop hx hb dL_law_1991 rfl ?_
        refine lv_goto (tgt := 2131) hx hb dL_law_1992 (by decide) ?_
        exact hT ls _ _ _ hl ⟨hI, hq⟩
      · skip
        refine zlcall (con := zc_1231) (zq_RL_283 X (zM_1231 hw hm) (by decide) rfl rfl) rfl hI (As := [.ref h, .int v1, .int v2, .int v3]) (rest := []) ⟨⟨_, _, rfl, hk5.1, hk5.2⟩, ⟨_, rfl, hc1⟩, ⟨_, rfl, hc2, (bT _).2⟩, ⟨_, rfl, hc3⟩, trivial⟩ (Nat.le_of_ble_eq_true rfl) hl.1 dL_law_1968 (fun H locs w r hI hr hk hp => ?_)
        have hq := zrel_keep hk (by decide +kernel) hq
        have hr : zF2 (zok ks ad) [(0, (-2), (-2))] r := hr
        obtain ⟨_, _, rfl, ⟨z53, rfl, lz53⟩, hr2⟩ := zst1 hr
        obtain rfl := zst0 hr2
        dsimp only at lz53
        dsimp only [List.cons_append, List.nil_append]
        refine lv_pop hx hb dL_law_1971 rfl ?_
        refine lv_aload_n hx hb dL_law_1972 rfl (lv_at hl 2 rfl) ?_
        refine lv_aload_n hx hb dL_law_1973 rfl (lv_at hl 0 rfl) ?_
        refine lv_iload_n hx hb dL_law_1974 rfl (lv_at hl 3 rfl) ?_
        refine lv_iconst (v := 1) hx hb dL_law_1975 (by decide) ?_
        refine lv_iadd hx hb dL_law_1976 ?_
        refine lv_topi (fun t1 ht1 => ?_)
        have et1 : t1.toInt = x.toInt + 1 := by rw [ht1, addI _ _ (by simp only [Int32.reduceToInt]; omega)]; rfl
        refine va_sld hx hb hX hbl hbA hI.2.2.1 (vp_in_iff.mpr ⟨by omega, by omega⟩) dL_law_1977 ?_
        rw [show t1 = y1 from by rw [ht1, hy1], hv1]
        refine lv_aload_n hx hb dL_law_1978 rfl (lv_at hl 0 rfl) ?_
        refine lv_iload_n hx hb dL_law_1979 rfl (lv_at hl 3 rfl) ?_
        refine lv_iconst (v := 2) hx hb dL_law_1980 (by decide) ?_
        refine lv_iadd hx hb dL_law_1981 ?_
        refine lv_topi (fun t2 ht2 => ?_)
        have et2 : t2.toInt = x.toInt + 2 := by rw [ht2, addI _ _ (by simp only [Int32.reduceToInt]; omega)]; rfl
        refine va_sld hx hb hX hbl hbA hI.2.2.1 (vp_in_iff.mpr ⟨by omega, by omega⟩) dL_law_1982 ?_
        rw [show t2 = y2 from by rw [ht2, hy2], hv2]
        refine lv_aload_n hx hb dL_law_1983 rfl (lv_at hl 0 rfl) ?_
        refine lv_iload_n hx hb dL_law_1984 rfl (lv_at hl 3 rfl) ?_
        refine lv_iconst (v := 3) hx hb dL_law_1985 (by decide) ?_
        refine lv_iadd hx hb dL_law_1986 ?_
        refine lv_topi (fun t3 ht3 => ?_)
        have et3 : t3.toInt = x.toInt + 3 := by rw [ht3, addI _ _ (by simp only [Int32.reduceToInt]; omega)]; rfl
        refine va_sld hx hb hX hbl hbA hI.2.2.1 (vp_in_iff.mpr ⟨by omega, by omega⟩) dL_law_1987 ?_
        rw [show t3 = y3 from by rw [ht3, hy3], hv3]
        refine zlcall (con := zc_1282) (zq_RL_286 X (zM_1282 hw hm) (by decide) rfl rfl) rfl hI (As := [.ref g, .int v1, .int v2, .int v3]) (rest := []) ⟨⟨_, _, rfl, hk6.1, hk6.2⟩, ⟨_, rfl, hc1⟩, ⟨_, rfl, hc2, (bT _).2⟩, ⟨_, rfl, hc3⟩, trivial⟩ (Nat.le_of_ble_eq_true rfl) hl.1 dL_law_1988 (fun H locs w r hI hr hk hp => ?_)
        have hq := zrel_keep hk (by decide +kernel) hq
        have hr : zF2 (zok ks ad) [(0, (-2), (-2))] r := hr
        obtain ⟨_, _, rfl, ⟨z54, rfl, lz54⟩, hr2⟩ := zst1 hr
        obtain rfl := zst0 hr2
        dsimp only at lz54
        dsimp only [List.cons_append, List.nil_append]
        refine lv_pop hx hb dL_law_1991 rfl ?_
        refine lv_goto (tgt := 2131) hx hb dL_law_1992 (by decide) ?_
        exact hT ls _ _ _ hl ⟨hI, hq⟩
      · skip
        refine zlcall (con := zc_1232) (zq_RL_283 X (zM_1232 hw hm) (by decide) rfl rfl) rfl hI (As := [.ref h, .int v1, .int v2, .int v3]) (rest := []) ⟨⟨_, _, rfl, hk5.1, hk5.2⟩, ⟨_, rfl, hc1⟩, ⟨_, rfl, hc2, (bT _).2⟩, ⟨_, rfl, hc3, (bT _).2⟩, trivial⟩ (Nat.le_of_ble_eq_true rfl) hl.1 dL_law_1968 (fun H locs w r hI hr hk hp => ?_)
        have hq := zrel_keep hk (by decide +kernel) hq
        have hr : zF2 (zok ks ad) [(0, (-2), (-2))] r := hr
        obtain ⟨_, _, rfl, ⟨z55, rfl, lz55⟩, hr2⟩ := zst1 hr
        obtain rfl := zst0 hr2
        dsimp only at lz55
        dsimp only [List.cons_append, List.nil_append]
        refine lv_pop hx hb dL_law_1971 rfl ?_
        refine lv_aload_n hx hb dL_law_1972 rfl (lv_at hl 2 rfl) ?_
        refine lv_aload_n hx hb dL_law_1973 rfl (lv_at hl 0 rfl) ?_
        refine lv_iload_n hx hb dL_law_1974 rfl (lv_at hl 3 rfl) ?_
        refine lv_iconst (v := 1) hx hb dL_law_1975 (by decide) ?_
        refine lv_iadd hx hb dL_law_1976 ?_
        refine lv_topi (fun t1 ht1 => ?_)
        have et1 : t1.toInt = x.toInt + 1 := by rw [ht1, addI _ _ (by simp only [Int32.reduceToInt]; omega)]; rfl
        refine va_sld hx hb hX hbl hbA hI.2.2.1 (vp_in_iff.mpr ⟨by omega, by omega⟩) dL_law_1977 ?_
        rw [show t1 = y1 from by rw [ht1, hy1], hv1]
        refine lv_aload_n hx hb dL_law_1978 rfl (lv_at hl 0 rfl) ?_
        refine lv_iload_n hx hb dL_law_1979 rfl (lv_at hl 3 rfl) ?_
        refine lv_iconst (v := 2) hx hb dL_law_1980 (by decide) ?_
        refine lv_iadd hx hb dL_law_1981 ?_
        refine lv_topi (fun t2 ht2 => ?_)
        have et2 : t2.toInt = x.toInt + 2 := by rw [ht2, addI _ _ (by simp only [Int32.reduceToInt]; omega)]; rfl
        refine va_sld hx hb hX hbl hbA hI.2.2.1 (vp_in_iff.mpr ⟨by omega, by omega⟩) dL_law_1982 ?_
        rw [show t2 = y2 from by rw [ht2, hy2], hv2]
        refine lv_aload_n hx hb dL_law_1983 rfl (lv_at hl 0 rfl) ?_
        refine lv_iload_n hx hb dL_law_1984 rfl (lv_at hl 3 rfl) ?_
        refine lv_iconst (v := 3) hx hb dL_law_1985 (by decide) ?_
        refine lv_iadd hx hb dL_law_1986 ?_
        refine lv_topi (fun t3 ht3 => ?_)
        have et3 : t3.toInt = x.toInt + 3 := by rw [ht3, addI _ _ (by simp only [Int32.reduceToInt]; omega)]; rfl
        refine va_sld hx hb hX hbl hbA hI.2.2.1 (vp_in_iff.mpr ⟨by omega, by omega⟩) dL_law_1987 ?_
        rw [show t3 = y3 from by rw [ht3, hy3], hv3]
        refine zlcall (con := zc_1283) (zq_RL_286 X (zM_1283 hw hm) (by decide) rfl rfl) rfl hI (As := [.ref g, .int v1, .int v2, .int v3]) (rest := []) ⟨⟨_, _, rfl, hk6.1, hk6.2⟩, ⟨_, rfl, hc1⟩, ⟨_, rfl, hc2, (bT _).2⟩, ⟨_, rfl, hc3, (bT _).2⟩, trivial⟩ (Nat.le_of_ble_eq_true rfl) hl.1 dL_law_1988 (fun H locs w r hI hr hk hp => ?_)
        have hq := zrel_keep hk (by decide +kernel) hq
        have hr : zF2 (zok ks ad) [(0, (-2), (-2))] r := hr
        obtain ⟨_, _, rfl, ⟨z56, rfl, lz56⟩, hr2⟩ := zst1 hr
        obtain rfl := zst0 hr2
        dsimp only at lz56
        dsimp only [List.cons_append, List.nil_append]
        refine lv_pop hx hb dL_law_1991 rfl ?_
        refine lv_goto (tgt := 2131) hx hb dL_law_1992 (by decide) ?_
        exact hT ls _ _ _ hl ⟨hI, hq⟩
  · skip
    rcases (show v2.toInt ≤ -1 ∨ (0 ≤ v2.toInt ∧ v2.toInt ≤ 3) ∨ 4 ≤ v2.toInt from by omega) with hc2 | hc2 | hc2
    · skip
      rcases (show v3.toInt ≤ -1 ∨ (0 ≤ v3.toInt ∧ v3.toInt ≤ 60) ∨ 61 ≤ v3.toInt from by omega) with hc3 | hc3 | hc3
      · skip
        refine zlcall (con := zc_1233) (zq_RL_283 X (zM_1233 hw hm) (by decide) rfl rfl) rfl hI (As := [.ref h, .int v1, .int v2, .int v3]) (rest := []) ⟨⟨_, _, rfl, hk5.1, hk5.2⟩, ⟨_, rfl, hc1⟩, ⟨_, rfl, (bT _).1, hc2⟩, ⟨_, rfl, (bT _).1, hc3⟩, trivial⟩ (Nat.le_of_ble_eq_true rfl) hl.1 dL_law_1968 (fun H locs w r hI hr hk hp => ?_)
        have hq := zrel_keep hk (by decide +kernel) hq
        have hr : zF2 (zok ks ad) [(0, (-2), (-2))] r := hr
        obtain ⟨_, _, rfl, ⟨z57, rfl, lz57⟩, hr2⟩ := zst1 hr
        obtain rfl := zst0 hr2
        dsimp only at lz57
        dsimp only [List.cons_append, List.nil_append]
        refine lv_pop hx hb dL_law_1971 rfl ?_
        refine lv_aload_n hx hb dL_law_1972 rfl (lv_at hl 2 rfl) ?_
        refine lv_aload_n hx hb dL_law_1973 rfl (lv_at hl 0 rfl) ?_
        refine lv_iload_n hx hb dL_law_1974 rfl (lv_at hl 3 rfl) ?_
        refine lv_iconst (v := 1) hx hb dL_law_1975 (by decide) ?_
        refine lv_iadd hx hb dL_law_1976 ?_
        refine lv_topi (fun t1 ht1 => ?_)
        have et1 : t1.toInt = x.toInt + 1 := by rw [ht1, addI _ _ (by simp only [Int32.reduceToInt]; omega)]; rfl
        refine va_sld hx hb hX hbl hbA hI.2.2.1 (vp_in_iff.mpr ⟨by omega, by omega⟩) dL_law_1977 ?_
        rw [show t1 = y1 from by rw [ht1, hy1], hv1]
        refine lv_aload_n hx hb dL_law_1978 rfl (lv_at hl 0 rfl) ?_
        refine lv_iload_n hx hb dL_law_1979 rfl (lv_at hl 3 rfl) ?_
        refine lv_iconst (v := 2) hx hb dL_law_1980 (by decide) ?_
        refine lv_iadd hx hb dL_law_1981 ?_
        refine lv_topi (fun t2 ht2 => ?_)
        have et2 : t2.toInt = x.toInt + 2 := by rw [ht2, addI _ _ (by simp only [Int32.reduceToInt]; omega)]; rfl
        refine va_sld hx hb hX hbl hbA hI.2.2.1 (vp_in_iff.mpr ⟨by omega, by omega⟩) dL_law_1982 ?_
        rw [show t2 = y2 from by rw [ht2, hy2], hv2]
        refine lv_aload_n hx hb dL_law_1983 rfl (lv_at hl 0 rfl) ?_
        refine lv_iload_n hx hb dL_law_1984 rfl (lv_at hl 3 rfl) ?_
        refine lv_iconst (v := 3) hx hb dL_law_1985 (by decide) ?_
        refine lv_iadd hx hb dL_law_1986 ?_
        refine lv_topi (fun t3 ht3 => ?_)
        have et3 : t3.toInt = x.toInt + 3 := by rw [ht3, addI _ _ (by simp only [Int32.reduceToInt]; omega)]; rfl
        refine va_sld hx hb hX hbl hbA hI.2.2.1 (vp_in_iff.mpr ⟨by omega, by omega⟩) dL_law_1987 ?_
        rw [show t3 = y3 from by rw [ht3, hy3], hv3]
        refine zlcall (con := zc_1284) (zq_RL_286 X (zM_1284 hw hm) (by decide) rfl rfl) rfl hI (As := [.ref g, .int v1, .int v2, .int v3]) (rest := []) ⟨⟨_, _, rfl, hk6.1, hk6.2⟩, ⟨_, rfl, hc1⟩, ⟨_, rfl, (bT _).1, hc2⟩, ⟨_, rfl, (bT _).1, hc3⟩, trivial⟩ (Nat.le_of_ble_eq_true rfl) hl.1 dL_law_1988 (fun H locs w r hI hr hk hp => ?_)
        have hq := zrel_keep hk (by decide +kernel) hq
        have hr : zF2 (zok ks ad) [(0, (-2), (-2))] r := hr
        obtain ⟨_, _, rfl, ⟨z58, rfl, lz58⟩, hr2⟩ := zst1 hr
        obtain rfl := zst0 hr2
        dsimp only at lz58
        dsimp only [List.cons_append, List.nil_append]
        refine lv_pop hx hb dL_law_1991 rfl ?_
        refine lv_goto (tgt := 2131) hx hb dL_law_1992 (by decide) ?_
        exact hT ls _ _ _ hl ⟨hI, hq⟩
      · skip
        refine zlcall (con := zc_1234) (zq_RL_283 X (zM_1234 hw hm) (by decide) rfl rfl) rfl hI (As := [.ref h, .int v1, .int v2, .int v3]) (rest := []) ⟨⟨_, _, rfl, hk5.1, hk5.2⟩, ⟨_, rfl, hc1⟩, ⟨_, rfl, (bT _).1, hc2⟩, ⟨_, rfl, hc3⟩, trivial⟩ (Nat.le_of_ble_eq_true rfl) hl.1 dL_law_1968 (fun H locs w r hI hr hk hp => ?_)
        have hq := zrel_keep hk (by decide +kernel) hq
        have hr : zF2 (zok ks ad) [(0, (-2), (-2))] r := hr
        obtain ⟨_, _, rfl, ⟨z59, rfl, lz59⟩, hr2⟩ := zst1 hr
        obtain rfl := zst0 hr2
        dsimp only at lz59
        dsimp only [List.cons_append, List.nil_append]
        refine lv_pop hx hb dL_law_1971 rfl ?_
        refine lv_aload_n hx hb dL_law_1972 rfl (lv_at hl 2 rfl) ?_
        refine lv_aload_n hx hb dL_law_1973 rfl (lv_at hl 0 rfl) ?_
        refine lv_iload_n hx hb dL_law_1974 rfl (lv_at hl 3 rfl) ?_
        refine lv_iconst (v := 1) hx hb dL_law_1975 (by decide) ?_
        refine lv_iadd hx hb dL_law_1976 ?_
        refine lv_topi (fun t1 ht1 => ?_)
        have et1 : t1.toInt = x.toInt + 1 := by rw [ht1, addI _ _ (by simp only [Int32.reduceToInt]; omega)]; rfl
        refine va_sld hx hb hX hbl hbA hI.2.2.1 (vp_in_iff.mpr ⟨by omega, by omega⟩) dL_law_1977 ?_
        rw [show t1 = y1 from by rw [ht1, hy1], hv1]
        refine lv_aload_n hx hb dL_law_1978 rfl (lv_at hl 0 rfl) ?_
        refine lv_iload_n hx hb dL_law_1979 rfl (lv_at hl 3 rfl) ?_
        refine lv_iconst (v := 2) hx hb dL_law_1980 (by decide) ?_
        refine lv_iadd hx hb dL_law_1981 ?_
        refine lv_topi (fun t2 ht2 => ?_)
        have et2 : t2.toInt = x.toInt + 2 := by rw [ht2, addI _ _ (by simp only [Int32.reduceToInt]; omega)]; rfl
        refine va_sld hx hb hX hbl hbA hI.2.2.1 (vp_in_iff.mpr ⟨by omega, by omega⟩) dL_law_1982 ?_
        rw [show t2 = y2 from by rw [ht2, hy2], hv2]
        refine lv_aload_n hx hb dL_law_1983 rfl (lv_at hl 0 rfl) ?_
        refine lv_iload_n hx hb dL_law_1984 rfl (lv_at hl 3 rfl) ?_
        refine lv_iconst (v := 3) hx hb dL_law_1985 (by decide) ?_
        refine lv_iadd hx hb dL_law_1986 ?_
        refine lv_topi (fun t3 ht3 => ?_)
        have et3 : t3.toInt = x.toInt + 3 := by rw [ht3, addI _ _ (by simp only [Int32.reduceToInt]; omega)]; rfl
        refine va_sld hx hb hX hbl hbA hI.2.2.1 (vp_in_iff.mpr ⟨by omega, by omega⟩) dL_law_1987 ?_
        rw [show t3 = y3 from by rw [ht3, hy3], hv3]
        refine zlcall (con := zc_1285) (zq_RL_286 X (zM_1285 hw hm) (by decide) rfl rfl) rfl hI (As := [.ref g, .int v1, .int v2, .int v3]) (rest := []) ⟨⟨_, _, rfl, hk6.1, hk6.2⟩, ⟨_, rfl, hc1⟩, ⟨_, rfl, (bT _).1, hc2⟩, ⟨_, rfl, hc3⟩, trivial⟩ (Nat.le_of_ble_eq_true rfl) hl.1 dL_law_1988 (fun H locs w r hI hr hk hp => ?_)
        have hq := zrel_keep hk (by decide +kernel) hq
        have hr : zF2 (zok ks ad) [(0, (-2), (-2))] r := hr
        obtain ⟨_, _, rfl, ⟨z60, rfl, lz60⟩, hr2⟩ := zst1 hr
        obtain rfl := zst0 hr2
        dsimp only at lz60
        dsimp only [List.cons_append, List.nil_append]
        refine lv_pop hx hb dL_law_1991 rfl ?_
        refine lv_goto (tgt := 2131) hx hb dL_law_1992 (by decide) ?_
        exact hT ls _ _ _ hl ⟨hI, hq⟩
      · skip
        refine zlcall (con := zc_1235) (zq_RL_283 X (zM_1235 hw hm) (by decide) rfl rfl) rfl hI (As := [.ref h, .int v1, .int v2, .int v3]) (rest := []) ⟨⟨_, _, rfl, hk5.1, hk5.2⟩, ⟨_, rfl, hc1⟩, ⟨_, rfl, (bT _).1, hc2⟩, ⟨_, rfl, hc3, (bT _).2⟩, trivial⟩ (Nat.le_of_ble_eq_true rfl) hl.1 dL_law_1968 (fun H locs w r hI hr hk hp => ?_)
        have hq := zrel_keep hk (by decide +kernel) hq
        have hr : zF2 (zok ks ad) [(0, (-2), (-2))] r := hr
        obtain ⟨_, _, rfl, ⟨z61, rfl, lz61⟩, hr2⟩ := zst1 hr
        obtain rfl := zst0 hr2
        dsimp only at lz61
        dsimp only [List.cons_append, List.nil_append]
        refine lv_pop hx hb dL_law_1971 rfl ?_
        refine lv_aload_n hx hb dL_law_1972 rfl (lv_at hl 2 rfl) ?_
        refine lv_aload_n hx hb dL_law_1973 rfl (lv_at hl 0 rfl) ?_
        refine lv_iload_n hx hb dL_law_1974 rfl (lv_at hl 3 rfl) ?_
        refine lv_iconst (v := 1) hx hb dL_law_1975 (by decide) ?_
        refine lv_iadd hx hb dL_law_1976 ?_
        refine lv_topi (fun t1 ht1 => ?_)
        have et1 : t1.toInt = x.toInt + 1 := by rw [ht1, addI _ _ (by simp only [Int32.reduceToInt]; omega)]; rfl
        refine va_sld hx hb hX hbl hbA hI.2.2.1 (vp_in_iff.mpr ⟨by omega, by omega⟩) dL_law_1977 ?_
        rw [show t1 = y1 from by rw [ht1, hy1], hv1]
        refine lv_aload_n hx hb dL_law_1978 rfl (lv_at hl 0 rfl) ?_
        refine lv_iload_n hx hb dL_law_1979 rfl (lv_at hl 3 rfl) ?_
        refine lv_iconst (v := 2) hx hb dL_law_1980 (by decide) ?_
        refine lv_iadd hx hb dL_law_1981 ?_
        refine lv_topi (fun t2 ht2 => ?_)
        have et2 : t2.toInt = x.toInt + 2 := by rw [ht2, addI _ _ (by simp only [Int32.reduceToInt]; omega)]; rfl
        refine va_sld hx hb hX hbl hbA hI.2.2.1 (vp_in_iff.mpr ⟨by omega, by omega⟩) dL_law_1982 ?_
        rw [show t2 = y2 from by rw [ht2, hy2], hv2]
        refine lv_aload_n hx hb dL_law_1983 rfl (lv_at hl 0 rfl) ?_
        refine lv_iload_n hx hb dL_law_1984 rfl (lv_at hl 3 rfl) ?_
        refine lv_iconst (v := 3) hx hb dL_law_1985 (by decide) ?_
        refine lv_iadd hx hb dL_law_1986 ?_
        refine lv_topi (fun t3 ht3 => ?_)
        have et3 : t3.toInt = x.toInt + 3 := by rw [ht3, addI _ _ (by simp only [Int32.reduceToInt]; omega)]; rfl
        refine va_sld hx hb hX hbl hbA hI.2.2.1 (vp_in_iff.mpr ⟨by omega, by omega⟩) dL_law_1987 ?_
        rw [show t3 = y3 from by rw [ht3, hy3], hv3]
        refine zlcall (con := zc_1286) (zq_RL_286 X (zM_1286 hw hm) (by decide) rfl rfl) rfl hI (As := [.ref g, .int v1, .int v2, .int v3]) (rest := []) ⟨⟨_, _, rfl, hk6.1, hk6.2⟩, ⟨_, rfl, hc1⟩, ⟨_, rfl, (bT _).1, hc2⟩, ⟨_, rfl, hc3, (bT _).2⟩, trivial⟩ (Nat.le_of_ble_eq_true rfl) hl.1 dL_law_1988 (fun H locs w r hI hr hk hp => ?_)
        have hq := zrel_keep hk (by decide +kernel) hq
        have hr : zF2 (zok ks ad) [(0, (-2), (-2))] r := hr
        obtain ⟨_, _, rfl, ⟨z62, rfl, lz62⟩, hr2⟩ := zst1 hr
        obtain rfl := zst0 hr2
        dsimp only at lz62
        dsimp only [List.cons_append, List.nil_append]
        refine lv_pop hx hb dL_law_1991 rfl ?_
        refine lv_goto (tgt := 2131) hx hb dL_law_1992 (by decide) ?_
        exact hT ls _ _ _ hl ⟨hI, hq⟩
    · skip
      rcases (show v3.toInt ≤ -1 ∨ (0 ≤ v3.toInt ∧ v3.toInt ≤ 60) ∨ 61 ≤ v3.toInt from by omega) with hc3 | hc3 | hc3
      · skip
        refine zlcall (con := zc_1236) (zq_RL_283 X (zM_1236 hw hm) (by decide) rfl rfl) rfl hI (As := [.ref h, .int v1, .int v2, .int v3]) (rest := []) ⟨⟨_, _, rfl, hk5.1, hk5.2⟩, ⟨_, rfl, hc1⟩, ⟨_, rfl, hc2⟩, ⟨_, rfl, (bT _).1, hc3⟩, trivial⟩ (Nat.le_of_ble_eq_true rfl) hl.1 dL_law_1968 (fun H locs w r hI hr hk hp => ?_)
        have hq := zrel_keep hk (by decide +kernel) hq
        have hr : zF2 (zok ks ad) [(0, (-3), (-3))] r := hr
        obtain ⟨_, _, rfl, ⟨z63, rfl, lz63⟩, hr2⟩ := zst1 hr
        obtain rfl := zst0 hr2
        dsimp only at lz63
        dsimp only [List.cons_append, List.nil_append]
        refine lv_pop hx hb dL_law_1971 rfl ?_
        refine lv_aload_n hx hb dL_law_1972 rfl (lv_at hl 2 rfl) ?_
        refine lv_aload_n hx hb dL_law_1973 rfl (lv_at hl 0 rfl) ?_
        refine lv_iload_n hx hb dL_law_1974 rfl (lv_at hl 3 rfl) ?_
        refine lv_iconst (v := 1) hx hb dL_law_1975 (by decide) ?_
        refine lv_iadd hx hb dL_law_1976 ?_
        refine lv_topi (fun t1 ht1 => ?_)
        have et1 : t1.toInt = x.toInt + 1 := by rw [ht1, addI _ _ (by simp only [Int32.reduceToInt]; omega)]; rfl
        refine va_sld hx hb hX hbl hbA hI.2.2.1 (vp_in_iff.mpr ⟨by omega, by omega⟩) dL_law_1977 ?_
        rw [show t1 = y1 from by rw [ht1, hy1], hv1]
        refine lv_aload_n hx hb dL_law_1978 rfl (lv_at hl 0 rfl) ?_
        refine lv_iload_n hx hb dL_law_1979 rfl (lv_at hl 3 rfl) ?_
        refine lv_iconst (v := 2) hx hb dL_law_1980 (by decide) ?_
        refine lv_iadd hx hb dL_law_1981 ?_
        refine lv_topi (fun t2 ht2 => ?_)
        have et2 : t2.toInt = x.toInt + 2 := by rw [ht2, addI _ _ (by simp only [Int32.reduceToInt]; omega)]; rfl
        refine va_sld hx hb hX hbl hbA hI.2.2.1 (vp_in_iff.mpr ⟨by omega, by omega⟩) dL_law_1982 ?_
        rw [show t2 = y2 from by rw [ht2, hy2], hv2]
        refine lv_aload_n hx hb dL_law_1983 rfl (lv_at hl 0 rfl) ?_
        refine lv_iload_n hx hb dL_law_1984 rfl (lv_at hl 3 rfl) ?_
        refine lv_iconst (v := 3) hx hb dL_law_1985 (by decide) ?_
        refine lv_iadd hx hb dL_law_1986 ?_
        refine lv_topi (fun t3 ht3 => ?_)
        have et3 : t3.toInt = x.toInt + 3 := by rw [ht3, addI _ _ (by simp only [Int32.reduceToInt]; omega)]; rfl
        refine va_sld hx hb hX hbl hbA hI.2.2.1 (vp_in_iff.mpr ⟨by omega, by omega⟩) dL_law_1987 ?_
        rw [show t3 = y3 from by rw [ht3, hy3], hv3]
        refine zlcall (con := zc_1287) (zq_RL_286 X (zM_1287 hw hm) (by decide) rfl rfl) rfl hI (As := [.ref g, .int v1, .int v2, .int v3]) (rest := []) ⟨⟨_, _, rfl, hk6.1, hk6.2⟩, ⟨_, rfl, hc1⟩, ⟨_, rfl, hc2⟩, ⟨_, rfl, (bT _).1, hc3⟩, trivial⟩ (Nat.le_of_ble_eq_true rfl) hl.1 dL_law_1988 (fun H locs w r hI hr hk hp => ?_)
        have hq := zrel_keep hk (by decide +kernel) hq
        have hr : zF2 (zok ks ad) [(0, (-3), (-3))] r := hr
        obtain ⟨_, _, rfl, ⟨z64, rfl, lz64⟩, hr2⟩ := zst1 hr
        obtain rfl := zst0 hr2
        dsimp only at lz64
        dsimp only [List.cons_append, List.nil_append]
        refine lv_pop hx hb dL_law_1991 rfl ?_
        refine lv_goto (tgt := 2131) hx hb dL_law_1992 (by decide) ?_
        exact hT ls _ _ _ hl ⟨hI, hq⟩
      · skip
        refine zlcall (con := zc_1237) (zq_RL_283 X (zM_1237 hw hm) (by decide) rfl rfl) rfl hI (As := [.ref h, .int v1, .int v2, .int v3]) (rest := []) ⟨⟨_, _, rfl, hk5.1, hk5.2⟩, ⟨_, rfl, hc1⟩, ⟨_, rfl, hc2⟩, ⟨_, rfl, hc3⟩, trivial⟩ (Nat.le_of_ble_eq_true rfl) hl.1 dL_law_1968 (fun H locs wA r hI hr hkA hpA => ?_)
        have hr : zF2 (zok ks ad) [(0, (0), (0))] r := hr
        obtain ⟨_, _, rfl, ⟨z65, rfl, lz65⟩, hr2⟩ := zst1 hr
        obtain rfl := zst0 hr2
        dsimp only at lz65
        dsimp only [List.cons_append, List.nil_append]
        refine lv_pop hx hb dL_law_1971 rfl ?_
        refine lv_aload_n hx hb dL_law_1972 rfl (lv_at hl 2 rfl) ?_
        refine lv_aload_n hx hb dL_law_1973 rfl (lv_at hl 0 rfl) ?_
        refine lv_iload_n hx hb dL_law_1974 rfl (lv_at hl 3 rfl) ?_
        refine lv_iconst (v := 1) hx hb dL_law_1975 (by decide) ?_
        refine lv_iadd hx hb dL_law_1976 ?_
        refine lv_topi (fun t1 ht1 => ?_)
        have et1 : t1.toInt = x.toInt + 1 := by rw [ht1, addI _ _ (by simp only [Int32.reduceToInt]; omega)]; rfl
        refine va_sld hx hb hX hbl hbA hI.2.2.1 (vp_in_iff.mpr ⟨by omega, by omega⟩) dL_law_1977 ?_
        rw [show t1 = y1 from by rw [ht1, hy1], hv1]
        refine lv_aload_n hx hb dL_law_1978 rfl (lv_at hl 0 rfl) ?_
        refine lv_iload_n hx hb dL_law_1979 rfl (lv_at hl 3 rfl) ?_
        refine lv_iconst (v := 2) hx hb dL_law_1980 (by decide) ?_
        refine lv_iadd hx hb dL_law_1981 ?_
        refine lv_topi (fun t2 ht2 => ?_)
        have et2 : t2.toInt = x.toInt + 2 := by rw [ht2, addI _ _ (by simp only [Int32.reduceToInt]; omega)]; rfl
        refine va_sld hx hb hX hbl hbA hI.2.2.1 (vp_in_iff.mpr ⟨by omega, by omega⟩) dL_law_1982 ?_
        rw [show t2 = y2 from by rw [ht2, hy2], hv2]
        refine lv_aload_n hx hb dL_law_1983 rfl (lv_at hl 0 rfl) ?_
        refine lv_iload_n hx hb dL_law_1984 rfl (lv_at hl 3 rfl) ?_
        refine lv_iconst (v := 3) hx hb dL_law_1985 (by decide) ?_
        refine lv_iadd hx hb dL_law_1986 ?_
        refine lv_topi (fun t3 ht3 => ?_)
        have et3 : t3.toInt = x.toInt + 3 := by rw [ht3, addI _ _ (by simp only [Int32.reduceToInt]; omega)]; rfl
        refine va_sld hx hb hX hbl hbA hI.2.2.1 (vp_in_iff.mpr ⟨by omega, by omega⟩) dL_law_1987 ?_
        rw [show t3 = y3 from by rw [ht3, hy3], hv3]
        refine zlcall (con := zc_1288) (zq_RL_286 X (zM_1288 hw hm) (by decide) rfl rfl) rfl hI (As := [.ref g, .int v1, .int v2, .int v3]) (rest := []) ⟨⟨_, _, rfl, hk6.1, hk6.2⟩, ⟨_, rfl, hc1⟩, ⟨_, rfl, hc2⟩, ⟨_, rfl, hc3⟩, trivial⟩ (Nat.le_of_ble_eq_true rfl) hl.1 dL_law_1988 (fun H locs wB r hI hr hkB hpB => ?_)
        have hr : zF2 (zok ks ad) [(0, (0), (0))] r := hr
        obtain ⟨_, _, rfl, ⟨z66, rfl, lz66⟩, hr2⟩ := zst1 hr
        obtain rfl := zst0 hr2
        dsimp only at lz66
        dsimp only [List.cons_append, List.nil_append]
        have oA : (1 : Int) ≤ zfv ks wA 29 1003 ∧ zfv ks wA 29 1003 ≤ 1 := hpA.2.1 (29, 1003, 1, 1) (List.mem_of_getElem? (i := 0) rfl)
        have oW : (0 : Int) ≤ zfv ks wB 36 1003 ∧ zfv ks wB 36 1003 ≤ 3 := hpB.2.1 (36, 1003, 0, 3) (List.mem_of_getElem? (i := 0) rfl)
        have oS := zrowf (x1 := 0) (x2 := v1.toInt) (a := v2.toInt) (b := v3.toInt) (p := zfv ks wA 29 1003) (q := zfv ks wA 30 1003) (r := zfv ks wA 31 1003) (t := z65.toInt) hpA.2.2 (by decide +kernel) (by decide +kernel)
        have oM := zrowg (x1 := 0) (x2 := v1.toInt) (a := v2.toInt) (b := v3.toInt) (q := zfv ks wB 36 1003) (r := zfv ks wB 37 1003) (t := z66.toInt) hpB.2.2 (by decide +kernel) (by decide +kernel)
        have oV := zroww (x1 := 0) (x2 := v1.toInt) (a := v2.toInt) (b := v3.toInt) (p := zfv ks wA 29 1003) (q := zfv ks wA 30 1003) (r := zfv ks wA 31 1003) (t := z65.toInt) hpA.2.2 (by decide +kernel) (by decide +kernel)
        have oU := zrowx (x1 := 0) (x2 := v1.toInt) (a := v2.toInt) (b := v3.toInt) (q := zfv ks wB 36 1003) (r := zfv ks wB 37 1003) (t := z66.toInt) hpB.2.2 (by decide +kernel) (by decide +kernel)
        have hq := zrel_row 3 hq hkA hkB (by decide +kernel) (by decide +kernel) (by decide +kernel) (by decide +kernel) (by decide +kernel) (Int.le_antisymm oA.2 oA.1) oS oW.1 oM oV oU
        refine lv_pop hx hb dL_law_1991 rfl ?_
        refine lv_goto (tgt := 2131) hx hb dL_law_1992 (by decide) ?_
        exact hT ls _ _ _ hl ⟨hI, hq⟩
      · skip
        refine zlcall (con := zc_1238) (zq_RL_283 X (zM_1238 hw hm) (by decide) rfl rfl) rfl hI (As := [.ref h, .int v1, .int v2, .int v3]) (rest := []) ⟨⟨_, _, rfl, hk5.1, hk5.2⟩, ⟨_, rfl, hc1⟩, ⟨_, rfl, hc2⟩, ⟨_, rfl, hc3, (bT _).2⟩, trivial⟩ (Nat.le_of_ble_eq_true rfl) hl.1 dL_law_1968 (fun H locs w r hI hr hk hp => ?_)
        have hq := zrel_keep hk (by decide +kernel) hq
        have hr : zF2 (zok ks ad) [(0, (-2), (-2))] r := hr
        obtain ⟨_, _, rfl, ⟨z67, rfl, lz67⟩, hr2⟩ := zst1 hr
        obtain rfl := zst0 hr2
        dsimp only at lz67
        dsimp only [List.cons_append, List.nil_append]
        refine lv_pop hx hb dL_law_1971 rfl ?_
        refine lv_aload_n hx hb dL_law_1972 rfl (lv_at hl 2 rfl) ?_
        refine lv_aload_n hx hb dL_law_1973 rfl (lv_at hl 0 rfl) ?_
        refine lv_iload_n hx hb dL_law_1974 rfl (lv_at hl 3 rfl) ?_
        refine lv_iconst (v := 1) hx hb dL_law_1975 (by decide) ?_
        refine lv_iadd hx hb dL_law_1976 ?_
        refine lv_topi (fun t1 ht1 => ?_)
        have et1 : t1.toInt = x.toInt + 1 := by rw [ht1, addI _ _ (by simp only [Int32.reduceToInt]; omega)]; rfl
        refine va_sld hx hb hX hbl hbA hI.2.2.1 (vp_in_iff.mpr ⟨by omega, by omega⟩) dL_law_1977 ?_
        rw [show t1 = y1 from by rw [ht1, hy1], hv1]
        refine lv_aload_n hx hb dL_law_1978 rfl (lv_at hl 0 rfl) ?_
        refine lv_iload_n hx hb dL_law_1979 rfl (lv_at hl 3 rfl) ?_
        refine lv_iconst (v := 2) hx hb dL_law_1980 (by decide) ?_
        refine lv_iadd hx hb dL_law_1981 ?_
        refine lv_topi (fun t2 ht2 => ?_)
        have et2 : t2.toInt = x.toInt + 2 := by rw [ht2, addI _ _ (by simp only [Int32.reduceToInt]; omega)]; rfl
        refine va_sld hx hb hX hbl hbA hI.2.2.1 (vp_in_iff.mpr ⟨by omega, by omega⟩) dL_law_1982 ?_
        rw [show t2 = y2 from by rw [ht2, hy2], hv2]
        refine lv_aload_n hx hb dL_law_1983 rfl (lv_at hl 0 rfl) ?_
        refine lv_iload_n hx hb dL_law_1984 rfl (lv_at hl 3 rfl) ?_
        refine lv_iconst (v := 3) hx hb dL_law_1985 (by decide) ?_
        refine lv_iadd hx hb dL_law_1986 ?_
        refine lv_topi (fun t3 ht3 => ?_)
        have et3 : t3.toInt = x.toInt + 3 := by rw [ht3, addI _ _ (by simp only [Int32.reduceToInt]; omega)]; rfl
        refine va_sld hx hb hX hbl hbA hI.2.2.1 (vp_in_iff.mpr ⟨by omega, by omega⟩) dL_law_1987 ?_
        rw [show t3 = y3 from by rw [ht3, hy3], hv3]
        refine zlcall (con := zc_1289) (zq_RL_286 X (zM_1289 hw hm) (by decide) rfl rfl) rfl hI (As := [.ref g, .int v1, .int v2, .int v3]) (rest := []) ⟨⟨_, _, rfl, hk6.1, hk6.2⟩, ⟨_, rfl, hc1⟩, ⟨_, rfl, hc2⟩, ⟨_, rfl, hc3, (bT _).2⟩, trivial⟩ (Nat.le_of_ble_eq_true rfl) hl.1 dL_law_1988 (fun H locs w r hI hr hk hp => ?_)
        have hq := zrel_keep hk (by decide +kernel) hq
        have hr : zF2 (zok ks ad) [(0, (-2), (-2))] r := hr
        obtain ⟨_, _, rfl, ⟨z68, rfl, lz68⟩, hr2⟩ := zst1 hr
        obtain rfl := zst0 hr2
        dsimp only at lz68
        dsimp only [List.cons_append, List.nil_append]
        refine lv_pop hx hb dL_law_1991 rfl ?_
        refine lv_goto (tgt := 2131) hx hb dL_law_1992 (by decide) ?_
        exact hT ls _ _ _ hl ⟨hI, hq⟩
    · skip
      rcases (show v3.toInt ≤ -1 ∨ (0 ≤ v3.toInt ∧ v3.toInt ≤ 60) ∨ 61 ≤ v3.toInt from by omega) with hc3 | hc3 | hc3
      · skip
        refine zlcall (con := zc_1239) (zq_RL_283 X (zM_1239 hw hm) (by decide) rfl rfl) rfl hI (As := [.ref h, .int v1, .int v2, .int v3]) (rest := []) ⟨⟨_, _, rfl, hk5.1, hk5.2⟩, ⟨_, rfl, hc1⟩, ⟨_, rfl, hc2, (bT _).2⟩, ⟨_, rfl, (bT _).1, hc3⟩, trivial⟩ (Nat.le_of_ble_eq_true rfl) hl.1 dL_law_1968 (fun H locs w r hI hr hk hp => ?_)
        have hq := zrel_keep hk (by decide +kernel) hq
        have hr : zF2 (zok ks ad) [(0, (-2), (-2))] r := hr
        obtain ⟨_, _, rfl, ⟨z69, rfl, lz69⟩, hr2⟩ := zst1 hr
        obtain rfl := zst0 hr2
        dsimp only at lz69
        dsimp only [List.cons_append, List.nil_append]
        refine lv_pop hx hb dL_law_1971 rfl ?_
        refine lv_aload_n hx hb dL_law_1972 rfl (lv_at hl 2 rfl) ?_
        refine lv_aload_n hx hb dL_law_1973 rfl (lv_at hl 0 rfl) ?_
        refine lv_iload_n hx hb dL_law_1974 rfl (lv_at hl 3 rfl) ?_
        refine lv_iconst (v := 1) hx hb dL_law_1975 (by decide) ?_
        refine lv_iadd hx hb dL_law_1976 ?_
        refine lv_topi (fun t1 ht1 => ?_)
        have et1 : t1.toInt = x.toInt + 1 := by rw [ht1, addI _ _ (by simp only [Int32.reduceToInt]; omega)]; rfl
        refine va_sld hx hb hX hbl hbA hI.2.2.1 (vp_in_iff.mpr ⟨by omega, by omega⟩) dL_law_1977 ?_
        rw [show t1 = y1 from by rw [ht1, hy1], hv1]
        refine lv_aload_n hx hb dL_law_1978 rfl (lv_at hl 0 rfl) ?_
        refine lv_iload_n hx hb dL_law_1979 rfl (lv_at hl 3 rfl) ?_
        refine lv_iconst (v := 2) hx hb dL_law_1980 (by decide) ?_
        refine lv_iadd hx hb dL_law_1981 ?_
        refine lv_topi (fun t2 ht2 => ?_)
        have et2 : t2.toInt = x.toInt + 2 := by rw [ht2, addI _ _ (by simp only [Int32.reduceToInt]; omega)]; rfl
        refine va_sld hx hb hX hbl hbA hI.2.2.1 (vp_in_iff.mpr ⟨by omega, by omega⟩) dL_law_1982 ?_
        rw [show t2 = y2 from by rw [ht2, hy2], hv2]
        refine lv_aload_n hx hb dL_law_1983 rfl (lv_at hl 0 rfl) ?_
        refine lv_iload_n hx hb dL_law_1984 rfl (lv_at hl 3 rfl) ?_
        refine lv_iconst (v := 3) hx hb dL_law_1985 (by decide) ?_
        refine lv_iadd hx hb dL_law_1986 ?_
        refine lv_topi (fun t3 ht3 => ?_)
        have et3 : t3.toInt = x.toInt + 3 := by rw [ht3, addI _ _ (by simp only [Int32.reduceToInt]; omega)]; rfl
        refine va_sld hx hb hX hbl hbA hI.2.2.1 (vp_in_iff.mpr ⟨by omega, by omega⟩) dL_law_1987 ?_
        rw [show t3 = y3 from by rw [ht3, hy3], hv3]
        refine zlcall (con := zc_1290) (zq_RL_286 X (zM_1290 hw hm) (by decide) rfl rfl) rfl hI (As := [.ref g, .int v1, .int v2, .int v3]) (rest := []) ⟨⟨_, _, rfl, hk6.1, hk6.2⟩, ⟨_, rfl, hc1⟩, ⟨_, rfl, hc2, (bT _).2⟩, ⟨_, rfl, (bT _).1, hc3⟩, trivial⟩ (Nat.le_of_ble_eq_true rfl) hl.1 dL_law_1988 (fun H locs w r hI hr hk hp => ?_)
        have hq := zrel_keep hk (by decide +kernel) hq
        have hr : zF2 (zok ks ad) [(0, (-2), (-2))] r := hr
        obtain ⟨_, _, rfl, ⟨z70, rfl, lz70⟩, hr2⟩ := zst1 hr
        obtain rfl := zst0 hr2
        dsimp only at lz70
        dsimp only [List.cons_append, List.nil_append]
        refine lv_pop hx hb dL_law_1991 rfl ?_
        refine lv_goto (tgt := 2131) hx hb dL_law_1992 (by decide) ?_
        exact hT ls _ _ _ hl ⟨hI, hq⟩
      · skip
        refine zlcall (con := zc_1240) (zq_RL_283 X (zM_1240 hw hm) (by decide) rfl rfl) rfl hI (As := [.ref h, .int v1, .int v2, .int v3]) (rest := []) ⟨⟨_, _, rfl, hk5.1, hk5.2⟩, ⟨_, rfl, hc1⟩, ⟨_, rfl, hc2, (bT _).2⟩, ⟨_, rfl, hc3⟩, trivial⟩ (Nat.le_of_ble_eq_true rfl) hl.1 dL_law_1968 (fun H locs w r hI hr hk hp => ?_)
        have hq := zrel_keep hk (by decide +kernel) hq
        have hr : zF2 (zok ks ad) [(0, (-2), (-2))] r := hr
        obtain ⟨_, _, rfl, ⟨z71, rfl, lz71⟩, hr2⟩ := zst1 hr
        obtain rfl := zst0 hr2
        dsimp only at lz71
        dsimp only [List.cons_append, List.nil_append]
        refine lv_pop hx hb dL_law_1971 rfl ?_
        refine lv_aload_n hx hb dL_law_1972 rfl (lv_at hl 2 rfl) ?_
        refine lv_aload_n hx hb dL_law_1973 rfl (lv_at hl 0 rfl) ?_
        refine lv_iload_n hx hb dL_law_1974 rfl (lv_at hl 3 rfl) ?_
        refine lv_iconst (v := 1) hx hb dL_law_1975 (by decide) ?_
        refine lv_iadd hx hb dL_law_1976 ?_
        refine lv_topi (fun t1 ht1 => ?_)
        have et1 : t1.toInt = x.toInt + 1 := by rw [ht1, addI _ _ (by simp only [Int32.reduceToInt]; omega)]; rfl
        refine va_sld hx hb hX hbl hbA hI.2.2.1 (vp_in_iff.mpr ⟨by omega, by omega⟩) dL_law_1977 ?_
        rw [show t1 = y1 from by rw [ht1, hy1], hv1]
        refine lv_aload_n hx hb dL_law_1978 rfl (lv_at hl 0 rfl) ?_
        refine lv_iload_n hx hb dL_law_1979 rfl (lv_at hl 3 rfl) ?_
        refine lv_iconst (v := 2) hx hb dL_law_1980 (by decide) ?_
        refine lv_iadd hx hb dL_law_1981 ?_
        refine lv_topi (fun t2 ht2 => ?_)
        have et2 : t2.toInt = x.toInt + 2 := by rw [ht2, addI _ _ (by simp only [Int32.reduceToInt]; omega)]; rfl
        refine va_sld hx hb hX hbl hbA hI.2.2.1 (vp_in_iff.mpr ⟨by omega, by omega⟩) dL_law_1982 ?_
        rw [show t2 = y2 from by rw [ht2, hy2], hv2]
        refine lv_aload_n hx hb dL_law_1983 rfl (lv_at hl 0 rfl) ?_
        refine lv_iload_n hx hb dL_law_1984 rfl (lv_at hl 3 rfl) ?_
        refine lv_iconst (v := 3) hx hb dL_law_1985 (by decide) ?_
        refine lv_iadd hx hb dL_law_1986 ?_
        refine lv_topi (fun t3 ht3 => ?_)
        have et3 : t3.toInt = x.toInt + 3 := by rw [ht3, addI _ _ (by simp only [Int32.reduceToInt]; omega)]; rfl
        refine va_sld hx hb hX hbl hbA hI.2.2.1 (vp_in_iff.mpr ⟨by omega, by omega⟩) dL_law_1987 ?_
        rw [show t3 = y3 from by rw [ht3, hy3], hv3]
        refine zlcall (con := zc_1291) (zq_RL_286 X (zM_1291 hw hm) (by decide) rfl rfl) rfl hI (As := [.ref g, .int v1, .int v2, .int v3]) (rest := []) ⟨⟨_, _, rfl, hk6.1, hk6.2⟩, ⟨_, rfl, hc1⟩, ⟨_, rfl, hc2, (bT _).2⟩, ⟨_, rfl, hc3⟩, trivial⟩ (Nat.le_of_ble_eq_true rfl) hl.1 dL_law_1988 (fun H locs w r hI hr hk hp => ?_)
        have hq := zrel_keep hk (by decide +kernel) hq
        have hr : zF2 (zok ks ad) [(0, (-2), (-2))] r := hr
        obtain ⟨_, _, rfl, ⟨z72, rfl, lz72⟩, hr2⟩ := zst1 hr
        obtain rfl := zst0 hr2
        dsimp only at lz72
        dsimp only [List.cons_append, List.nil_append]
        refine lv_pop hx hb dL_law_1991 rfl ?_
        refine lv_goto (tgt := 2131) hx hb dL_law_1992 (by decide) ?_
        exact hT ls _ _ _ hl ⟨hI, hq⟩
      · skip
        refine zlcall (con := zc_1241) (zq_RL_283 X (zM_1241 hw hm) (by decide) rfl rfl) rfl hI (As := [.ref h, .int v1, .int v2, .int v3]) (rest := []) ⟨⟨_, _, rfl, hk5.1, hk5.2⟩, ⟨_, rfl, hc1⟩, ⟨_, rfl, hc2, (bT _).2⟩, ⟨_, rfl, hc3, (bT _).2⟩, trivial⟩ (Nat.le_of_ble_eq_true rfl) hl.1 dL_law_1968 (fun H locs w r hI hr hk hp => ?_)
        have hq := zrel_keep hk (by decide +kernel) hq
        have hr : zF2 (zok ks ad) [(0, (-2), (-2))] r := hr
        obtain ⟨_, _, rfl, ⟨z73, rfl, lz73⟩, hr2⟩ := zst1 hr
        obtain rfl := zst0 hr2
        dsimp only at lz73
        dsimp only [List.cons_append, List.nil_append]
        refine lv_pop hx hb dL_law_1971 rfl ?_
        refine lv_aload_n hx hb dL_law_1972 rfl (lv_at hl 2 rfl) ?_
        refine lv_aload_n hx hb dL_law_1973 rfl (lv_at hl 0 rfl) ?_
        refine lv_iload_n hx hb dL_law_1974 rfl (lv_at hl 3 rfl) ?_
        refine lv_iconst (v := 1) hx hb dL_law_1975 (by decide) ?_
        refine lv_iadd hx hb dL_law_1976 ?_
        refine lv_topi (fun t1 ht1 => ?_)
        have et1 : t1.toInt = x.toInt + 1 := by rw [ht1, addI _ _ (by simp only [Int32.reduceToInt]; omega)]; rfl
        refine va_sld hx hb hX hbl hbA hI.2.2.1 (vp_in_iff.mpr ⟨by omega, by omega⟩) dL_law_1977 ?_
        rw [show t1 = y1 from by rw [ht1, hy1], hv1]
        refine lv_aload_n hx hb dL_law_1978 rfl (lv_at hl 0 rfl) ?_
        refine lv_iload_n hx hb dL_law_1979 rfl (lv_at hl 3 rfl) ?_
        refine lv_iconst (v := 2) hx hb dL_law_1980 (by decide) ?_
        refine lv_iadd hx hb dL_law_1981 ?_
        refine lv_topi (fun t2 ht2 => ?_)
        have et2 : t2.toInt = x.toInt + 2 := by rw [ht2, addI _ _ (by simp only [Int32.reduceToInt]; omega)]; rfl
        refine va_sld hx hb hX hbl hbA hI.2.2.1 (vp_in_iff.mpr ⟨by omega, by omega⟩) dL_law_1982 ?_
        rw [show t2 = y2 from by rw [ht2, hy2], hv2]
        refine lv_aload_n hx hb dL_law_1983 rfl (lv_at hl 0 rfl) ?_
        refine lv_iload_n hx hb dL_law_1984 rfl (lv_at hl 3 rfl) ?_
        refine lv_iconst (v := 3) hx hb dL_law_1985 (by decide) ?_
        refine lv_iadd hx hb dL_law_1986 ?_
        refine lv_topi (fun t3 ht3 => ?_)
        have et3 : t3.toInt = x.toInt + 3 := by rw [ht3, addI _ _ (by simp only [Int32.reduceToInt]; omega)]; rfl
        refine va_sld hx hb hX hbl hbA hI.2.2.1 (vp_in_iff.mpr ⟨by omega, by omega⟩) dL_law_1987 ?_
        rw [show t3 = y3 from by rw [ht3, hy3], hv3]
        refine zlcall (con := zc_1292) (zq_RL_286 X (zM_1292 hw hm) (by decide) rfl rfl) rfl hI (As := [.ref g, .int v1, .int v2, .int v3]) (rest := []) ⟨⟨_, _, rfl, hk6.1, hk6.2⟩, ⟨_, rfl, hc1⟩, ⟨_, rfl, hc2, (bT _).2⟩, ⟨_, rfl, hc3, (bT _).2⟩, trivial⟩ (Nat.le_of_ble_eq_true rfl) hl.1 dL_law_1988 (fun H locs w r hI hr hk hp => ?_)
        have hq := zrel_keep hk (by decide +kernel) hq
        have hr : zF2 (zok ks ad) [(0, (-2), (-2))] r := hr
        obtain ⟨_, _, rfl, ⟨z74, rfl, lz74⟩, hr2⟩ := zst1 hr
        obtain rfl := zst0 hr2
        dsimp only at lz74
        dsimp only [List.cons_append, List.nil_append]
        refine lv_pop hx hb dL_law_1991 rfl ?_
        refine lv_goto (tgt := 2131) hx hb dL_law_1992 (by decide) ?_
        exact hT ls _ _ _ hl ⟨hI, hq⟩
  · skip
    refine zlcall (con := zc_1242) (zq_RL_283 X (zM_1242 hw hm) (by decide) rfl rfl) rfl hI (As := [.ref h, .int v1, .int v2, .int v3]) (rest := []) ⟨⟨_, _, rfl, hk5.1, hk5.2⟩, ⟨_, rfl, hc1, (bT _).2⟩, ⟨_, rfl, bT _⟩, ⟨_, rfl, bT _⟩, trivial⟩ (Nat.le_of_ble_eq_true rfl) hl.1 dL_law_1968 (fun H locs w r hI hr hk hp => ?_)
    have hq := zrel_keep hk (by decide +kernel) hq
    have hr : zF2 (zok ks ad) [(0, (-2), (-2))] r := hr
    obtain ⟨_, _, rfl, ⟨z75, rfl, lz75⟩, hr2⟩ := zst1 hr
    obtain rfl := zst0 hr2
    dsimp only at lz75
    dsimp only [List.cons_append, List.nil_append]
    refine lv_pop hx hb dL_law_1971 rfl ?_
    refine lv_aload_n hx hb dL_law_1972 rfl (lv_at hl 2 rfl) ?_
    refine lv_aload_n hx hb dL_law_1973 rfl (lv_at hl 0 rfl) ?_
    refine lv_iload_n hx hb dL_law_1974 rfl (lv_at hl 3 rfl) ?_
    refine lv_iconst (v := 1) hx hb dL_law_1975 (by decide) ?_
    refine lv_iadd hx hb dL_law_1976 ?_
    refine lv_topi (fun t1 ht1 => ?_)
    have et1 : t1.toInt = x.toInt + 1 := by rw [ht1, addI _ _ (by simp only [Int32.reduceToInt]; omega)]; rfl
    refine va_sld hx hb hX hbl hbA hI.2.2.1 (vp_in_iff.mpr ⟨by omega, by omega⟩) dL_law_1977 ?_
    rw [show t1 = y1 from by rw [ht1, hy1], hv1]
    refine lv_aload_n hx hb dL_law_1978 rfl (lv_at hl 0 rfl) ?_
    refine lv_iload_n hx hb dL_law_1979 rfl (lv_at hl 3 rfl) ?_
    refine lv_iconst (v := 2) hx hb dL_law_1980 (by decide) ?_
    refine lv_iadd hx hb dL_law_1981 ?_
    refine lv_topi (fun t2 ht2 => ?_)
    have et2 : t2.toInt = x.toInt + 2 := by rw [ht2, addI _ _ (by simp only [Int32.reduceToInt]; omega)]; rfl
    refine va_sld hx hb hX hbl hbA hI.2.2.1 (vp_in_iff.mpr ⟨by omega, by omega⟩) dL_law_1982 ?_
    rw [show t2 = y2 from by rw [ht2, hy2], hv2]
    refine lv_aload_n hx hb dL_law_1983 rfl (lv_at hl 0 rfl) ?_
    refine lv_iload_n hx hb dL_law_1984 rfl (lv_at hl 3 rfl) ?_
    refine lv_iconst (v := 3) hx hb dL_law_1985 (by decide) ?_
    refine lv_iadd hx hb dL_law_1986 ?_
    refine lv_topi (fun t3 ht3 => ?_)
    have et3 : t3.toInt = x.toInt + 3 := by rw [ht3, addI _ _ (by simp only [Int32.reduceToInt]; omega)]; rfl
    refine va_sld hx hb hX hbl hbA hI.2.2.1 (vp_in_iff.mpr ⟨by omega, by omega⟩) dL_law_1987 ?_
    rw [show t3 = y3 from by rw [ht3, hy3], hv3]
    refine zlcall (con := zc_1293) (zq_RL_286 X (zM_1293 hw hm) (by decide) rfl rfl) rfl hI (As := [.ref g, .int v1, .int v2, .int v3]) (rest := []) ⟨⟨_, _, rfl, hk6.1, hk6.2⟩, ⟨_, rfl, hc1, (bT _).2⟩, ⟨_, rfl, bT _⟩, ⟨_, rfl, bT _⟩, trivial⟩ (Nat.le_of_ble_eq_true rfl) hl.1 dL_law_1988 (fun H locs w r hI hr hk hp => ?_)
    have hq := zrel_keep hk (by decide +kernel) hq
    have hr : zF2 (zok ks ad) [(0, (-2), (-2))] r := hr
    obtain ⟨_, _, rfl, ⟨z76, rfl, lz76⟩, hr2⟩ := zst1 hr
    obtain rfl := zst0 hr2
    dsimp only at lz76
    dsimp only [List.cons_append, List.nil_append]
    refine lv_pop hx hb dL_law_1991 rfl ?_
    refine lv_goto (tgt := 2131) hx hb dL_law_1992 (by decide) ?_
    exact hT ls _ _ _ hl ⟨hI, hq⟩
theorem law_67 {p : Program} {l : Launch} {e : Env} {s : State} {m : MethodId} {below : List Frame} {meth : Method} {c : Code} {Q : State → Prop} {D : va_G} {cI cZ cB cJ cR : ClassId} {ks ad : List Nat} {b L h g : Nat} {xs : Nat → Int32} (hZ : zLaw p l s m c D cI cZ cB cJ cR ks ad b L h g xs) (hm : zMan l D cI cZ cB cJ cR ks ad (zPsi ks ad)) {x : Int32} (hx0 : 0 ≤ x.toInt) (hx1 : x.toInt + 6 ≤ (L : Int)) (hT : ∀ (ls : Array Slot) (w : va_W) (H : Heap) (locs : List Loc), lv_has ls 4 [(0, .ref b), (1, .ref h), (2, .ref g), (3, .int x)] → zINV D cI cZ cB cJ cR ks ad s w H locs → W p l e room_1 s m #[Value.ref b] below meth c H locs 98 7042 Q (F0 m 2131 ls [])) {ls : Array Slot} {w : va_W} {H : Heap} {locs : List Loc} (hl : lv_has ls 4 [(0, .ref b), (1, .ref h), (2, .ref g), (3, .int x)]) (hI : zINV D cI cZ cB cJ cR ks ad s w H locs) : W p l e room_1 s m #[Value.ref b] below meth c H locs 98 7042 Q (F0 m 1995 ls []) := by
  obtain ⟨X, hX, hbl, hL, hw, ⟨i5, hk5⟩, ⟨i6, hk6⟩⟩ := hZ
  have hx := X.1.1
  have hb := X.1.2.1
  have hbA : ¬ lwA s b := Nat.not_le.mpr hbl
  obtain ⟨hI, hq⟩ := hI
  refine lv_aload_n hx hb dL_law_1995 rfl (lv_at hl 1 rfl) ?_
  refine lv_aload_n hx hb dL_law_1996 rfl (lv_at hl 0 rfl) ?_
  refine lv_iload_n hx hb dL_law_1997 rfl (lv_at hl 3 rfl) ?_
  refine lv_iconst (v := 1) hx hb dL_law_1998 (by decide) ?_
  refine lv_iadd hx hb dL_law_1999 ?_
  refine lv_topi (fun y1 hy1 => ?_)
  have ey1 : y1.toInt = x.toInt + 1 := by rw [hy1, addI _ _ (by simp only [Int32.reduceToInt]; omega)]; rfl
  refine va_sld hx hb hX hbl hbA hI.2.2.1 (vp_in_iff.mpr ⟨by omega, by omega⟩) dL_law_2000 ?_
  refine lv_topi (fun a2 ha2 => ?_)
  refine lv_aload_n hx hb dL_law_2001 rfl (lv_at hl 0 rfl) ?_
  refine lv_iload_n hx hb dL_law_2002 rfl (lv_at hl 3 rfl) ?_
  refine lv_iconst (v := 2) hx hb dL_law_2003 (by decide) ?_
  refine lv_iadd hx hb dL_law_2004 ?_
  refine lv_topi (fun y3 hy3 => ?_)
  have ey3 : y3.toInt = x.toInt + 2 := by rw [hy3, addI _ _ (by simp only [Int32.reduceToInt]; omega)]; rfl
  refine va_sld hx hb hX hbl hbA hI.2.2.1 (vp_in_iff.mpr ⟨by omega, by omega⟩) dL_law_2005 ?_
  refine lv_topi (fun a4 ha4 => ?_)
  refine lv_aload_n hx hb dL_law_2006 rfl (lv_at hl 0 rfl) ?_
  refine lv_iload_n hx hb dL_law_2007 rfl (lv_at hl 3 rfl) ?_
  refine lv_iconst (v := 3) hx hb dL_law_2008 (by decide) ?_
  refine lv_iadd hx hb dL_law_2009 ?_
  refine lv_topi (fun y5 hy5 => ?_)
  have ey5 : y5.toInt = x.toInt + 3 := by rw [hy5, addI _ _ (by simp only [Int32.reduceToInt]; omega)]; rfl
  refine va_sld hx hb hX hbl hbA hI.2.2.1 (vp_in_iff.mpr ⟨by omega, by omega⟩) dL_law_2010 ?_
  refine lv_topi (fun a6 ha6 => ?_)
  refine lv_i2l hx hb dL_law_2011 rfl ?_
  refine lv_bipush (v := 32) hx hb dL_law_2012 (by decide) ?_
  refine lv_lshl hx hb dL_law_2014 rfl ?_
  refine lv_topl (fun q7 _ => ?_)
  refine lv_aload_n hx hb dL_law_2015 rfl (lv_at hl 0 rfl) ?_
  refine lv_iload_n hx hb dL_law_2016 rfl (lv_at hl 3 rfl) ?_
  refine lv_iconst (v := 4) hx hb dL_law_2017 (by decide) ?_
  refine lv_iadd hx hb dL_law_2018 ?_
  refine lv_topi (fun y8 hy8 => ?_)
  have ey8 : y8.toInt = x.toInt + 4 := by rw [hy8, addI _ _ (by simp only [Int32.reduceToInt]; omega)]; rfl
  refine va_sld hx hb hX hbl hbA hI.2.2.1 (vp_in_iff.mpr ⟨by omega, by omega⟩) dL_law_2019 ?_
  refine lv_topi (fun a9 ha9 => ?_)
  refine lv_i2l hx hb dL_law_2020 rfl ?_
  refine lv_ldc2 (v := 4294967295) hx hb X.1.2.2.2.1 (X.1.2.2.2.2 _ lm_1_6) dL_law_2021 ?_
  refine lv_land hx hb dL_law_2024 ?_
  refine lv_topl (fun q10 _ => ?_)
  refine lv_lor hx hb dL_law_2025 ?_
  refine lv_topl (fun q11 _ => ?_)
  refine zlcall (con := zc_829) (zq_RL_289 X (zM_829 hw hm) (by decide) rfl rfl) rfl hI (As := [.ref h, .int a2, .int a4, .long q11]) (rest := []) ⟨⟨_, _, rfl, hk5.1, hk5.2⟩, ⟨_, rfl, bT _⟩, ⟨_, rfl, bT _⟩, ⟨_, rfl, bL _⟩, trivial⟩ (Nat.le_of_ble_eq_true rfl) hl.1 dL_law_2026 (fun H locs w r hI hr hk hp => ?_)
  have hq := zrel_keep hk (by decide +kernel) hq
  have hr : zF2 (zok ks ad) [(0, (-7), (0))] r := hr
  obtain ⟨_, _, rfl, ⟨z12, rfl, lz12⟩, hr2⟩ := zst1 hr
  obtain rfl := zst0 hr2
  dsimp only at lz12
  dsimp only [List.cons_append, List.nil_append]
  refine lv_pop hx hb dL_law_2029 rfl ?_
  refine lv_aload_n hx hb dL_law_2030 rfl (lv_at hl 2 rfl) ?_
  refine lv_aload_n hx hb dL_law_2031 rfl (lv_at hl 0 rfl) ?_
  refine lv_iload_n hx hb dL_law_2032 rfl (lv_at hl 3 rfl) ?_
  refine lv_iconst (v := 1) hx hb dL_law_2033 (by decide) ?_
  refine lv_iadd hx hb dL_law_2034 ?_
  refine lv_topi (fun y13 hy13 => ?_)
  have ey13 : y13.toInt = x.toInt + 1 := by rw [hy13, addI _ _ (by simp only [Int32.reduceToInt]; omega)]; rfl
  refine va_sld hx hb hX hbl hbA hI.2.2.1 (vp_in_iff.mpr ⟨by omega, by omega⟩) dL_law_2035 ?_
  refine lv_topi (fun a14 ha14 => ?_)
  refine lv_aload_n hx hb dL_law_2036 rfl (lv_at hl 0 rfl) ?_
  refine lv_iload_n hx hb dL_law_2037 rfl (lv_at hl 3 rfl) ?_
  refine lv_iconst (v := 2) hx hb dL_law_2038 (by decide) ?_
  refine lv_iadd hx hb dL_law_2039 ?_
  refine lv_topi (fun y15 hy15 => ?_)
  have ey15 : y15.toInt = x.toInt + 2 := by rw [hy15, addI _ _ (by simp only [Int32.reduceToInt]; omega)]; rfl
  refine va_sld hx hb hX hbl hbA hI.2.2.1 (vp_in_iff.mpr ⟨by omega, by omega⟩) dL_law_2040 ?_
  refine lv_topi (fun a16 ha16 => ?_)
  refine lv_aload_n hx hb dL_law_2041 rfl (lv_at hl 0 rfl) ?_
  refine lv_iload_n hx hb dL_law_2042 rfl (lv_at hl 3 rfl) ?_
  refine lv_iconst (v := 3) hx hb dL_law_2043 (by decide) ?_
  refine lv_iadd hx hb dL_law_2044 ?_
  refine lv_topi (fun y17 hy17 => ?_)
  have ey17 : y17.toInt = x.toInt + 3 := by rw [hy17, addI _ _ (by simp only [Int32.reduceToInt]; omega)]; rfl
  refine va_sld hx hb hX hbl hbA hI.2.2.1 (vp_in_iff.mpr ⟨by omega, by omega⟩) dL_law_2045 ?_
  refine lv_topi (fun a18 ha18 => ?_)
  refine lv_i2l hx hb dL_law_2046 rfl ?_
  refine lv_bipush (v := 32) hx hb dL_law_2047 (by decide) ?_
  refine lv_lshl hx hb dL_law_2049 rfl ?_
  refine lv_topl (fun q19 _ => ?_)
  refine lv_aload_n hx hb dL_law_2050 rfl (lv_at hl 0 rfl) ?_
  refine lv_iload_n hx hb dL_law_2051 rfl (lv_at hl 3 rfl) ?_
  refine lv_iconst (v := 4) hx hb dL_law_2052 (by decide) ?_
  refine lv_iadd hx hb dL_law_2053 ?_
  refine lv_topi (fun y20 hy20 => ?_)
  have ey20 : y20.toInt = x.toInt + 4 := by rw [hy20, addI _ _ (by simp only [Int32.reduceToInt]; omega)]; rfl
  refine va_sld hx hb hX hbl hbA hI.2.2.1 (vp_in_iff.mpr ⟨by omega, by omega⟩) dL_law_2054 ?_
  refine lv_topi (fun a21 ha21 => ?_)
  refine lv_i2l hx hb dL_law_2055 rfl ?_
  refine lv_ldc2 (v := 4294967295) hx hb X.1.2.2.2.1 (X.1.2.2.2.2 _ lm_1_6) dL_law_2056 ?_
  refine lv_land hx hb dL_law_2059 ?_
  refine lv_topl (fun q22 _ => ?_)
  refine lv_lor hx hb dL_law_2060 ?_
  refine lv_topl (fun q23 _ => ?_)
  refine zlcall (con := zc_1194) (zq_RL_293 X (zM_1194 hw hm) (by decide) rfl rfl) rfl hI (As := [.ref g, .int a14, .int a16, .long q23]) (rest := []) ⟨⟨_, _, rfl, hk6.1, hk6.2⟩, ⟨_, rfl, bT _⟩, ⟨_, rfl, bT _⟩, ⟨_, rfl, bL _⟩, trivial⟩ (Nat.le_of_ble_eq_true rfl) hl.1 dL_law_2061 (fun H locs w r hI hr hk hp => ?_)
  have hq := zrel_keep hk (by decide +kernel) hq
  have hr : zF2 (zok ks ad) [(0, (-7), (0))] r := hr
  obtain ⟨_, _, rfl, ⟨z24, rfl, lz24⟩, hr2⟩ := zst1 hr
  obtain rfl := zst0 hr2
  dsimp only at lz24
  dsimp only [List.cons_append, List.nil_append]
  refine lv_pop hx hb dL_law_2064 rfl ?_
  refine lv_goto (tgt := 2131) hx hb dL_law_2065 (by decide) ?_
  exact hT ls _ _ _ hl ⟨hI, hq⟩
theorem law_68 {p : Program} {l : Launch} {e : Env} {s : State} {m : MethodId} {below : List Frame} {meth : Method} {c : Code} {Q : State → Prop} {D : va_G} {cI cZ cB cJ cR : ClassId} {ks ad : List Nat} {b L h g : Nat} {xs : Nat → Int32} (hZ : zLaw p l s m c D cI cZ cB cJ cR ks ad b L h g xs) (hm : zMan l D cI cZ cB cJ cR ks ad (zPsi ks ad)) {x : Int32} (hx0 : 0 ≤ x.toInt) (hx1 : x.toInt + 6 ≤ (L : Int)) (hT : ∀ (ls : Array Slot) (w : va_W) (H : Heap) (locs : List Loc), lv_has ls 4 [(0, .ref b), (1, .ref h), (2, .ref g), (3, .int x)] → zINV D cI cZ cB cJ cR ks ad s w H locs → W p l e room_1 s m #[Value.ref b] below meth c H locs 98 7042 Q (F0 m 2131 ls [])) {ls : Array Slot} {w : va_W} {H : Heap} {locs : List Loc} (hl : lv_has ls 4 [(0, .ref b), (1, .ref h), (2, .ref g), (3, .int x)]) (hI : zINV D cI cZ cB cJ cR ks ad s w H locs) : W p l e room_1 s m #[Value.ref b] below meth c H locs 98 7042 Q (F0 m 2068 ls []) := by
  obtain ⟨X, hX, hbl, hL, hw, ⟨i5, hk5⟩, ⟨i6, hk6⟩⟩ := hZ
  have hx := X.1.1
  have hb := X.1.2.1
  have hbA : ¬ lwA s b := Nat.not_le.mpr hbl
  obtain ⟨hI, hq⟩ := hI
  refine lv_aload_n hx hb dL_law_2068 rfl (lv_at hl 1 rfl) ?_
  refine lv_aload_n hx hb dL_law_2069 rfl (lv_at hl 0 rfl) ?_
  refine lv_iload_n hx hb dL_law_2070 rfl (lv_at hl 3 rfl) ?_
  refine lv_iconst (v := 1) hx hb dL_law_2071 (by decide) ?_
  refine lv_iadd hx hb dL_law_2072 ?_
  refine lv_topi (fun y1 hy1 => ?_)
  have ey1 : y1.toInt = x.toInt + 1 := by rw [hy1, addI _ _ (by simp only [Int32.reduceToInt]; omega)]; rfl
  refine va_sld hx hb hX hbl hbA hI.2.2.1 (vp_in_iff.mpr ⟨by omega, by omega⟩) dL_law_2073 ?_
  generalize hv1 : xs y1.toNatClampNeg = v1
  refine lv_aload_n hx hb dL_law_2074 rfl (lv_at hl 0 rfl) ?_
  refine lv_iload_n hx hb dL_law_2075 rfl (lv_at hl 3 rfl) ?_
  refine lv_iconst (v := 2) hx hb dL_law_2076 (by decide) ?_
  refine lv_iadd hx hb dL_law_2077 ?_
  refine lv_topi (fun y2 hy2 => ?_)
  have ey2 : y2.toInt = x.toInt + 2 := by rw [hy2, addI _ _ (by simp only [Int32.reduceToInt]; omega)]; rfl
  refine va_sld hx hb hX hbl hbA hI.2.2.1 (vp_in_iff.mpr ⟨by omega, by omega⟩) dL_law_2078 ?_
  generalize hv2 : xs y2.toNatClampNeg = v2
  refine lv_aload_n hx hb dL_law_2079 rfl (lv_at hl 0 rfl) ?_
  refine lv_iload_n hx hb dL_law_2080 rfl (lv_at hl 3 rfl) ?_
  refine lv_iconst (v := 3) hx hb dL_law_2081 (by decide) ?_
  refine lv_iadd hx hb dL_law_2082 ?_
  refine lv_topi (fun y3 hy3 => ?_)
  have ey3 : y3.toInt = x.toInt + 3 := by rw [hy3, addI _ _ (by simp only [Int32.reduceToInt]; omega)]; rfl
  refine va_sld hx hb hX hbl hbA hI.2.2.1 (vp_in_iff.mpr ⟨by omega, by omega⟩) dL_law_2083 ?_
  generalize hv3 : xs y3.toNatClampNeg = v3
  refine lv_aload_n hx hb dL_law_2084 rfl (lv_at hl 0 rfl) ?_
  refine lv_iload_n hx hb dL_law_2085 rfl (lv_at hl 3 rfl) ?_
  refine lv_iconst (v := 4) hx hb dL_law_2086 (by decide) ?_
  refine lv_iadd hx hb dL_law_2087 ?_
  refine lv_topi (fun y4 hy4 => ?_)
  have ey4 : y4.toInt = x.toInt + 4 := by rw [hy4, addI _ _ (by simp only [Int32.reduceToInt]; omega)]; rfl
  refine va_sld hx hb hX hbl hbA hI.2.2.1 (vp_in_iff.mpr ⟨by omega, by omega⟩) dL_law_2088 ?_
  generalize hv4 : xs y4.toNatClampNeg = v4
  refine lv_aload_n hx hb dL_law_2089 rfl (lv_at hl 0 rfl) ?_
  refine lv_iload_n hx hb dL_law_2090 rfl (lv_at hl 3 rfl) ?_
  refine lv_iconst (v := 5) hx hb dL_law_2091 (by decide) ?_
  refine lv_iadd hx hb dL_law_2092 ?_
  refine lv_topi (fun y5 hy5 => ?_)
  have ey5 : y5.toInt = x.toInt + 5 := by rw [hy5, addI _ _ (by simp only [Int32.reduceToInt]; omega)]; rfl
  refine va_sld hx hb hX hbl hbA hI.2.2.1 (vp_in_iff.mpr ⟨by omega, by omega⟩) dL_law_2093 ?_
  generalize hv5 : xs y5.toNatClampNeg = v5
  refine zlcallp (zq_RL_294 X (zh_paste5x hw v1 v2 v3 v4 v5 (zfv ks w 29 (1000 + v1.toNatClampNeg)) (zfv ks w 29 (1000 + v3.toNatClampNeg)) (zfv ks w 30 (1000 + v1.toNatClampNeg)) (zfv ks w 30 (1000 + v3.toNatClampNeg)) (zfv ks w 31 (1000 + v1.toNatClampNeg)) (zfv ks w 31 (1000 + v3.toNatClampNeg))) (by decide) rfl rfl) (As := [.ref h, .int v1, .int v2, .int v3, .int v4, .int v5]) (rest := []) (show zfs [0, 0, v1.toInt, v2.toInt, v3.toInt, v4.toInt, v5.toInt, (zfv ks w 29 (1000 + v1.toNatClampNeg)), (zfv ks w 29 (1000 + v3.toNatClampNeg)), (zfv ks w 30 (1000 + v1.toNatClampNeg)), (zfv ks w 30 (1000 + v3.toNatClampNeg)), (zfv ks w 31 (1000 + v1.toNatClampNeg)), (zfv ks w 31 (1000 + v3.toNatClampNeg))] (zpe 7 (zfv ks w 29 (1000 + v1.toNatClampNeg)) ++ zpe 8 (zfv ks w 29 (1000 + v3.toNatClampNeg)) ++ zpe 9 (zfv ks w 30 (1000 + v1.toNatClampNeg)) ++ zpe 10 (zfv ks w 30 (1000 + v3.toNatClampNeg)) ++ zpe 11 (zfv ks w 31 (1000 + v1.toNatClampNeg)) ++ zpe 12 (zfv ks w 31 (1000 + v3.toNatClampNeg))) from (zfs_mk2 (zfs_mk2 (zfs_mk2 (zfs_mk2 (zfs_mk2 (zpe_mk (v := (zfv ks w 29 (1000 + v1.toNatClampNeg))) rfl rfl rfl) (zpe_mk (v := (zfv ks w 29 (1000 + v3.toNatClampNeg))) rfl rfl rfl)) (zpe_mk (v := (zfv ks w 30 (1000 + v1.toNatClampNeg))) rfl rfl rfl)) (zpe_mk (v := (zfv ks w 30 (1000 + v3.toNatClampNeg))) rfl rfl rfl)) (zpe_mk (v := (zfv ks w 31 (1000 + v1.toNatClampNeg))) rfl rfl rfl)) (zpe_mk (v := (zfv ks w 31 (1000 + v3.toNatClampNeg))) rfl rfl rfl))) hI ⟨⟨_, _, rfl, hk5.1, hk5.2⟩, ⟨_, rfl, Int.le_refl _, Int.le_refl _⟩, ⟨_, rfl, Int.le_refl _, Int.le_refl _⟩, ⟨_, rfl, Int.le_refl _, Int.le_refl _⟩, ⟨_, rfl, Int.le_refl _, Int.le_refl _⟩, ⟨_, rfl, Int.le_refl _, Int.le_refl _⟩, trivial⟩ (Nat.le_of_ble_eq_true rfl) hl.1 dL_law_2094 (fun H locs wA r hI hr hkA => ?_)
  have hkA : zkeep ks (zrun 32 1000 1 240) w wA := hkA
  have hr : zF2 (zok ks ad) [(0, zPA v1.toInt v2.toInt v3.toInt v4.toInt v5.toInt (zfv ks w 29 (1000 + v1.toNatClampNeg)) (zfv ks w 29 (1000 + v3.toNatClampNeg)) (zfv ks w 30 (1000 + v1.toNatClampNeg)) (zfv ks w 30 (1000 + v3.toNatClampNeg)) (zfv ks w 31 (1000 + v1.toNatClampNeg)) (zfv ks w 31 (1000 + v3.toNatClampNeg)), zPA v1.toInt v2.toInt v3.toInt v4.toInt v5.toInt (zfv ks w 29 (1000 + v1.toNatClampNeg)) (zfv ks w 29 (1000 + v3.toNatClampNeg)) (zfv ks w 30 (1000 + v1.toNatClampNeg)) (zfv ks w 30 (1000 + v3.toNatClampNeg)) (zfv ks w 31 (1000 + v1.toNatClampNeg)) (zfv ks w 31 (1000 + v3.toNatClampNeg)))] r := hr
  obtain ⟨_, _, rfl, ⟨zA, rfl, lzA⟩, hr2⟩ := zst1 hr
  obtain rfl := zst0 hr2
  dsimp only at lzA
  dsimp only [List.cons_append, List.nil_append]
  refine lv_aload_n hx hb dL_law_2097 rfl (lv_at hl 2 rfl) ?_
  refine lv_aload_n hx hb dL_law_2098 rfl (lv_at hl 0 rfl) ?_
  refine lv_iload_n hx hb dL_law_2099 rfl (lv_at hl 3 rfl) ?_
  refine lv_iconst (v := 1) hx hb dL_law_2100 (by decide) ?_
  refine lv_iadd hx hb dL_law_2101 ?_
  refine lv_topi (fun t1 ht1 => ?_)
  have et1 : t1.toInt = x.toInt + 1 := by rw [ht1, addI _ _ (by simp only [Int32.reduceToInt]; omega)]; rfl
  refine va_sld hx hb hX hbl hbA hI.2.2.1 (vp_in_iff.mpr ⟨by omega, by omega⟩) dL_law_2102 ?_
  rw [show t1 = y1 from by rw [ht1, hy1], hv1]
  refine lv_aload_n hx hb dL_law_2103 rfl (lv_at hl 0 rfl) ?_
  refine lv_iload_n hx hb dL_law_2104 rfl (lv_at hl 3 rfl) ?_
  refine lv_iconst (v := 2) hx hb dL_law_2105 (by decide) ?_
  refine lv_iadd hx hb dL_law_2106 ?_
  refine lv_topi (fun t2 ht2 => ?_)
  have et2 : t2.toInt = x.toInt + 2 := by rw [ht2, addI _ _ (by simp only [Int32.reduceToInt]; omega)]; rfl
  refine va_sld hx hb hX hbl hbA hI.2.2.1 (vp_in_iff.mpr ⟨by omega, by omega⟩) dL_law_2107 ?_
  rw [show t2 = y2 from by rw [ht2, hy2], hv2]
  refine lv_aload_n hx hb dL_law_2108 rfl (lv_at hl 0 rfl) ?_
  refine lv_iload_n hx hb dL_law_2109 rfl (lv_at hl 3 rfl) ?_
  refine lv_iconst (v := 3) hx hb dL_law_2110 (by decide) ?_
  refine lv_iadd hx hb dL_law_2111 ?_
  refine lv_topi (fun t3 ht3 => ?_)
  have et3 : t3.toInt = x.toInt + 3 := by rw [ht3, addI _ _ (by simp only [Int32.reduceToInt]; omega)]; rfl
  refine va_sld hx hb hX hbl hbA hI.2.2.1 (vp_in_iff.mpr ⟨by omega, by omega⟩) dL_law_2112 ?_
  rw [show t3 = y3 from by rw [ht3, hy3], hv3]
  refine lv_aload_n hx hb dL_law_2113 rfl (lv_at hl 0 rfl) ?_
  refine lv_iload_n hx hb dL_law_2114 rfl (lv_at hl 3 rfl) ?_
  refine lv_iconst (v := 4) hx hb dL_law_2115 (by decide) ?_
  refine lv_iadd hx hb dL_law_2116 ?_
  refine lv_topi (fun t4 ht4 => ?_)
  have et4 : t4.toInt = x.toInt + 4 := by rw [ht4, addI _ _ (by simp only [Int32.reduceToInt]; omega)]; rfl
  refine va_sld hx hb hX hbl hbA hI.2.2.1 (vp_in_iff.mpr ⟨by omega, by omega⟩) dL_law_2117 ?_
  rw [show t4 = y4 from by rw [ht4, hy4], hv4]
  refine lv_aload_n hx hb dL_law_2118 rfl (lv_at hl 0 rfl) ?_
  refine lv_iload_n hx hb dL_law_2119 rfl (lv_at hl 3 rfl) ?_
  refine lv_iconst (v := 5) hx hb dL_law_2120 (by decide) ?_
  refine lv_iadd hx hb dL_law_2121 ?_
  refine lv_topi (fun t5 ht5 => ?_)
  have et5 : t5.toInt = x.toInt + 5 := by rw [ht5, addI _ _ (by simp only [Int32.reduceToInt]; omega)]; rfl
  refine va_sld hx hb hX hbl hbA hI.2.2.1 (vp_in_iff.mpr ⟨by omega, by omega⟩) dL_law_2122 ?_
  rw [show t5 = y5 from by rw [ht5, hy5], hv5]
  refine zlcallp (zq_RL_297 X (zh_paste6x hw v1 v2 v3 v4 v5 (zfv ks wA 36 (1000 + v1.toNatClampNeg)) (zfv ks wA 36 (1000 + v3.toNatClampNeg)) (zfv ks wA 37 (1000 + v1.toNatClampNeg)) (zfv ks wA 37 (1000 + v3.toNatClampNeg))) (by decide) rfl rfl) (As := [.ref g, .int v1, .int v2, .int v3, .int v4, .int v5]) (rest := [.int zA]) (show zfs [0, 0, v1.toInt, v2.toInt, v3.toInt, v4.toInt, v5.toInt, (zfv ks wA 36 (1000 + v1.toNatClampNeg)), (zfv ks wA 36 (1000 + v3.toNatClampNeg)), (zfv ks wA 37 (1000 + v1.toNatClampNeg)), (zfv ks wA 37 (1000 + v3.toNatClampNeg))] (zpe 7 (zfv ks wA 36 (1000 + v1.toNatClampNeg)) ++ zpe 8 (zfv ks wA 36 (1000 + v3.toNatClampNeg)) ++ zpe 9 (zfv ks wA 37 (1000 + v1.toNatClampNeg)) ++ zpe 10 (zfv ks wA 37 (1000 + v3.toNatClampNeg))) from (zfs_mk2 (zfs_mk2 (zfs_mk2 (zpe_mk (v := (zfv ks wA 36 (1000 + v1.toNatClampNeg))) rfl rfl rfl) (zpe_mk (v := (zfv ks wA 36 (1000 + v3.toNatClampNeg))) rfl rfl rfl)) (zpe_mk (v := (zfv ks wA 37 (1000 + v1.toNatClampNeg))) rfl rfl rfl)) (zpe_mk (v := (zfv ks wA 37 (1000 + v3.toNatClampNeg))) rfl rfl rfl))) hI ⟨⟨_, _, rfl, hk6.1, hk6.2⟩, ⟨_, rfl, Int.le_refl _, Int.le_refl _⟩, ⟨_, rfl, Int.le_refl _, Int.le_refl _⟩, ⟨_, rfl, Int.le_refl _, Int.le_refl _⟩, ⟨_, rfl, Int.le_refl _, Int.le_refl _⟩, ⟨_, rfl, Int.le_refl _, Int.le_refl _⟩, trivial⟩ (Nat.le_of_ble_eq_true rfl) hl.1 dL_law_2123 (fun H locs wB r hI hr hkB => ?_)
  have hkB : zkeep ks ([(6, 0)] ++ zrun 38 1000 1 240) wA wB := hkB
  have hr : zF2 (zok ks ad) [(0, zPA v1.toInt v2.toInt v3.toInt v4.toInt v5.toInt ((zfv ks wA 36 (1000 + v1.toNatClampNeg)) + 1) ((zfv ks wA 36 (1000 + v3.toNatClampNeg)) + 1) (zfv ks wA 36 (1000 + v1.toNatClampNeg)) (zfv ks wA 36 (1000 + v3.toNatClampNeg)) (zfv ks wA 37 (1000 + v1.toNatClampNeg)) (zfv ks wA 37 (1000 + v3.toNatClampNeg)), zPA v1.toInt v2.toInt v3.toInt v4.toInt v5.toInt ((zfv ks wA 36 (1000 + v1.toNatClampNeg)) + 1) ((zfv ks wA 36 (1000 + v3.toNatClampNeg)) + 1) (zfv ks wA 36 (1000 + v1.toNatClampNeg)) (zfv ks wA 36 (1000 + v3.toNatClampNeg)) (zfv ks wA 37 (1000 + v1.toNatClampNeg)) (zfv ks wA 37 (1000 + v3.toNatClampNeg)))] r := hr
  obtain ⟨_, _, rfl, ⟨zB, rfl, lzB⟩, hr2⟩ := zst1 hr
  obtain rfl := zst0 hr2
  dsimp only at lzB
  dsimp only [List.cons_append, List.nil_append]
  have hzz := zPA_eq v1 v3 v2.toInt v4.toInt v5.toInt hq (fun f => hkA 36 f (zrun_ne (by decide))) (fun f => hkA 37 f (zrun_ne (by decide)))
  have hq := zrel_keep hkB (by decide +kernel) (zrel_keep hkA (by decide +kernel) hq)
  refine lv_icmp_eq (tgt := 2131) hx hb dL_law_2126 (by decide) (fun _ => hT ls _ _ _ hl ⟨hI, hq⟩) (fun hne => absurd (Int32.toInt_inj.mp (show zA.toInt = zB.toInt by omega)) hne)
