set_option maxHeartbeats 4000000 in
set_option maxRecDepth 100000 in
theorem k_isPerson (l : Launch) (D : va_G) (cI cZ cB cJ cR : ClassId) (a : Nat) (n : Nat → Nat) (p0 : Int64) : Met l yX0_isPerson wsX0_isPerson ({ frames := 0, cells := 0, slots := 0, locals := 0 }) (va_Pc [.ref a, .long p0] (pS D cI cZ cB cJ cR [(a, .inr (0, [.ref (n 0), .int 0, .int 0, .int 0, .ref (n 4), .ref (n 5), .ref (n 6), .ref (n 7), .ref (n 8), .int 0, .ref (n 10), .ref (n 11), .ref (n 12), .ref (n 13)]))])) (vp_Si (fun r => r = 0)) 0 0 (fun _ => False) := by
  refine Met.ofW (cc := cX0_isPerson) (maxL := 3) (ret := (some .boolean)) (by decide) rfl ?_
  intro p e s m args below meth c s₁ B hml hv
  obtain ⟨rfl, hP, hk⟩ := hv
  have hK := hk.1
  have hz := hk.2.1
  have hx := B.exec
  have hb := B.bytes
  have hr := B.returns
  have hts := atoms_spec (ws := wsX0_isPerson) B.pre
  have hown : s.vm.findClass RX0 = some m.cls := findClass_of_methodNamed B.named
  have hlocks := B.notSynchronized
  have hi0 : ∀ w ∈ wsX00, w ∈ wsX0_isPerson := by decide +kernel
  have hl := lv_entry ([.ref a, .long p0]) (n := 3) (Nat.le_of_ble_eq_true rfl)
  rw [lg_entry_eq]
  generalize (lg_sl ([.ref a, .long p0]) ++ List.replicate (3 - (lg_sl ([.ref a, .long p0])).length) Slot.unset).toArray = ls at hl ⊢
  have hl : lv_has ls 3 [(0, .ref a), (1, .long p0)] := hl
  refine lv_lload_n hx hb dX0_isPerson_0 rfl (lv_at hl 1 rfl) ?_
  refine lv_lconst (v := 0) hx hb dX0_isPerson_1 (by decide) ?_
  refine W.lcmp hx hb dX0_isPerson_2 ?_
  refine lv_if_lt (tgt := 20) hx hb dX0_isPerson_3 (by decide) (fun c1 => ?_) (fun c1 => ?_)
  · skip
    refine lv_iconst (v := 0) hx hb dX0_isPerson_20 (by decide) ?_
    exact W.zret (v := 0) (ty := .boolean) hx hb hr rfl (fun t ht _ => ⟨0, rfl, rfl, ht⟩) (fun _ h => by cases h) dX0_isPerson_21
  · skip
    refine lv_lload_n hx hb dX0_isPerson_6 rfl (lv_at hl 1 rfl) ?_
    refine lv_aload_n hx hb dX0_isPerson_7 rfl (lv_at hl 0 rfl) ?_
    refine va_get (D := D) (ci := 0) (v := .int 0) (C := RX0) (T := TX0) (N := 14) hx hb hts hi0 hown hK hP 0 rfl rfl 2 (by decide) (hts (.fieldLink RX0 46 "AlibiRota$City" "people" "I") (by decide +kernel)) (fun _ h9 => h9) rfl dX0_isPerson_8 ?_
    refine lv_i2l (v := 0) hx hb dX0_isPerson_11 (by decide) ?_
    refine W.lcmp hx hb dX0_isPerson_12 ?_
    refine lv_if_ge (tgt := 20) hx hb dX0_isPerson_13 (by decide) (fun _ => ?_) (fun c9 => absurd (by simp only [lg_cmp_lt, lg_cmp_ge, lg_cmp_gt, lg_cmp_le, lg_cmp_eq, Int64.lt_iff_toInt_lt, Int64.le_iff_toInt_le, Int32.lt_iff_toInt_lt, Int32.le_iff_toInt_le, eqT32, eqT64, Int32.toInt_toInt64, Int64.reduceToInt, Int32.reduceToInt] at c1 ⊢; omega) c9)
    refine lv_iconst (v := 0) hx hb dX0_isPerson_20 (by decide) ?_
    exact W.zret (v := 0) (ty := .boolean) hx hb hr rfl (fun t ht _ => ⟨0, rfl, rfl, ht⟩) (fun _ h => by cases h) dX0_isPerson_21

set_option maxHeartbeats 4000000 in
set_option maxRecDepth 100000 in
theorem k_exists (l : Launch) (D : va_G) (cI cZ cB cJ cR : ClassId) (a : Nat) (n : Nat → Nat) : Met l yX0_exists wsX0_exists ({ frames := 0, cells := 0, slots := 0, locals := 0 }) (va_Pc [.ref a] (pS D cI cZ cB cJ cR [(a, .inr (0, [.ref (n 0), .int 0, .int 0, .int 0, .ref (n 4), .ref (n 5), .ref (n 6), .ref (n 7), .ref (n 8), .int 0, .ref (n 10), .ref (n 11), .ref (n 12), .ref (n 13)]))])) (vp_Si (fun r => r = 0)) 0 0 (fun _ => False) := by
  refine Met.ofW (cc := cX0_exists) (maxL := 1) (ret := (some .boolean)) (by decide) rfl ?_
  intro p e s m args below meth c s₁ B hml hv
  obtain ⟨rfl, hP, hk⟩ := hv
  have hK := hk.1
  have hz := hk.2.1
  have hx := B.exec
  have hb := B.bytes
  have hr := B.returns
  have hts := atoms_spec (ws := wsX0_exists) B.pre
  have hown : s.vm.findClass RX0 = some m.cls := findClass_of_methodNamed B.named
  have hlocks := B.notSynchronized
  have hi0 : ∀ w ∈ wsX00, w ∈ wsX0_exists := by decide +kernel
  have hl := lv_entry ([.ref a]) (n := 1) (Nat.le_of_ble_eq_true rfl)
  rw [lg_entry_eq]
  generalize (lg_sl ([.ref a]) ++ List.replicate (1 - (lg_sl ([.ref a])).length) Slot.unset).toArray = ls at hl ⊢
  have hl : lv_has ls 1 [(0, .ref a)] := hl
  refine lv_aload_n hx hb dX0_exists_0 rfl (lv_at hl 0 rfl) ?_
  refine va_get (D := D) (ci := 0) (v := .int 0) (C := RX0) (T := TX0) (N := 14) hx hb hts hi0 hown hK hP 0 rfl rfl 1 (by decide) (hts (.fieldLink RX0 42 "AlibiRota$City" "lines" "I") (by decide +kernel)) (fun _ h9 => h9) rfl dX0_exists_1 ?_
  refine lv_if_le (tgt := 11) hx hb dX0_exists_4 (by decide) (fun _ => ?_) (fun c9 => absurd (by decide) c9)
  refine lv_iconst (v := 0) hx hb dX0_exists_11 (by decide) ?_
  exact W.zret (v := 0) (ty := .boolean) hx hb hr rfl (fun t ht _ => ⟨0, rfl, rfl, ht⟩) (fun _ h => by cases h) dX0_exists_12

set_option maxHeartbeats 4000000 in
set_option maxRecDepth 100000 in
theorem k_hours (l : Launch) (D : va_G) (cI cZ cB cJ cR : ClassId) (a : Nat) (n : Nat → Nat) : Met l yX0_hours wsX0_hours ({ frames := 0, cells := 0, slots := 0, locals := 0 }) (va_Pc [.ref a] (pS D cI cZ cB cJ cR [(a, .inr (0, [.ref (n 0), .int 0, .int 0, .int 0, .ref (n 4), .ref (n 5), .ref (n 6), .ref (n 7), .ref (n 8), .int 0, .ref (n 10), .ref (n 11), .ref (n 12), .ref (n 13)])), (n 0, .inl (cI, 7, .inl (fun _ => 0)))])) (vp_Si (fun r => r = 0)) 0 0 (fun _ => False) := by
  refine Met.ofW (cc := cX0_hours) (maxL := 1) (ret := (some .int)) (by decide) rfl ?_
  intro p e s m args below meth c s₁ B hml hv
  obtain ⟨rfl, hP, hk⟩ := hv
  have hK := hk.1
  have hz := hk.2.1
  have hx := B.exec
  have hb := B.bytes
  have hr := B.returns
  have hts := atoms_spec (ws := wsX0_hours) B.pre
  have hown : s.vm.findClass RX0 = some m.cls := findClass_of_methodNamed B.named
  have hlocks := B.notSynchronized
  have hi0 : ∀ w ∈ wsX00, w ∈ wsX0_hours := by decide +kernel
  have hl := lv_entry ([.ref a]) (n := 1) (Nat.le_of_ble_eq_true rfl)
  rw [lg_entry_eq]
  generalize (lg_sl ([.ref a]) ++ List.replicate (1 - (lg_sl ([.ref a])).length) Slot.unset).toArray = ls at hl ⊢
  have hl : lv_has ls 1 [(0, .ref a)] := hl
  refine lv_aload_n hx hb dX0_hours_0 rfl (lv_at hl 0 rfl) ?_
  refine va_get (D := D) (ci := 0) (v := .ref (n 0)) (C := RX0) (T := TX0) (N := 14) hx hb hts hi0 hown hK hP 0 rfl rfl 0 (by decide) (hts (.fieldLink RX0 9 "AlibiRota$City" "numbers" "[I") (by decide +kernel)) (fun _ h9 => h9) rfl dX0_hours_1 ?_
  refine lv_iconst (v := 1) hx hb dX0_hours_4 (by decide) ?_
  refine va_iald hx hb hK hP 1 0 rfl rfl (inC 1 7 (by decide)) dX0_hours_5 ?_
  refine lv_topi (fun v1 ev1 => ?_)
  obtain rfl : v1 = 0 := ev1
  exact W.iret (v := 0) hx hb hr (fun t ht _ => ⟨0, rfl, rfl, ht⟩) (fun _ h => by cases h) dX0_hours_6

set_option maxHeartbeats 4000000 in
set_option maxRecDepth 100000 in
theorem k_places (l : Launch) (D : va_G) (cI cZ cB cJ cR : ClassId) (a : Nat) (n : Nat → Nat) : Met l yX0_places wsX0_places ({ frames := 0, cells := 0, slots := 0, locals := 0 }) (va_Pc [.ref a] (pS D cI cZ cB cJ cR [(a, .inr (0, [.ref (n 0), .int 0, .int 0, .int 0, .ref (n 4), .ref (n 5), .ref (n 6), .ref (n 7), .ref (n 8), .int 0, .ref (n 10), .ref (n 11), .ref (n 12), .ref (n 13)])), (n 0, .inl (cI, 7, .inl (fun _ => 0)))])) (vp_Si (fun r => r = 0)) 0 0 (fun _ => False) := by
  refine Met.ofW (cc := cX0_places) (maxL := 1) (ret := (some .int)) (by decide) rfl ?_
  intro p e s m args below meth c s₁ B hml hv
  obtain ⟨rfl, hP, hk⟩ := hv
  have hK := hk.1
  have hz := hk.2.1
  have hx := B.exec
  have hb := B.bytes
  have hr := B.returns
  have hts := atoms_spec (ws := wsX0_places) B.pre
  have hown : s.vm.findClass RX0 = some m.cls := findClass_of_methodNamed B.named
  have hlocks := B.notSynchronized
  have hi0 : ∀ w ∈ wsX00, w ∈ wsX0_places := by decide +kernel
  have hl := lv_entry ([.ref a]) (n := 1) (Nat.le_of_ble_eq_true rfl)
  rw [lg_entry_eq]
  generalize (lg_sl ([.ref a]) ++ List.replicate (1 - (lg_sl ([.ref a])).length) Slot.unset).toArray = ls at hl ⊢
  have hl : lv_has ls 1 [(0, .ref a)] := hl
  refine lv_aload_n hx hb dX0_places_0 rfl (lv_at hl 0 rfl) ?_
  refine va_get (D := D) (ci := 0) (v := .ref (n 0)) (C := RX0) (T := TX0) (N := 14) hx hb hts hi0 hown hK hP 0 rfl rfl 0 (by decide) (hts (.fieldLink RX0 9 "AlibiRota$City" "numbers" "[I") (by decide +kernel)) (fun _ h9 => h9) rfl dX0_places_1 ?_
  refine lv_iconst (v := 0) hx hb dX0_places_4 (by decide) ?_
  refine va_iald hx hb hK hP 1 0 rfl rfl (inC 0 7 (by decide)) dX0_places_5 ?_
  refine lv_topi (fun v1 ev1 => ?_)
  obtain rfl : v1 = 0 := ev1
  exact W.iret (v := 0) hx hb hr (fun t ht _ => ⟨0, rfl, rfl, ht⟩) (fun _ h => by cases h) dX0_places_6

set_option maxHeartbeats 4000000 in
set_option maxRecDepth 100000 in
theorem k_isHour (l : Launch) (D : va_G) (cI cZ cB cJ cR : ClassId) (a : Nat) (n : Nat → Nat) (p0 : Int64) : Met l yX0_isHour wsX0_isHour ({ frames := 1, cells := 0, slots := 0, locals := 20 }) (va_Pc [.ref a, .long p0] (pS D cI cZ cB cJ cR [(a, .inr (0, [.ref (n 0), .int 0, .int 0, .int 0, .ref (n 4), .ref (n 5), .ref (n 6), .ref (n 7), .ref (n 8), .int 0, .ref (n 10), .ref (n 11), .ref (n 12), .ref (n 13)])), (n 0, .inl (cI, 7, .inl (fun _ => 0)))])) (vp_Si (fun r => r = 0)) 0 0 (fun _ => False) := by
  refine Met.ofW (cc := cX0_isHour) (maxL := 3) (ret := (some .boolean)) (by decide) rfl ?_
  intro p e s m args below meth c s₁ B hml hv
  obtain ⟨rfl, hP, hk⟩ := hv
  have hK := hk.1
  have hz := hk.2.1
  have hx := B.exec
  have hb := B.bytes
  have hr := B.returns
  have hts := atoms_spec (ws := wsX0_isHour) B.pre
  have hown : s.vm.findClass RX0 = some m.cls := findClass_of_methodNamed B.named
  have hlocks := B.notSynchronized
  have hl := lv_entry ([.ref a, .long p0]) (n := 3) (Nat.le_of_ble_eq_true rfl)
  rw [lg_entry_eq]
  generalize (lg_sl ([.ref a, .long p0]) ++ List.replicate (3 - (lg_sl ([.ref a, .long p0])).length) Slot.unset).toArray = ls at hl ⊢
  have hl : lv_has ls 3 [(0, .ref a), (1, .long p0)] := hl
  refine lv_lload_n hx hb dX0_isHour_0 rfl (lv_at hl 1 rfl) ?_
  refine lv_lconst (v := 0) hx hb dX0_isHour_1 (by decide) ?_
  refine W.lcmp hx hb dX0_isHour_2 ?_
  refine lv_if_lt (tgt := 20) hx hb dX0_isHour_3 (by decide) (fun c1 => ?_) (fun c1 => ?_)
  · skip
    refine lv_iconst (v := 0) hx hb dX0_isHour_20 (by decide) ?_
    exact W.zret (v := 0) (ty := .boolean) hx hb hr rfl (fun t ht _ => ⟨0, rfl, rfl, ht⟩) (fun _ h => by cases h) dX0_isHour_21
  · skip
    refine lv_lload_n hx hb dX0_isHour_6 rfl (lv_at hl 1 rfl) ?_
    refine lv_aload_n hx hb dX0_isHour_7 rfl (lv_at hl 0 rfl) ?_
    have hPc := hP.sub (ws' := [(a, .inr (0, [.ref (n 0), .int 0, .int 0, .int 0, .ref (n 4), .ref (n 5), .ref (n 6), .ref (n 7), .ref (n 8), .int 0, .ref (n 10), .ref (n 11), .ref (n 12), .ref (n 13)])), (n 0, .inl (cI, 7, .inl (fun _ => 0)))]) [0, 1] rfl
    refine vp_callSi (va_Run.run (va_runV (As := []) (rest := [.long p0]) ⟨hx, hb, hml, hown, hts⟩ (k_hours l D cI cZ cB cJ cR a n ) (cwV 0 hts gX0_isHour_X0_hours rfl rfl rfl (by decide +kernel) ⟨Nat.le_of_ble_eq_true rfl, Nat.le_of_ble_eq_true rfl⟩) ⟨fbS, va_recv hK hPc (ci := 0) (q0 := 0) rfl rfl, pS_at hPc hk⟩ rfl rfl hl.1 rfl (lv_room (Nat.le_of_ble_eq_true rfl)) dX0_isHour_8 ⟨show 0 ≤ 0 by decide, show 0 ≤ 0 by decide⟩)) (fun r2 hr2 => ?_)
    obtain rfl : r2 = 0 := hr2
    refine lv_i2l (v := 0) hx hb dX0_isHour_11 (by decide) ?_
    refine W.lcmp hx hb dX0_isHour_12 ?_
    refine lv_if_ge (tgt := 20) hx hb dX0_isHour_13 (by decide) (fun _ => ?_) (fun c9 => absurd (by simp only [lg_cmp_lt, lg_cmp_ge, lg_cmp_gt, lg_cmp_le, lg_cmp_eq, Int64.lt_iff_toInt_lt, Int64.le_iff_toInt_le, Int32.lt_iff_toInt_lt, Int32.le_iff_toInt_le, eqT32, eqT64, Int32.toInt_toInt64, Int64.reduceToInt, Int32.reduceToInt] at c1 ⊢; omega) c9)
    refine lv_iconst (v := 0) hx hb dX0_isHour_20 (by decide) ?_
    exact W.zret (v := 0) (ty := .boolean) hx hb hr rfl (fun t ht _ => ⟨0, rfl, rfl, ht⟩) (fun _ h => by cases h) dX0_isHour_21

set_option maxHeartbeats 4000000 in
set_option maxRecDepth 100000 in
theorem k_isPlace (l : Launch) (D : va_G) (cI cZ cB cJ cR : ClassId) (a : Nat) (n : Nat → Nat) (p0 : Int64) : Met l yX0_isPlace wsX0_isPlace ({ frames := 1, cells := 0, slots := 0, locals := 20 }) (va_Pc [.ref a, .long p0] (pS D cI cZ cB cJ cR [(a, .inr (0, [.ref (n 0), .int 0, .int 0, .int 0, .ref (n 4), .ref (n 5), .ref (n 6), .ref (n 7), .ref (n 8), .int 0, .ref (n 10), .ref (n 11), .ref (n 12), .ref (n 13)])), (n 0, .inl (cI, 7, .inl (fun _ => 0)))])) (vp_Si (fun r => r = 0)) 0 0 (fun _ => False) := by
  refine Met.ofW (cc := cX0_isPlace) (maxL := 3) (ret := (some .boolean)) (by decide) rfl ?_
  intro p e s m args below meth c s₁ B hml hv
  obtain ⟨rfl, hP, hk⟩ := hv
  have hK := hk.1
  have hz := hk.2.1
  have hx := B.exec
  have hb := B.bytes
  have hr := B.returns
  have hts := atoms_spec (ws := wsX0_isPlace) B.pre
  have hown : s.vm.findClass RX0 = some m.cls := findClass_of_methodNamed B.named
  have hlocks := B.notSynchronized
  have hl := lv_entry ([.ref a, .long p0]) (n := 3) (Nat.le_of_ble_eq_true rfl)
  rw [lg_entry_eq]
  generalize (lg_sl ([.ref a, .long p0]) ++ List.replicate (3 - (lg_sl ([.ref a, .long p0])).length) Slot.unset).toArray = ls at hl ⊢
  have hl : lv_has ls 3 [(0, .ref a), (1, .long p0)] := hl
  refine lv_lload_n hx hb dX0_isPlace_0 rfl (lv_at hl 1 rfl) ?_
  refine lv_lconst (v := 0) hx hb dX0_isPlace_1 (by decide) ?_
  refine W.lcmp hx hb dX0_isPlace_2 ?_
  refine lv_if_lt (tgt := 20) hx hb dX0_isPlace_3 (by decide) (fun c1 => ?_) (fun c1 => ?_)
  · skip
    refine lv_iconst (v := 0) hx hb dX0_isPlace_20 (by decide) ?_
    exact W.zret (v := 0) (ty := .boolean) hx hb hr rfl (fun t ht _ => ⟨0, rfl, rfl, ht⟩) (fun _ h => by cases h) dX0_isPlace_21
  · skip
    refine lv_lload_n hx hb dX0_isPlace_6 rfl (lv_at hl 1 rfl) ?_
    refine lv_aload_n hx hb dX0_isPlace_7 rfl (lv_at hl 0 rfl) ?_
    have hPc := hP.sub (ws' := [(a, .inr (0, [.ref (n 0), .int 0, .int 0, .int 0, .ref (n 4), .ref (n 5), .ref (n 6), .ref (n 7), .ref (n 8), .int 0, .ref (n 10), .ref (n 11), .ref (n 12), .ref (n 13)])), (n 0, .inl (cI, 7, .inl (fun _ => 0)))]) [0, 1] rfl
    refine vp_callSi (va_Run.run (va_runV (As := []) (rest := [.long p0]) ⟨hx, hb, hml, hown, hts⟩ (k_places l D cI cZ cB cJ cR a n ) (cwV 0 hts gX0_isPlace_X0_places rfl rfl rfl (by decide +kernel) ⟨Nat.le_of_ble_eq_true rfl, Nat.le_of_ble_eq_true rfl⟩) ⟨fbS, va_recv hK hPc (ci := 0) (q0 := 0) rfl rfl, pS_at hPc hk⟩ rfl rfl hl.1 rfl (lv_room (Nat.le_of_ble_eq_true rfl)) dX0_isPlace_8 ⟨show 0 ≤ 0 by decide, show 0 ≤ 0 by decide⟩)) (fun r2 hr2 => ?_)
    obtain rfl : r2 = 0 := hr2
    refine lv_i2l (v := 0) hx hb dX0_isPlace_11 (by decide) ?_
    refine W.lcmp hx hb dX0_isPlace_12 ?_
    refine lv_if_ge (tgt := 20) hx hb dX0_isPlace_13 (by decide) (fun _ => ?_) (fun c9 => absurd (by simp only [lg_cmp_lt, lg_cmp_ge, lg_cmp_gt, lg_cmp_le, lg_cmp_eq, Int64.lt_iff_toInt_lt, Int64.le_iff_toInt_le, Int32.lt_iff_toInt_lt, Int32.le_iff_toInt_le, eqT32, eqT64, Int32.toInt_toInt64, Int64.reduceToInt, Int32.reduceToInt] at c1 ⊢; omega) c9)
    refine lv_iconst (v := 0) hx hb dX0_isPlace_20 (by decide) ?_
    exact W.zret (v := 0) (ty := .boolean) hx hb hr rfl (fun t ht _ => ⟨0, rfl, rfl, ht⟩) (fun _ h => by cases h) dX0_isPlace_21

set_option maxHeartbeats 4000000 in
set_option maxRecDepth 100000 in
theorem k_isPair (l : Launch) (D : va_G) (cI cZ cB cJ cR : ClassId) (a : Nat) (n : Nat → Nat) (p0 p1 : Int64) : Met l yX0_isPair wsX0_isPair ({ frames := 1, cells := 0, slots := 0, locals := 22 }) (va_Pc [.ref a, .long p0, .long p1] (pS D cI cZ cB cJ cR [(a, .inr (0, [.ref (n 0), .int 0, .int 0, .int 0, .ref (n 4), .ref (n 5), .ref (n 6), .ref (n 7), .ref (n 8), .int 0, .ref (n 10), .ref (n 11), .ref (n 12), .ref (n 13)]))])) (vp_Si (fun r => r = 0)) 0 0 (fun _ => False) := by
  refine Met.ofW (cc := cX0_isPair) (maxL := 5) (ret := (some .boolean)) (by decide) rfl ?_
  intro p e s m args below meth c s₁ B hml hv
  obtain ⟨rfl, hP, hk⟩ := hv
  have hK := hk.1
  have hz := hk.2.1
  have hx := B.exec
  have hb := B.bytes
  have hr := B.returns
  have hts := atoms_spec (ws := wsX0_isPair) B.pre
  have hown : s.vm.findClass RX0 = some m.cls := findClass_of_methodNamed B.named
  have hlocks := B.notSynchronized
  have hl := lv_entry ([.ref a, .long p0, .long p1]) (n := 5) (Nat.le_of_ble_eq_true rfl)
  rw [lg_entry_eq]
  generalize (lg_sl ([.ref a, .long p0, .long p1]) ++ List.replicate (5 - (lg_sl ([.ref a, .long p0, .long p1])).length) Slot.unset).toArray = ls at hl ⊢
  have hl : lv_has ls 5 [(0, .ref a), (1, .long p0), (3, .long p1)] := hl
  refine lv_aload_n hx hb dX0_isPair_0 rfl (lv_at hl 0 rfl) ?_
  refine lv_lload_n hx hb dX0_isPair_1 rfl (lv_at hl 1 rfl) ?_
  have hPc := hP.sub (ws' := [(a, .inr (0, [.ref (n 0), .int 0, .int 0, .int 0, .ref (n 4), .ref (n 5), .ref (n 6), .ref (n 7), .ref (n 8), .int 0, .ref (n 10), .ref (n 11), .ref (n 12), .ref (n 13)]))]) [0] rfl
  refine vp_callSi (va_Run.run (va_runV (As := [.long p0]) (rest := []) ⟨hx, hb, hml, hown, hts⟩ (k_isPerson l D cI cZ cB cJ cR a n p0) (cwV 1 hts gX0_isPair_X0_isPerson rfl rfl rfl (by decide +kernel) ⟨Nat.le_of_ble_eq_true rfl, Nat.le_of_ble_eq_true rfl⟩) ⟨fbS, va_recv hK hPc (ci := 0) (q0 := 0) rfl rfl, pS_at hPc hk⟩ rfl rfl hl.1 rfl (lv_room (Nat.le_of_ble_eq_true rfl)) dX0_isPair_2 ⟨show 0 ≤ 0 by decide, show 0 ≤ 0 by decide⟩)) (fun r1 hr1 => ?_)
  obtain rfl : r1 = 0 := hr1
  refine lv_if_eq (tgt := 26) hx hb dX0_isPair_5 (by decide) (fun _ => ?_) (fun c9 => absurd (by decide) c9)
  refine lv_iconst (v := 0) hx hb dX0_isPair_26 (by decide) ?_
  exact W.zret (v := 0) (ty := .boolean) hx hb hr rfl (fun t ht _ => ⟨0, rfl, rfl, ht⟩) (fun _ h => by cases h) dX0_isPair_27

set_option maxHeartbeats 4000000 in
set_option maxRecDepth 100000 in
theorem k_isSlot (l : Launch) (D : va_G) (cI cZ cB cJ cR : ClassId) (a : Nat) (n : Nat → Nat) (p0 : Int32) : Met l yX3_isSlot wsX3_isSlot ({ frames := 0, cells := 0, slots := 0, locals := 0 }) (va_Pc [.ref a, .int p0] (pS D cI cZ cB cJ cR [(a, .inr (3, [.ref (n 0), .ref (n 1), .ref (n 2), .ref (n 3)]))])) (vp_Si (fun r => (r = 1 ∧ ¬ p0 < 0 ∧ ¬ 3 < p0) ∨ (r = 0 ∧ (p0 < 0 ∨ 3 < p0)))) 0 0 (fun _ => False) := by
  refine Met.ofW (cc := cX3_isSlot) (maxL := 2) (ret := (some .boolean)) (by decide) rfl ?_
  intro p e s m args below meth c s₁ B hml hv
  obtain ⟨rfl, hP, hk⟩ := hv
  have hK := hk.1
  have hz := hk.2.1
  have hx := B.exec
  have hb := B.bytes
  have hr := B.returns
  have hts := atoms_spec (ws := wsX3_isSlot) B.pre
  have hown : s.vm.findClass RX3 = some m.cls := findClass_of_methodNamed B.named
  have hlocks := B.notSynchronized
  have hl := lv_entry ([.ref a, .int p0]) (n := 2) (Nat.le_of_ble_eq_true rfl)
  rw [lg_entry_eq]
  generalize (lg_sl ([.ref a, .int p0]) ++ List.replicate (2 - (lg_sl ([.ref a, .int p0])).length) Slot.unset).toArray = ls at hl ⊢
  have hl : lv_has ls 2 [(0, .ref a), (1, .int p0)] := hl
  refine lv_iload_n hx hb dX3_isSlot_0 rfl (lv_at hl 1 rfl) ?_
  refine lv_if_lt (tgt := 13) hx hb dX3_isSlot_1 (by decide) (fun c1 => ?_) (fun c1 => ?_)
  · skip
    refine lv_iconst (v := 0) hx hb dX3_isSlot_13 (by decide) ?_
    exact W.zret (v := 0) (ty := .boolean) hx hb hr rfl (fun t ht _ => ⟨0, rfl, (Or.inr ⟨rfl, by (try simp only [lg_cmp_lt, lg_cmp_ge, lg_cmp_gt, lg_cmp_le, lg_cmp_eq, Int64.lt_iff_toInt_lt, Int64.le_iff_toInt_le, Int32.lt_iff_toInt_lt, Int32.le_iff_toInt_le, eqT32, eqT64, Int32.toInt_toInt64, Int64.reduceToInt, Int32.reduceToInt] at c1); (try simp only [lg_cmp_lt, lg_cmp_ge, lg_cmp_gt, lg_cmp_le, lg_cmp_eq, Int64.lt_iff_toInt_lt, Int64.le_iff_toInt_le, Int32.lt_iff_toInt_lt, Int32.le_iff_toInt_le, eqT32, eqT64, Int32.toInt_toInt64, Int64.reduceToInt, Int32.reduceToInt]); omega⟩), ht⟩) (fun _ h => by cases h) dX3_isSlot_14
  · skip
    refine lv_iload_n hx hb dX3_isSlot_4 rfl (lv_at hl 1 rfl) ?_
    refine lv_iconst (v := 4) hx hb dX3_isSlot_5 (by decide) ?_
    refine lv_icmp_ge (tgt := 13) hx hb dX3_isSlot_6 (by decide) (fun c2 => ?_) (fun c2 => ?_)
    · skip
      refine lv_iconst (v := 0) hx hb dX3_isSlot_13 (by decide) ?_
      exact W.zret (v := 0) (ty := .boolean) hx hb hr rfl (fun t ht _ => ⟨0, rfl, (Or.inr ⟨rfl, by (try simp only [lg_cmp_lt, lg_cmp_ge, lg_cmp_gt, lg_cmp_le, lg_cmp_eq, Int64.lt_iff_toInt_lt, Int64.le_iff_toInt_le, Int32.lt_iff_toInt_lt, Int32.le_iff_toInt_le, eqT32, eqT64, Int32.toInt_toInt64, Int64.reduceToInt, Int32.reduceToInt] at c1); (try simp only [lg_cmp_lt, lg_cmp_ge, lg_cmp_gt, lg_cmp_le, lg_cmp_eq, Int64.lt_iff_toInt_lt, Int64.le_iff_toInt_le, Int32.lt_iff_toInt_lt, Int32.le_iff_toInt_le, eqT32, eqT64, Int32.toInt_toInt64, Int64.reduceToInt, Int32.reduceToInt] at c2); (try simp only [lg_cmp_lt, lg_cmp_ge, lg_cmp_gt, lg_cmp_le, lg_cmp_eq, Int64.lt_iff_toInt_lt, Int64.le_iff_toInt_le, Int32.lt_iff_toInt_lt, Int32.le_iff_toInt_le, eqT32, eqT64, Int32.toInt_toInt64, Int64.reduceToInt, Int32.reduceToInt]); omega⟩), ht⟩) (fun _ h => by cases h) dX3_isSlot_14
    · skip
      refine lv_iconst (v := 1) hx hb dX3_isSlot_9 (by decide) ?_
      refine lv_goto (tgt := 14) hx hb dX3_isSlot_10 (by decide) ?_
      exact W.zret (v := 1) (ty := .boolean) hx hb hr rfl (fun t ht _ => ⟨1, rfl, (Or.inl ⟨rfl, by (try simp only [lg_cmp_lt, lg_cmp_ge, lg_cmp_gt, lg_cmp_le, lg_cmp_eq, Int64.lt_iff_toInt_lt, Int64.le_iff_toInt_le, Int32.lt_iff_toInt_lt, Int32.le_iff_toInt_le, eqT32, eqT64, Int32.toInt_toInt64, Int64.reduceToInt, Int32.reduceToInt] at c1); (try simp only [lg_cmp_lt, lg_cmp_ge, lg_cmp_gt, lg_cmp_le, lg_cmp_eq, Int64.lt_iff_toInt_lt, Int64.le_iff_toInt_le, Int32.lt_iff_toInt_lt, Int32.le_iff_toInt_le, eqT32, eqT64, Int32.toInt_toInt64, Int64.reduceToInt, Int32.reduceToInt] at c2); (try simp only [lg_cmp_lt, lg_cmp_ge, lg_cmp_gt, lg_cmp_le, lg_cmp_eq, Int64.lt_iff_toInt_lt, Int64.le_iff_toInt_le, Int32.lt_iff_toInt_lt, Int32.le_iff_toInt_le, eqT32, eqT64, Int32.toInt_toInt64, Int64.reduceToInt, Int32.reduceToInt]); omega, by (try simp only [lg_cmp_lt, lg_cmp_ge, lg_cmp_gt, lg_cmp_le, lg_cmp_eq, Int64.lt_iff_toInt_lt, Int64.le_iff_toInt_le, Int32.lt_iff_toInt_lt, Int32.le_iff_toInt_le, eqT32, eqT64, Int32.toInt_toInt64, Int64.reduceToInt, Int32.reduceToInt] at c1); (try simp only [lg_cmp_lt, lg_cmp_ge, lg_cmp_gt, lg_cmp_le, lg_cmp_eq, Int64.lt_iff_toInt_lt, Int64.le_iff_toInt_le, Int32.lt_iff_toInt_lt, Int32.le_iff_toInt_le, eqT32, eqT64, Int32.toInt_toInt64, Int64.reduceToInt, Int32.reduceToInt] at c2); (try simp only [lg_cmp_lt, lg_cmp_ge, lg_cmp_gt, lg_cmp_le, lg_cmp_eq, Int64.lt_iff_toInt_lt, Int64.le_iff_toInt_le, Int32.lt_iff_toInt_lt, Int32.le_iff_toInt_le, eqT32, eqT64, Int32.toInt_toInt64, Int64.reduceToInt, Int32.reduceToInt]); omega⟩), ht⟩) (fun _ h => by cases h) dX3_isSlot_14

set_option maxHeartbeats 4000000 in
set_option maxRecDepth 100000 in
theorem k_hasRow0 (l : Launch) (D : va_G) (cI cZ cB cJ cR : ClassId) (a : Nat) (n : Nat → Nat) : Met l yX3_hasRow wsX3_hasRow ({ frames := 0, cells := 0, slots := 0, locals := 0 }) (va_Pc [.ref a, .int 0] (pS D cI cZ cB cJ cR [(a, .inr (3, [.ref (n 0), .ref (n 1), .ref (n 2), .ref (n 3)])), (n 0, .inl (cZ, 4, .inl (fun _ => 0)))])) (vp_Si (fun r => r = 0)) 0 0 (fun _ => False) := by
  refine Met.ofW (cc := cX3_hasRow) (maxL := 2) (ret := (some .boolean)) (by decide) rfl ?_
  intro p e s m args below meth c s₁ B hml hv
  obtain ⟨rfl, hP, hk⟩ := hv
  have hK := hk.1
  have hz := hk.2.1
  have hx := B.exec
  have hb := B.bytes
  have hr := B.returns
  have hts := atoms_spec (ws := wsX3_hasRow) B.pre
  have hown : s.vm.findClass RX3 = some m.cls := findClass_of_methodNamed B.named
  have hlocks := B.notSynchronized
  have hi3 : ∀ w ∈ wsX30, w ∈ wsX3_hasRow := by decide +kernel
  have hl := lv_entry ([.ref a, .int 0]) (n := 2) (Nat.le_of_ble_eq_true rfl)
  rw [lg_entry_eq]
  generalize (lg_sl ([.ref a, .int 0]) ++ List.replicate (2 - (lg_sl ([.ref a, .int 0])).length) Slot.unset).toArray = ls at hl ⊢
  have hl : lv_has ls 2 [(0, .ref a), (1, .int 0)] := hl
  refine lv_aload_n hx hb dX3_hasRow_0 rfl (lv_at hl 0 rfl) ?_
  refine va_get (D := D) (ci := 3) (v := .ref (n 0)) (C := RX3) (T := TX3) (N := 4) hx hb hts hi3 hown hK hP 0 rfl rfl 0 (by decide) (hts (.fieldLink RX3 9 "AlibiRota$Slots" "isLaid" "[Z") (by decide +kernel)) (fun _ h9 => h9) rfl dX3_hasRow_1 ?_
  refine lv_iload_n hx hb dX3_hasRow_4 rfl (lv_at hl 1 rfl) ?_
  refine va_zald hx hb hK hP 1 1 rfl rfl (inC 0 4 (by decide)) dX3_hasRow_5 ?_
  refine lv_topi (fun v1 ev1 => ?_)
  obtain rfl : v1 = 0 := ev1
  exact W.zret (v := 0) (ty := .boolean) hx hb hr rfl (fun t ht _ => ⟨0, rfl, rfl, ht⟩) (fun _ h => by cases h) dX3_hasRow_6

set_option maxHeartbeats 4000000 in
set_option maxRecDepth 100000 in
theorem k_hasRow1 (l : Launch) (D : va_G) (cI cZ cB cJ cR : ClassId) (a : Nat) (n : Nat → Nat) : Met l yX3_hasRow wsX3_hasRow ({ frames := 0, cells := 0, slots := 0, locals := 0 }) (va_Pc [.ref a, .int 1] (pS D cI cZ cB cJ cR [(a, .inr (3, [.ref (n 0), .ref (n 1), .ref (n 2), .ref (n 3)])), (n 0, .inl (cZ, 4, .inl (fun _ => 0)))])) (vp_Si (fun r => r = 0)) 0 0 (fun _ => False) := by
  refine Met.ofW (cc := cX3_hasRow) (maxL := 2) (ret := (some .boolean)) (by decide) rfl ?_
  intro p e s m args below meth c s₁ B hml hv
  obtain ⟨rfl, hP, hk⟩ := hv
  have hK := hk.1
  have hz := hk.2.1
  have hx := B.exec
  have hb := B.bytes
  have hr := B.returns
  have hts := atoms_spec (ws := wsX3_hasRow) B.pre
  have hown : s.vm.findClass RX3 = some m.cls := findClass_of_methodNamed B.named
  have hlocks := B.notSynchronized
  have hi3 : ∀ w ∈ wsX30, w ∈ wsX3_hasRow := by decide +kernel
  have hl := lv_entry ([.ref a, .int 1]) (n := 2) (Nat.le_of_ble_eq_true rfl)
  rw [lg_entry_eq]
  generalize (lg_sl ([.ref a, .int 1]) ++ List.replicate (2 - (lg_sl ([.ref a, .int 1])).length) Slot.unset).toArray = ls at hl ⊢
  have hl : lv_has ls 2 [(0, .ref a), (1, .int 1)] := hl
  refine lv_aload_n hx hb dX3_hasRow_0 rfl (lv_at hl 0 rfl) ?_
  refine va_get (D := D) (ci := 3) (v := .ref (n 0)) (C := RX3) (T := TX3) (N := 4) hx hb hts hi3 hown hK hP 0 rfl rfl 0 (by decide) (hts (.fieldLink RX3 9 "AlibiRota$Slots" "isLaid" "[Z") (by decide +kernel)) (fun _ h9 => h9) rfl dX3_hasRow_1 ?_
  refine lv_iload_n hx hb dX3_hasRow_4 rfl (lv_at hl 1 rfl) ?_
  refine va_zald hx hb hK hP 1 1 rfl rfl (inC 1 4 (by decide)) dX3_hasRow_5 ?_
  refine lv_topi (fun v1 ev1 => ?_)
  obtain rfl : v1 = 0 := ev1
  exact W.zret (v := 0) (ty := .boolean) hx hb hr rfl (fun t ht _ => ⟨0, rfl, rfl, ht⟩) (fun _ h => by cases h) dX3_hasRow_6

set_option maxHeartbeats 4000000 in
set_option maxRecDepth 100000 in
theorem k_hasRow2 (l : Launch) (D : va_G) (cI cZ cB cJ cR : ClassId) (a : Nat) (n : Nat → Nat) : Met l yX3_hasRow wsX3_hasRow ({ frames := 0, cells := 0, slots := 0, locals := 0 }) (va_Pc [.ref a, .int 2] (pS D cI cZ cB cJ cR [(a, .inr (3, [.ref (n 0), .ref (n 1), .ref (n 2), .ref (n 3)])), (n 0, .inl (cZ, 4, .inl (fun _ => 0)))])) (vp_Si (fun r => r = 0)) 0 0 (fun _ => False) := by
  refine Met.ofW (cc := cX3_hasRow) (maxL := 2) (ret := (some .boolean)) (by decide) rfl ?_
  intro p e s m args below meth c s₁ B hml hv
  obtain ⟨rfl, hP, hk⟩ := hv
  have hK := hk.1
  have hz := hk.2.1
  have hx := B.exec
  have hb := B.bytes
  have hr := B.returns
  have hts := atoms_spec (ws := wsX3_hasRow) B.pre
  have hown : s.vm.findClass RX3 = some m.cls := findClass_of_methodNamed B.named
  have hlocks := B.notSynchronized
  have hi3 : ∀ w ∈ wsX30, w ∈ wsX3_hasRow := by decide +kernel
  have hl := lv_entry ([.ref a, .int 2]) (n := 2) (Nat.le_of_ble_eq_true rfl)
  rw [lg_entry_eq]
  generalize (lg_sl ([.ref a, .int 2]) ++ List.replicate (2 - (lg_sl ([.ref a, .int 2])).length) Slot.unset).toArray = ls at hl ⊢
  have hl : lv_has ls 2 [(0, .ref a), (1, .int 2)] := hl
  refine lv_aload_n hx hb dX3_hasRow_0 rfl (lv_at hl 0 rfl) ?_
  refine va_get (D := D) (ci := 3) (v := .ref (n 0)) (C := RX3) (T := TX3) (N := 4) hx hb hts hi3 hown hK hP 0 rfl rfl 0 (by decide) (hts (.fieldLink RX3 9 "AlibiRota$Slots" "isLaid" "[Z") (by decide +kernel)) (fun _ h9 => h9) rfl dX3_hasRow_1 ?_
  refine lv_iload_n hx hb dX3_hasRow_4 rfl (lv_at hl 1 rfl) ?_
  refine va_zald hx hb hK hP 1 1 rfl rfl (inC 2 4 (by decide)) dX3_hasRow_5 ?_
  refine lv_topi (fun v1 ev1 => ?_)
  obtain rfl : v1 = 0 := ev1
  exact W.zret (v := 0) (ty := .boolean) hx hb hr rfl (fun t ht _ => ⟨0, rfl, rfl, ht⟩) (fun _ h => by cases h) dX3_hasRow_6

set_option maxHeartbeats 4000000 in
set_option maxRecDepth 100000 in
theorem k_hasRow3 (l : Launch) (D : va_G) (cI cZ cB cJ cR : ClassId) (a : Nat) (n : Nat → Nat) : Met l yX3_hasRow wsX3_hasRow ({ frames := 0, cells := 0, slots := 0, locals := 0 }) (va_Pc [.ref a, .int 3] (pS D cI cZ cB cJ cR [(a, .inr (3, [.ref (n 0), .ref (n 1), .ref (n 2), .ref (n 3)])), (n 0, .inl (cZ, 4, .inl (fun _ => 0)))])) (vp_Si (fun r => r = 0)) 0 0 (fun _ => False) := by
  refine Met.ofW (cc := cX3_hasRow) (maxL := 2) (ret := (some .boolean)) (by decide) rfl ?_
  intro p e s m args below meth c s₁ B hml hv
  obtain ⟨rfl, hP, hk⟩ := hv
  have hK := hk.1
  have hz := hk.2.1
  have hx := B.exec
  have hb := B.bytes
  have hr := B.returns
  have hts := atoms_spec (ws := wsX3_hasRow) B.pre
  have hown : s.vm.findClass RX3 = some m.cls := findClass_of_methodNamed B.named
  have hlocks := B.notSynchronized
  have hi3 : ∀ w ∈ wsX30, w ∈ wsX3_hasRow := by decide +kernel
  have hl := lv_entry ([.ref a, .int 3]) (n := 2) (Nat.le_of_ble_eq_true rfl)
  rw [lg_entry_eq]
  generalize (lg_sl ([.ref a, .int 3]) ++ List.replicate (2 - (lg_sl ([.ref a, .int 3])).length) Slot.unset).toArray = ls at hl ⊢
  have hl : lv_has ls 2 [(0, .ref a), (1, .int 3)] := hl
  refine lv_aload_n hx hb dX3_hasRow_0 rfl (lv_at hl 0 rfl) ?_
  refine va_get (D := D) (ci := 3) (v := .ref (n 0)) (C := RX3) (T := TX3) (N := 4) hx hb hts hi3 hown hK hP 0 rfl rfl 0 (by decide) (hts (.fieldLink RX3 9 "AlibiRota$Slots" "isLaid" "[Z") (by decide +kernel)) (fun _ h9 => h9) rfl dX3_hasRow_1 ?_
  refine lv_iload_n hx hb dX3_hasRow_4 rfl (lv_at hl 1 rfl) ?_
  refine va_zald hx hb hK hP 1 1 rfl rfl (inC 3 4 (by decide)) dX3_hasRow_5 ?_
  refine lv_topi (fun v1 ev1 => ?_)
  obtain rfl : v1 = 0 := ev1
  exact W.zret (v := 0) (ty := .boolean) hx hb hr rfl (fun t ht _ => ⟨0, rfl, rfl, ht⟩) (fun _ h => by cases h) dX3_hasRow_6

set_option maxHeartbeats 4000000 in
set_option maxRecDepth 100000 in
theorem k_manyRows (l : Launch) (D : va_G) (cI cZ cB cJ cR : ClassId) (a : Nat) (n : Nat → Nat) : Met l yX3_manyRows wsX3_manyRows ({ frames := 0, cells := 0, slots := 0, locals := 0 }) (va_Pc [.ref a] (pS D cI cZ cB cJ cR [(a, .inr (3, [.ref (n 0), .ref (n 1), .ref (n 2), .ref (n 3)])), (n 0, .inl (cZ, 4, .inl (fun _ => 0)))])) (vp_Si (fun r => r = 0)) 0 0 (fun _ => False) := by
  refine Met.ofW (cc := cX3_manyRows) (maxL := 3) (ret := (some .int)) (by decide) rfl ?_
  intro p e s m args below meth c s₁ B hml hv
  obtain ⟨rfl, hP, hk⟩ := hv
  have hK := hk.1
  have hz := hk.2.1
  have hx := B.exec
  have hb := B.bytes
  have hr := B.returns
  have hts := atoms_spec (ws := wsX3_manyRows) B.pre
  have hown : s.vm.findClass RX3 = some m.cls := findClass_of_methodNamed B.named
  have hlocks := B.notSynchronized
  have hi3 : ∀ w ∈ wsX30, w ∈ wsX3_manyRows := by decide +kernel
  have hl := lv_entry ([.ref a]) (n := 3) (Nat.le_of_ble_eq_true rfl)
  rw [lg_entry_eq]
  generalize (lg_sl ([.ref a]) ++ List.replicate (3 - (lg_sl ([.ref a])).length) Slot.unset).toArray = ls at hl ⊢
  have hl : lv_has ls 3 [(0, .ref a)] := hl
  refine lv_iconst (v := 0) hx hb dX3_manyRows_0 (by decide) ?_
  refine lv_istore_n (lv' := [(1, .int 0), (0, .ref a)]) hx hb dX3_manyRows_1 rfl hl (by decide) rfl (fun ls hl => ?_)
  refine lv_iconst (v := 0) hx hb dX3_manyRows_2 (by decide) ?_
  refine lv_istore_n (lv' := [(2, .int 0), (1, .int 0), (0, .ref a)]) hx hb dX3_manyRows_3 rfl hl (by decide) rfl (fun ls hl => ?_)
  refine lv_iload_n hx hb dX3_manyRows_4 rfl (lv_at hl 0 rfl) ?_
  refine lv_iconst (v := 4) hx hb dX3_manyRows_5 (by decide) ?_
  refine lv_icmp_ge (tgt := 27) hx hb dX3_manyRows_6 (by decide) (fun c9 => absurd c9 (by decide)) (fun _ => ?_)
  refine lv_aload_n hx hb dX3_manyRows_9 rfl (lv_at hl 2 rfl) ?_
  refine va_get (D := D) (ci := 3) (v := .ref (n 0)) (C := RX3) (T := TX3) (N := 4) hx hb hts hi3 hown hK hP 0 rfl rfl 0 (by decide) (hts (.fieldLink RX3 9 "AlibiRota$Slots" "isLaid" "[Z") (by decide +kernel)) (fun _ h9 => h9) rfl dX3_manyRows_10 ?_
  refine lv_iload_n hx hb dX3_manyRows_13 rfl (lv_at hl 0 rfl) ?_
  refine va_zald hx hb hK hP 1 1 rfl rfl (inC 0 4 (by decide)) dX3_manyRows_14 ?_
  refine lv_topi (fun v1 ev1 => ?_)
  obtain rfl : v1 = 0 := ev1
  refine lv_if_eq (tgt := 21) hx hb dX3_manyRows_15 (by decide) (fun _ => ?_) (fun c9 => absurd (by decide) c9)
  refine lv_iinc (v := 1) (lv' := [(2, .int 1), (1, .int 0), (0, .ref a)]) hx hb dX3_manyRows_21 hl (k := 0) rfl (by decide) (by decide) rfl (fun ls hl => ?_)
  refine lv_goto (tgt := 4) hx hb dX3_manyRows_24 (by decide) ?_
  refine lv_iload_n hx hb dX3_manyRows_4 rfl (lv_at hl 0 rfl) ?_
  refine lv_iconst (v := 4) hx hb dX3_manyRows_5 (by decide) ?_
  refine lv_icmp_ge (tgt := 27) hx hb dX3_manyRows_6 (by decide) (fun c9 => absurd c9 (by decide)) (fun _ => ?_)
  refine lv_aload_n hx hb dX3_manyRows_9 rfl (lv_at hl 2 rfl) ?_
  refine va_get (D := D) (ci := 3) (v := .ref (n 0)) (C := RX3) (T := TX3) (N := 4) hx hb hts hi3 hown hK hP 0 rfl rfl 0 (by decide) (hts (.fieldLink RX3 9 "AlibiRota$Slots" "isLaid" "[Z") (by decide +kernel)) (fun _ h9 => h9) rfl dX3_manyRows_10 ?_
  refine lv_iload_n hx hb dX3_manyRows_13 rfl (lv_at hl 0 rfl) ?_
  refine va_zald hx hb hK hP 1 1 rfl rfl (inC 1 4 (by decide)) dX3_manyRows_14 ?_
  refine lv_topi (fun v2 ev2 => ?_)
  obtain rfl : v2 = 0 := ev2
  refine lv_if_eq (tgt := 21) hx hb dX3_manyRows_15 (by decide) (fun _ => ?_) (fun c9 => absurd (by decide) c9)
  refine lv_iinc (v := 2) (lv' := [(2, .int 2), (1, .int 0), (0, .ref a)]) hx hb dX3_manyRows_21 hl (k := 0) rfl (by decide) (by decide) rfl (fun ls hl => ?_)
  refine lv_goto (tgt := 4) hx hb dX3_manyRows_24 (by decide) ?_
  refine lv_iload_n hx hb dX3_manyRows_4 rfl (lv_at hl 0 rfl) ?_
  refine lv_iconst (v := 4) hx hb dX3_manyRows_5 (by decide) ?_
  refine lv_icmp_ge (tgt := 27) hx hb dX3_manyRows_6 (by decide) (fun c9 => absurd c9 (by decide)) (fun _ => ?_)
  refine lv_aload_n hx hb dX3_manyRows_9 rfl (lv_at hl 2 rfl) ?_
  refine va_get (D := D) (ci := 3) (v := .ref (n 0)) (C := RX3) (T := TX3) (N := 4) hx hb hts hi3 hown hK hP 0 rfl rfl 0 (by decide) (hts (.fieldLink RX3 9 "AlibiRota$Slots" "isLaid" "[Z") (by decide +kernel)) (fun _ h9 => h9) rfl dX3_manyRows_10 ?_
  refine lv_iload_n hx hb dX3_manyRows_13 rfl (lv_at hl 0 rfl) ?_
  refine va_zald hx hb hK hP 1 1 rfl rfl (inC 2 4 (by decide)) dX3_manyRows_14 ?_
  refine lv_topi (fun v3 ev3 => ?_)
  obtain rfl : v3 = 0 := ev3
  refine lv_if_eq (tgt := 21) hx hb dX3_manyRows_15 (by decide) (fun _ => ?_) (fun c9 => absurd (by decide) c9)
  refine lv_iinc (v := 3) (lv' := [(2, .int 3), (1, .int 0), (0, .ref a)]) hx hb dX3_manyRows_21 hl (k := 0) rfl (by decide) (by decide) rfl (fun ls hl => ?_)
  refine lv_goto (tgt := 4) hx hb dX3_manyRows_24 (by decide) ?_
  refine lv_iload_n hx hb dX3_manyRows_4 rfl (lv_at hl 0 rfl) ?_
  refine lv_iconst (v := 4) hx hb dX3_manyRows_5 (by decide) ?_
  refine lv_icmp_ge (tgt := 27) hx hb dX3_manyRows_6 (by decide) (fun c9 => absurd c9 (by decide)) (fun _ => ?_)
  refine lv_aload_n hx hb dX3_manyRows_9 rfl (lv_at hl 2 rfl) ?_
  refine va_get (D := D) (ci := 3) (v := .ref (n 0)) (C := RX3) (T := TX3) (N := 4) hx hb hts hi3 hown hK hP 0 rfl rfl 0 (by decide) (hts (.fieldLink RX3 9 "AlibiRota$Slots" "isLaid" "[Z") (by decide +kernel)) (fun _ h9 => h9) rfl dX3_manyRows_10 ?_
  refine lv_iload_n hx hb dX3_manyRows_13 rfl (lv_at hl 0 rfl) ?_
  refine va_zald hx hb hK hP 1 1 rfl rfl (inC 3 4 (by decide)) dX3_manyRows_14 ?_
  refine lv_topi (fun v4 ev4 => ?_)
  obtain rfl : v4 = 0 := ev4
  refine lv_if_eq (tgt := 21) hx hb dX3_manyRows_15 (by decide) (fun _ => ?_) (fun c9 => absurd (by decide) c9)
  refine lv_iinc (v := 4) (lv' := [(2, .int 4), (1, .int 0), (0, .ref a)]) hx hb dX3_manyRows_21 hl (k := 0) rfl (by decide) (by decide) rfl (fun ls hl => ?_)
  refine lv_goto (tgt := 4) hx hb dX3_manyRows_24 (by decide) ?_
  refine lv_iload_n hx hb dX3_manyRows_4 rfl (lv_at hl 0 rfl) ?_
  refine lv_iconst (v := 4) hx hb dX3_manyRows_5 (by decide) ?_
  refine lv_icmp_ge (tgt := 27) hx hb dX3_manyRows_6 (by decide) (fun _ => ?_) (fun c9 => absurd (by decide) c9)
  refine lv_iload_n hx hb dX3_manyRows_27 rfl (lv_at hl 1 rfl) ?_
  exact W.iret (v := 0) hx hb hr (fun t ht _ => ⟨0, rfl, rfl, ht⟩) (fun _ h => by cases h) dX3_manyRows_28
