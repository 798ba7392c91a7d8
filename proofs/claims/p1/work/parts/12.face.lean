set_option maxHeartbeats 4000000 in
set_option maxRecDepth 100000 in
theorem kx_crowd (l : Launch) (D : va_G) (cI cZ cB cJ cR : ClassId) (h : Nat) (x n q : Nat → Nat) (p0 : Int32) : Met l yX5_crowd wsX5_crowd ({ frames := 2, cells := 0, slots := 0, locals := 42 }) (va_Pc [.ref h, .int p0] (pS D cI cZ cB cJ cR [(h, .inr (5, [.ref (x 0), .ref (x 1), .ref (x 2), .ref (x 3), .ref (x 4), .ref (x 5), .ref (x 6), .ref (x 7)])), (x 6, .inr (0, [.ref (n 0), .int 0, .int 0, .int 0, .ref (n 4), .ref (n 5), .ref (n 6), .ref (n 7), .ref (n 8), .int 0, .ref (n 10), .ref (n 11), .ref (n 12), .ref (n 13)])), (n 0, .inl (cI, 7, .inl (fun _ => 0))), (x 1, .inr (3, [.ref (q 0), .ref (q 1), .ref (q 2), .ref (q 3)]))])) (vp_Si (fun r => r = (-2))) 0 0 (fun _ => False) := by
  refine Met.ofW (cc := cX5_crowd) (maxL := 6) (ret := (some .int)) (by decide) rfl ?_
  intro p e s m args below meth c s₁ B hml hv
  obtain ⟨rfl, hP, hk⟩ := hv
  have hK := hk.1
  have hz := hk.2.1
  have hx := B.exec
  have hb := B.bytes
  have hr := B.returns
  have hts := atoms_spec (ws := wsX5_crowd) B.pre
  have hown : s.vm.findClass RX5 = some m.cls := findClass_of_methodNamed B.named
  have hlocks := B.notSynchronized
  have hi5 : ∀ w ∈ wsX50, w ∈ wsX5_crowd := by decide +kernel
  have hl := lv_entry ([.ref h, .int p0]) (n := 6) (Nat.le_of_ble_eq_true rfl)
  rw [lg_entry_eq]
  generalize (lg_sl ([.ref h, .int p0]) ++ List.replicate (6 - (lg_sl ([.ref h, .int p0])).length) Slot.unset).toArray = ls at hl ⊢
  have hl : lv_has ls 6 [(0, .ref h), (1, .int p0)] := hl
  refine lv_aload_n hx hb dX5_crowd_0 rfl (lv_at hl 0 rfl) ?_
  refine va_get (D := D) (ci := 5) (v := .ref (x 6)) (C := RX5) (T := TX5) (N := 8) hx hb hts hi5 hown hK hP 0 rfl rfl 6 (by decide) (hts (.fieldLink RX5 48 "AlibiRota" "now" "LAlibiRota$City;") (by decide +kernel)) (fun _ h9 => h9) rfl dX5_crowd_1 ?_
  refine lv_iload_n hx hb dX5_crowd_4 rfl (lv_at hl 1 rfl) ?_
  refine lv_i2l (v := p0.toInt64) hx hb dX5_crowd_5 rfl ?_
  have hPc := hP.sub (ws' := [(x 6, .inr (0, [.ref (n 0), .int 0, .int 0, .int 0, .ref (n 4), .ref (n 5), .ref (n 6), .ref (n 7), .ref (n 8), .int 0, .ref (n 10), .ref (n 11), .ref (n 12), .ref (n 13)])), (n 0, .inl (cI, 7, .inl (fun _ => 0)))]) [1, 2] rfl
  refine vp_callSi (va_Run.run (va_runVN (As := [.long p0.toInt64]) (rest := []) ⟨hx, hb, hml, hown, hts⟩ (k_isHour l D cI cZ cB cJ cR (x 6) n p0.toInt64) ⟨va_cnB 1 hts ggX5_crowd_X0_isHour rfl rfl rfl (hz _ zw_RX5_87) (hts (.initialized RX0) (by decide +kernel)) (by decide +kernel) ⟨Nat.le_of_ble_eq_true rfl, Nat.le_of_ble_eq_true rfl⟩, hts (.instanceMethod yX0_isHour) (by decide +kernel), hts (.selects RX0 yX0_isHour yX0_isHour) (by decide +kernel)⟩ ⟨fbS, va_recv hK hPc (ci := 0) (q0 := 0) rfl rfl, pS_at hPc hk⟩ rfl rfl hl.1 rfl (lv_room (Nat.le_of_ble_eq_true rfl)) dX5_crowd_6 ⟨show 0 ≤ 0 by decide, show 0 ≤ 0 by decide⟩)) (fun r1 hr1 => ?_)
  obtain rfl : r1 = 0 := hr1
  refine lv_if_ne (tgt := 15) hx hb dX5_crowd_9 (by decide) (fun c9 => absurd (by decide) c9) (fun _ => ?_)
  refine lv_bipush (v := (-2)) hx hb dX5_crowd_12 (by decide) ?_
  exact W.iret (v := (-2)) hx hb hr (fun t ht _ => ⟨(-2), rfl, rfl, ht⟩) (fun _ h => by cases h) dX5_crowd_14

set_option maxHeartbeats 4000000 in
set_option maxRecDepth 100000 in
theorem kx_busiest (l : Launch) (D : va_G) (cI cZ cB cJ cR : ClassId) (h : Nat) (x n q : Nat → Nat)  : Met l yX5_busiest wsX5_busiest ({ frames := 1, cells := 0, slots := 0, locals := 20 }) (va_Pc [.ref h] (pS D cI cZ cB cJ cR [(h, .inr (5, [.ref (x 0), .ref (x 1), .ref (x 2), .ref (x 3), .ref (x 4), .ref (x 5), .ref (x 6), .ref (x 7)])), (x 6, .inr (0, [.ref (n 0), .int 0, .int 0, .int 0, .ref (n 4), .ref (n 5), .ref (n 6), .ref (n 7), .ref (n 8), .int 0, .ref (n 10), .ref (n 11), .ref (n 12), .ref (n 13)])), (n 0, .inl (cI, 7, .inl (fun _ => 0))), (x 1, .inr (3, [.ref (q 0), .ref (q 1), .ref (q 2), .ref (q 3)]))])) (vp_Si (fun r => r = (-2))) 0 0 (fun _ => False) := by
  refine Met.ofW (cc := cX5_busiest) (maxL := 5) (ret := (some .int)) (by decide) rfl ?_
  intro p e s m args below meth c s₁ B hml hv
  obtain ⟨rfl, hP, hk⟩ := hv
  have hK := hk.1
  have hz := hk.2.1
  have hx := B.exec
  have hb := B.bytes
  have hr := B.returns
  have hts := atoms_spec (ws := wsX5_busiest) B.pre
  have hown : s.vm.findClass RX5 = some m.cls := findClass_of_methodNamed B.named
  have hlocks := B.notSynchronized
  have hi5 : ∀ w ∈ wsX50, w ∈ wsX5_busiest := by decide +kernel
  have hl := lv_entry ([.ref h]) (n := 5) (Nat.le_of_ble_eq_true rfl)
  rw [lg_entry_eq]
  generalize (lg_sl ([.ref h]) ++ List.replicate (5 - (lg_sl ([.ref h])).length) Slot.unset).toArray = ls at hl ⊢
  have hl : lv_has ls 5 [(0, .ref h)] := hl
  refine lv_aload_n hx hb dX5_busiest_0 rfl (lv_at hl 0 rfl) ?_
  refine va_get (D := D) (ci := 5) (v := .ref (x 6)) (C := RX5) (T := TX5) (N := 8) hx hb hts hi5 hown hK hP 0 rfl rfl 6 (by decide) (hts (.fieldLink RX5 48 "AlibiRota" "now" "LAlibiRota$City;") (by decide +kernel)) (fun _ h9 => h9) rfl dX5_busiest_1 ?_
  have hPc := hP.sub (ws' := [(x 6, .inr (0, [.ref (n 0), .int 0, .int 0, .int 0, .ref (n 4), .ref (n 5), .ref (n 6), .ref (n 7), .ref (n 8), .int 0, .ref (n 10), .ref (n 11), .ref (n 12), .ref (n 13)]))]) [1] rfl
  refine vp_callSi (va_Run.run (va_runVN (As := []) (rest := []) ⟨hx, hb, hml, hown, hts⟩ (k_exists l D cI cZ cB cJ cR (x 6) n ) ⟨va_cnB 0 hts ggX5_busiest_X0_exists rfl rfl rfl (hz _ zw_RX5_115) (hts (.initialized RX0) (by decide +kernel)) (by decide +kernel) ⟨Nat.le_of_ble_eq_true rfl, Nat.le_of_ble_eq_true rfl⟩, hts (.instanceMethod yX0_exists) (by decide +kernel), hts (.selects RX0 yX0_exists yX0_exists) (by decide +kernel)⟩ ⟨fbS, va_recv hK hPc (ci := 0) (q0 := 0) rfl rfl, pS_at hPc hk⟩ rfl rfl hl.1 rfl (lv_room (Nat.le_of_ble_eq_true rfl)) dX5_busiest_4 ⟨show 0 ≤ 0 by decide, show 0 ≤ 0 by decide⟩)) (fun r1 hr1 => ?_)
  obtain rfl : r1 = 0 := hr1
  refine lv_if_ne (tgt := 13) hx hb dX5_busiest_7 (by decide) (fun c9 => absurd (by decide) c9) (fun _ => ?_)
  refine lv_bipush (v := (-2)) hx hb dX5_busiest_10 (by decide) ?_
  exact W.iret (v := (-2)) hx hb hr (fun t ht _ => ⟨(-2), rfl, rfl, ht⟩) (fun _ h => by cases h) dX5_busiest_12

set_option maxHeartbeats 4000000 in
set_option maxRecDepth 100000 in
theorem kx_mutual (l : Launch) (D : va_G) (cI cZ cB cJ cR : ClassId) (h : Nat) (x n q : Nat → Nat)  : Met l yX5_mutual wsX5_mutual ({ frames := 1, cells := 0, slots := 0, locals := 20 }) (va_Pc [.ref h] (pS D cI cZ cB cJ cR [(h, .inr (5, [.ref (x 0), .ref (x 1), .ref (x 2), .ref (x 3), .ref (x 4), .ref (x 5), .ref (x 6), .ref (x 7)])), (x 6, .inr (0, [.ref (n 0), .int 0, .int 0, .int 0, .ref (n 4), .ref (n 5), .ref (n 6), .ref (n 7), .ref (n 8), .int 0, .ref (n 10), .ref (n 11), .ref (n 12), .ref (n 13)])), (n 0, .inl (cI, 7, .inl (fun _ => 0))), (x 1, .inr (3, [.ref (q 0), .ref (q 1), .ref (q 2), .ref (q 3)]))])) (vp_Si (fun r => r = (-2))) 0 0 (fun _ => False) := by
  refine Met.ofW (cc := cX5_mutual) (maxL := 4) (ret := (some .int)) (by decide) rfl ?_
  intro p e s m args below meth c s₁ B hml hv
  obtain ⟨rfl, hP, hk⟩ := hv
  have hK := hk.1
  have hz := hk.2.1
  have hx := B.exec
  have hb := B.bytes
  have hr := B.returns
  have hts := atoms_spec (ws := wsX5_mutual) B.pre
  have hown : s.vm.findClass RX5 = some m.cls := findClass_of_methodNamed B.named
  have hlocks := B.notSynchronized
  have hi5 : ∀ w ∈ wsX50, w ∈ wsX5_mutual := by decide +kernel
  have hl := lv_entry ([.ref h]) (n := 4) (Nat.le_of_ble_eq_true rfl)
  rw [lg_entry_eq]
  generalize (lg_sl ([.ref h]) ++ List.replicate (4 - (lg_sl ([.ref h])).length) Slot.unset).toArray = ls at hl ⊢
  have hl : lv_has ls 4 [(0, .ref h)] := hl
  refine lv_aload_n hx hb dX5_mutual_0 rfl (lv_at hl 0 rfl) ?_
  refine va_get (D := D) (ci := 5) (v := .ref (x 6)) (C := RX5) (T := TX5) (N := 8) hx hb hts hi5 hown hK hP 0 rfl rfl 6 (by decide) (hts (.fieldLink RX5 48 "AlibiRota" "now" "LAlibiRota$City;") (by decide +kernel)) (fun _ h9 => h9) rfl dX5_mutual_1 ?_
  have hPc := hP.sub (ws' := [(x 6, .inr (0, [.ref (n 0), .int 0, .int 0, .int 0, .ref (n 4), .ref (n 5), .ref (n 6), .ref (n 7), .ref (n 8), .int 0, .ref (n 10), .ref (n 11), .ref (n 12), .ref (n 13)]))]) [1] rfl
  refine vp_callSi (va_Run.run (va_runVN (As := []) (rest := []) ⟨hx, hb, hml, hown, hts⟩ (k_exists l D cI cZ cB cJ cR (x 6) n ) ⟨va_cnB 0 hts ggX5_mutual_X0_exists rfl rfl rfl (hz _ zw_RX5_115) (hts (.initialized RX0) (by decide +kernel)) (by decide +kernel) ⟨Nat.le_of_ble_eq_true rfl, Nat.le_of_ble_eq_true rfl⟩, hts (.instanceMethod yX0_exists) (by decide +kernel), hts (.selects RX0 yX0_exists yX0_exists) (by decide +kernel)⟩ ⟨fbS, va_recv hK hPc (ci := 0) (q0 := 0) rfl rfl, pS_at hPc hk⟩ rfl rfl hl.1 rfl (lv_room (Nat.le_of_ble_eq_true rfl)) dX5_mutual_4 ⟨show 0 ≤ 0 by decide, show 0 ≤ 0 by decide⟩)) (fun r1 hr1 => ?_)
  obtain rfl : r1 = 0 := hr1
  refine lv_if_ne (tgt := 13) hx hb dX5_mutual_7 (by decide) (fun c9 => absurd (by decide) c9) (fun _ => ?_)
  refine lv_bipush (v := (-2)) hx hb dX5_mutual_10 (by decide) ?_
  exact W.iret (v := (-2)) hx hb hr (fun t ht _ => ⟨(-2), rfl, rfl, ht⟩) (fun _ h => by cases h) dX5_mutual_12

set_option maxHeartbeats 4000000 in
set_option maxRecDepth 100000 in
theorem kx_homebody (l : Launch) (D : va_G) (cI cZ cB cJ cR : ClassId) (h : Nat) (x n q : Nat → Nat)  : Met l yX5_homebody wsX5_homebody ({ frames := 1, cells := 0, slots := 0, locals := 20 }) (va_Pc [.ref h] (pS D cI cZ cB cJ cR [(h, .inr (5, [.ref (x 0), .ref (x 1), .ref (x 2), .ref (x 3), .ref (x 4), .ref (x 5), .ref (x 6), .ref (x 7)])), (x 6, .inr (0, [.ref (n 0), .int 0, .int 0, .int 0, .ref (n 4), .ref (n 5), .ref (n 6), .ref (n 7), .ref (n 8), .int 0, .ref (n 10), .ref (n 11), .ref (n 12), .ref (n 13)])), (n 0, .inl (cI, 7, .inl (fun _ => 0))), (x 1, .inr (3, [.ref (q 0), .ref (q 1), .ref (q 2), .ref (q 3)]))])) (vp_Si (fun r => r = (-2))) 0 0 (fun _ => False) := by
  refine Met.ofW (cc := cX5_homebody) (maxL := 5) (ret := (some .int)) (by decide) rfl ?_
  intro p e s m args below meth c s₁ B hml hv
  obtain ⟨rfl, hP, hk⟩ := hv
  have hK := hk.1
  have hz := hk.2.1
  have hx := B.exec
  have hb := B.bytes
  have hr := B.returns
  have hts := atoms_spec (ws := wsX5_homebody) B.pre
  have hown : s.vm.findClass RX5 = some m.cls := findClass_of_methodNamed B.named
  have hlocks := B.notSynchronized
  have hi5 : ∀ w ∈ wsX50, w ∈ wsX5_homebody := by decide +kernel
  have hl := lv_entry ([.ref h]) (n := 5) (Nat.le_of_ble_eq_true rfl)
  rw [lg_entry_eq]
  generalize (lg_sl ([.ref h]) ++ List.replicate (5 - (lg_sl ([.ref h])).length) Slot.unset).toArray = ls at hl ⊢
  have hl : lv_has ls 5 [(0, .ref h)] := hl
  refine lv_aload_n hx hb dX5_homebody_0 rfl (lv_at hl 0 rfl) ?_
  refine va_get (D := D) (ci := 5) (v := .ref (x 6)) (C := RX5) (T := TX5) (N := 8) hx hb hts hi5 hown hK hP 0 rfl rfl 6 (by decide) (hts (.fieldLink RX5 48 "AlibiRota" "now" "LAlibiRota$City;") (by decide +kernel)) (fun _ h9 => h9) rfl dX5_homebody_1 ?_
  have hPc := hP.sub (ws' := [(x 6, .inr (0, [.ref (n 0), .int 0, .int 0, .int 0, .ref (n 4), .ref (n 5), .ref (n 6), .ref (n 7), .ref (n 8), .int 0, .ref (n 10), .ref (n 11), .ref (n 12), .ref (n 13)]))]) [1] rfl
  refine vp_callSi (va_Run.run (va_runVN (As := []) (rest := []) ⟨hx, hb, hml, hown, hts⟩ (k_exists l D cI cZ cB cJ cR (x 6) n ) ⟨va_cnB 0 hts ggX5_homebody_X0_exists rfl rfl rfl (hz _ zw_RX5_115) (hts (.initialized RX0) (by decide +kernel)) (by decide +kernel) ⟨Nat.le_of_ble_eq_true rfl, Nat.le_of_ble_eq_true rfl⟩, hts (.instanceMethod yX0_exists) (by decide +kernel), hts (.selects RX0 yX0_exists yX0_exists) (by decide +kernel)⟩ ⟨fbS, va_recv hK hPc (ci := 0) (q0 := 0) rfl rfl, pS_at hPc hk⟩ rfl rfl hl.1 rfl (lv_room (Nat.le_of_ble_eq_true rfl)) dX5_homebody_4 ⟨show 0 ≤ 0 by decide, show 0 ≤ 0 by decide⟩)) (fun r1 hr1 => ?_)
  obtain rfl : r1 = 0 := hr1
  refine lv_if_ne (tgt := 13) hx hb dX5_homebody_7 (by decide) (fun c9 => absurd (by decide) c9) (fun _ => ?_)
  refine lv_bipush (v := (-2)) hx hb dX5_homebody_10 (by decide) ?_
  exact W.iret (v := (-2)) hx hb hr (fun t ht _ => ⟨(-2), rfl, rfl, ht⟩) (fun _ h => by cases h) dX5_homebody_12

set_option maxHeartbeats 4000000 in
set_option maxRecDepth 100000 in
theorem kx_extra (l : Launch) (D : va_G) (cI cZ cB cJ cR : ClassId) (h : Nat) (x n q : Nat → Nat)  : Met l yX5_extra wsX5_extra ({ frames := 1, cells := 0, slots := 0, locals := 20 }) (va_Pc [.ref h] (pS D cI cZ cB cJ cR [(h, .inr (5, [.ref (x 0), .ref (x 1), .ref (x 2), .ref (x 3), .ref (x 4), .ref (x 5), .ref (x 6), .ref (x 7)])), (x 6, .inr (0, [.ref (n 0), .int 0, .int 0, .int 0, .ref (n 4), .ref (n 5), .ref (n 6), .ref (n 7), .ref (n 8), .int 0, .ref (n 10), .ref (n 11), .ref (n 12), .ref (n 13)])), (n 0, .inl (cI, 7, .inl (fun _ => 0))), (x 1, .inr (3, [.ref (q 0), .ref (q 1), .ref (q 2), .ref (q 3)]))])) (vp_Si (fun r => r = (-2))) 0 0 (fun _ => False) := by
  refine Met.ofW (cc := cX5_extra) (maxL := 6) (ret := (some .int)) (by decide) rfl ?_
  intro p e s m args below meth c s₁ B hml hv
  obtain ⟨rfl, hP, hk⟩ := hv
  have hK := hk.1
  have hz := hk.2.1
  have hx := B.exec
  have hb := B.bytes
  have hr := B.returns
  have hts := atoms_spec (ws := wsX5_extra) B.pre
  have hown : s.vm.findClass RX5 = some m.cls := findClass_of_methodNamed B.named
  have hlocks := B.notSynchronized
  have hi5 : ∀ w ∈ wsX50, w ∈ wsX5_extra := by decide +kernel
  have hl := lv_entry ([.ref h]) (n := 6) (Nat.le_of_ble_eq_true rfl)
  rw [lg_entry_eq]
  generalize (lg_sl ([.ref h]) ++ List.replicate (6 - (lg_sl ([.ref h])).length) Slot.unset).toArray = ls at hl ⊢
  have hl : lv_has ls 6 [(0, .ref h)] := hl
  refine lv_aload_n hx hb dX5_extra_0 rfl (lv_at hl 0 rfl) ?_
  refine va_get (D := D) (ci := 5) (v := .ref (x 6)) (C := RX5) (T := TX5) (N := 8) hx hb hts hi5 hown hK hP 0 rfl rfl 6 (by decide) (hts (.fieldLink RX5 48 "AlibiRota" "now" "LAlibiRota$City;") (by decide +kernel)) (fun _ h9 => h9) rfl dX5_extra_1 ?_
  have hPc := hP.sub (ws' := [(x 6, .inr (0, [.ref (n 0), .int 0, .int 0, .int 0, .ref (n 4), .ref (n 5), .ref (n 6), .ref (n 7), .ref (n 8), .int 0, .ref (n 10), .ref (n 11), .ref (n 12), .ref (n 13)]))]) [1] rfl
  refine vp_callSi (va_Run.run (va_runVN (As := []) (rest := []) ⟨hx, hb, hml, hown, hts⟩ (k_exists l D cI cZ cB cJ cR (x 6) n ) ⟨va_cnB 0 hts ggX5_extra_X0_exists rfl rfl rfl (hz _ zw_RX5_115) (hts (.initialized RX0) (by decide +kernel)) (by decide +kernel) ⟨Nat.le_of_ble_eq_true rfl, Nat.le_of_ble_eq_true rfl⟩, hts (.instanceMethod yX0_exists) (by decide +kernel), hts (.selects RX0 yX0_exists yX0_exists) (by decide +kernel)⟩ ⟨fbS, va_recv hK hPc (ci := 0) (q0 := 0) rfl rfl, pS_at hPc hk⟩ rfl rfl hl.1 rfl (lv_room (Nat.le_of_ble_eq_true rfl)) dX5_extra_4 ⟨show 0 ≤ 0 by decide, show 0 ≤ 0 by decide⟩)) (fun r1 hr1 => ?_)
  obtain rfl : r1 = 0 := hr1
  refine lv_if_ne (tgt := 13) hx hb dX5_extra_7 (by decide) (fun c9 => absurd (by decide) c9) (fun _ => ?_)
  refine lv_bipush (v := (-2)) hx hb dX5_extra_10 (by decide) ?_
  exact W.iret (v := (-2)) hx hb hr (fun t ht _ => ⟨(-2), rfl, rfl, ht⟩) (fun _ h => by cases h) dX5_extra_12

set_option maxHeartbeats 4000000 in
set_option maxRecDepth 100000 in
theorem kx_tied (l : Launch) (D : va_G) (cI cZ cB cJ cR : ClassId) (h : Nat) (x n q : Nat → Nat) (p0 : Int32) (p1 : Int32) : Met l yX5_tied wsX5_tied ({ frames := 2, cells := 0, slots := 0, locals := 46 }) (va_Pc [.ref h, .int p0, .int p1] (pS D cI cZ cB cJ cR [(h, .inr (5, [.ref (x 0), .ref (x 1), .ref (x 2), .ref (x 3), .ref (x 4), .ref (x 5), .ref (x 6), .ref (x 7)])), (x 6, .inr (0, [.ref (n 0), .int 0, .int 0, .int 0, .ref (n 4), .ref (n 5), .ref (n 6), .ref (n 7), .ref (n 8), .int 0, .ref (n 10), .ref (n 11), .ref (n 12), .ref (n 13)])), (n 0, .inl (cI, 7, .inl (fun _ => 0))), (x 1, .inr (3, [.ref (q 0), .ref (q 1), .ref (q 2), .ref (q 3)]))])) (vp_Si (fun r => r = (-2))) 0 0 (fun _ => False) := by
  refine Met.ofW (cc := cX5_tied) (maxL := 3) (ret := (some .int)) (by decide) rfl ?_
  intro p e s m args below meth c s₁ B hml hv
  obtain ⟨rfl, hP, hk⟩ := hv
  have hK := hk.1
  have hz := hk.2.1
  have hx := B.exec
  have hb := B.bytes
  have hr := B.returns
  have hts := atoms_spec (ws := wsX5_tied) B.pre
  have hown : s.vm.findClass RX5 = some m.cls := findClass_of_methodNamed B.named
  have hlocks := B.notSynchronized
  have hi5 : ∀ w ∈ wsX50, w ∈ wsX5_tied := by decide +kernel
  have hl := lv_entry ([.ref h, .int p0, .int p1]) (n := 3) (Nat.le_of_ble_eq_true rfl)
  rw [lg_entry_eq]
  generalize (lg_sl ([.ref h, .int p0, .int p1]) ++ List.replicate (3 - (lg_sl ([.ref h, .int p0, .int p1])).length) Slot.unset).toArray = ls at hl ⊢
  have hl : lv_has ls 3 [(0, .ref h), (1, .int p0), (2, .int p1)] := hl
  refine lv_aload_n hx hb dX5_tied_0 rfl (lv_at hl 0 rfl) ?_
  refine va_get (D := D) (ci := 5) (v := .ref (x 6)) (C := RX5) (T := TX5) (N := 8) hx hb hts hi5 hown hK hP 0 rfl rfl 6 (by decide) (hts (.fieldLink RX5 48 "AlibiRota" "now" "LAlibiRota$City;") (by decide +kernel)) (fun _ h9 => h9) rfl dX5_tied_1 ?_
  refine lv_iload_n hx hb dX5_tied_4 rfl (lv_at hl 1 rfl) ?_
  refine lv_i2l (v := p0.toInt64) hx hb dX5_tied_5 rfl ?_
  refine lv_iload_n hx hb dX5_tied_6 rfl (lv_at hl 2 rfl) ?_
  refine lv_i2l (v := p1.toInt64) hx hb dX5_tied_7 rfl ?_
  have hPc := hP.sub (ws' := [(x 6, .inr (0, [.ref (n 0), .int 0, .int 0, .int 0, .ref (n 4), .ref (n 5), .ref (n 6), .ref (n 7), .ref (n 8), .int 0, .ref (n 10), .ref (n 11), .ref (n 12), .ref (n 13)]))]) [1] rfl
  refine vp_callSi (va_Run.run (va_runVN (As := [.long p0.toInt64, .long p1.toInt64]) (rest := []) ⟨hx, hb, hml, hown, hts⟩ (k_isPair l D cI cZ cB cJ cR (x 6) n p0.toInt64 p1.toInt64) ⟨va_cnB 2 hts ggX5_tied_X0_isPair rfl rfl rfl (hz _ zw_RX5_179) (hts (.initialized RX0) (by decide +kernel)) (by decide +kernel) ⟨Nat.le_of_ble_eq_true rfl, Nat.le_of_ble_eq_true rfl⟩, hts (.instanceMethod yX0_isPair) (by decide +kernel), hts (.selects RX0 yX0_isPair yX0_isPair) (by decide +kernel)⟩ ⟨fbS, va_recv hK hPc (ci := 0) (q0 := 0) rfl rfl, pS_at hPc hk⟩ rfl rfl hl.1 rfl (lv_room (Nat.le_of_ble_eq_true rfl)) dX5_tied_8 ⟨show 0 ≤ 0 by decide, show 0 ≤ 0 by decide⟩)) (fun r1 hr1 => ?_)
  obtain rfl : r1 = 0 := hr1
  refine lv_if_ne (tgt := 17) hx hb dX5_tied_11 (by decide) (fun c9 => absurd (by decide) c9) (fun _ => ?_)
  refine lv_bipush (v := (-2)) hx hb dX5_tied_14 (by decide) ?_
  exact W.iret (v := (-2)) hx hb hr (fun t ht _ => ⟨(-2), rfl, rfl, ht⟩) (fun _ h => by cases h) dX5_tied_16

set_option maxHeartbeats 4000000 in
set_option maxRecDepth 100000 in
theorem kx_ties (l : Launch) (D : va_G) (cI cZ cB cJ cR : ClassId) (h : Nat) (x n q : Nat → Nat) (p0 : Int32) (p1 : Int32) (p2 : Int32) : Met l yX5_ties wsX5_ties ({ frames := 2, cells := 0, slots := 0, locals := 46 }) (va_Pc [.ref h, .int p0, .int p1, .int p2] (pS D cI cZ cB cJ cR [(h, .inr (5, [.ref (x 0), .ref (x 1), .ref (x 2), .ref (x 3), .ref (x 4), .ref (x 5), .ref (x 6), .ref (x 7)])), (x 6, .inr (0, [.ref (n 0), .int 0, .int 0, .int 0, .ref (n 4), .ref (n 5), .ref (n 6), .ref (n 7), .ref (n 8), .int 0, .ref (n 10), .ref (n 11), .ref (n 12), .ref (n 13)])), (n 0, .inl (cI, 7, .inl (fun _ => 0))), (x 1, .inr (3, [.ref (q 0), .ref (q 1), .ref (q 2), .ref (q 3)]))])) (vp_Si (fun r => r = (-2))) 0 0 (fun _ => False) := by
  refine Met.ofW (cc := cX5_ties) (maxL := 4) (ret := (some .int)) (by decide) rfl ?_
  intro p e s m args below meth c s₁ B hml hv
  obtain ⟨rfl, hP, hk⟩ := hv
  have hK := hk.1
  have hz := hk.2.1
  have hx := B.exec
  have hb := B.bytes
  have hr := B.returns
  have hts := atoms_spec (ws := wsX5_ties) B.pre
  have hown : s.vm.findClass RX5 = some m.cls := findClass_of_methodNamed B.named
  have hlocks := B.notSynchronized
  have hi5 : ∀ w ∈ wsX50, w ∈ wsX5_ties := by decide +kernel
  have hl := lv_entry ([.ref h, .int p0, .int p1, .int p2]) (n := 4) (Nat.le_of_ble_eq_true rfl)
  rw [lg_entry_eq]
  generalize (lg_sl ([.ref h, .int p0, .int p1, .int p2]) ++ List.replicate (4 - (lg_sl ([.ref h, .int p0, .int p1, .int p2])).length) Slot.unset).toArray = ls at hl ⊢
  have hl : lv_has ls 4 [(0, .ref h), (1, .int p0), (2, .int p1), (3, .int p2)] := hl
  refine lv_aload_n hx hb dX5_ties_0 rfl (lv_at hl 0 rfl) ?_
  refine va_get (D := D) (ci := 5) (v := .ref (x 6)) (C := RX5) (T := TX5) (N := 8) hx hb hts hi5 hown hK hP 0 rfl rfl 6 (by decide) (hts (.fieldLink RX5 48 "AlibiRota" "now" "LAlibiRota$City;") (by decide +kernel)) (fun _ h9 => h9) rfl dX5_ties_1 ?_
  refine lv_iload_n hx hb dX5_ties_4 rfl (lv_at hl 1 rfl) ?_
  refine lv_i2l (v := p0.toInt64) hx hb dX5_ties_5 rfl ?_
  refine lv_iload_n hx hb dX5_ties_6 rfl (lv_at hl 2 rfl) ?_
  refine lv_i2l (v := p1.toInt64) hx hb dX5_ties_7 rfl ?_
  have hPc := hP.sub (ws' := [(x 6, .inr (0, [.ref (n 0), .int 0, .int 0, .int 0, .ref (n 4), .ref (n 5), .ref (n 6), .ref (n 7), .ref (n 8), .int 0, .ref (n 10), .ref (n 11), .ref (n 12), .ref (n 13)]))]) [1] rfl
  refine vp_callSi (va_Run.run (va_runVN (As := [.long p0.toInt64, .long p1.toInt64]) (rest := []) ⟨hx, hb, hml, hown, hts⟩ (k_isPair l D cI cZ cB cJ cR (x 6) n p0.toInt64 p1.toInt64) ⟨va_cnB 2 hts ggX5_ties_X0_isPair rfl rfl rfl (hz _ zw_RX5_179) (hts (.initialized RX0) (by decide +kernel)) (by decide +kernel) ⟨Nat.le_of_ble_eq_true rfl, Nat.le_of_ble_eq_true rfl⟩, hts (.instanceMethod yX0_isPair) (by decide +kernel), hts (.selects RX0 yX0_isPair yX0_isPair) (by decide +kernel)⟩ ⟨fbS, va_recv hK hPc (ci := 0) (q0 := 0) rfl rfl, pS_at hPc hk⟩ rfl rfl hl.1 rfl (lv_room (Nat.le_of_ble_eq_true rfl)) dX5_ties_8 ⟨show 0 ≤ 0 by decide, show 0 ≤ 0 by decide⟩)) (fun r1 hr1 => ?_)
  obtain rfl : r1 = 0 := hr1
  refine lv_if_eq (tgt := 26) hx hb dX5_ties_11 (by decide) (fun _ => ?_) (fun c9 => absurd (by decide) c9)
  refine lv_bipush (v := (-2)) hx hb dX5_ties_26 (by decide) ?_
  exact W.iret (v := (-2)) hx hb hr (fun t ht _ => ⟨(-2), rfl, rfl, ht⟩) (fun _ h => by cases h) dX5_ties_28

set_option maxHeartbeats 4000000 in
set_option maxRecDepth 100000 in
theorem kx_steps (l : Launch) (D : va_G) (cI cZ cB cJ cR : ClassId) (h : Nat) (x n q : Nat → Nat) (p0 : Int32) (p1 : Int32) : Met l yX5_steps wsX5_steps ({ frames := 2, cells := 0, slots := 0, locals := 46 }) (va_Pc [.ref h, .int p0, .int p1] (pS D cI cZ cB cJ cR [(h, .inr (5, [.ref (x 0), .ref (x 1), .ref (x 2), .ref (x 3), .ref (x 4), .ref (x 5), .ref (x 6), .ref (x 7)])), (x 6, .inr (0, [.ref (n 0), .int 0, .int 0, .int 0, .ref (n 4), .ref (n 5), .ref (n 6), .ref (n 7), .ref (n 8), .int 0, .ref (n 10), .ref (n 11), .ref (n 12), .ref (n 13)])), (n 0, .inl (cI, 7, .inl (fun _ => 0))), (x 1, .inr (3, [.ref (q 0), .ref (q 1), .ref (q 2), .ref (q 3)]))])) (vp_Si (fun r => r = (-2))) 0 0 (fun _ => False) := by
  refine Met.ofW (cc := cX5_steps) (maxL := 3) (ret := (some .int)) (by decide) rfl ?_
  intro p e s m args below meth c s₁ B hml hv
  obtain ⟨rfl, hP, hk⟩ := hv
  have hK := hk.1
  have hz := hk.2.1
  have hx := B.exec
  have hb := B.bytes
  have hr := B.returns
  have hts := atoms_spec (ws := wsX5_steps) B.pre
  have hown : s.vm.findClass RX5 = some m.cls := findClass_of_methodNamed B.named
  have hlocks := B.notSynchronized
  have hi5 : ∀ w ∈ wsX50, w ∈ wsX5_steps := by decide +kernel
  have hl := lv_entry ([.ref h, .int p0, .int p1]) (n := 3) (Nat.le_of_ble_eq_true rfl)
  rw [lg_entry_eq]
  generalize (lg_sl ([.ref h, .int p0, .int p1]) ++ List.replicate (3 - (lg_sl ([.ref h, .int p0, .int p1])).length) Slot.unset).toArray = ls at hl ⊢
  have hl : lv_has ls 3 [(0, .ref h), (1, .int p0), (2, .int p1)] := hl
  refine lv_aload_n hx hb dX5_steps_0 rfl (lv_at hl 0 rfl) ?_
  refine va_get (D := D) (ci := 5) (v := .ref (x 6)) (C := RX5) (T := TX5) (N := 8) hx hb hts hi5 hown hK hP 0 rfl rfl 6 (by decide) (hts (.fieldLink RX5 48 "AlibiRota" "now" "LAlibiRota$City;") (by decide +kernel)) (fun _ h9 => h9) rfl dX5_steps_1 ?_
  refine lv_iload_n hx hb dX5_steps_4 rfl (lv_at hl 1 rfl) ?_
  refine lv_i2l (v := p0.toInt64) hx hb dX5_steps_5 rfl ?_
  refine lv_iload_n hx hb dX5_steps_6 rfl (lv_at hl 2 rfl) ?_
  refine lv_i2l (v := p1.toInt64) hx hb dX5_steps_7 rfl ?_
  have hPc := hP.sub (ws' := [(x 6, .inr (0, [.ref (n 0), .int 0, .int 0, .int 0, .ref (n 4), .ref (n 5), .ref (n 6), .ref (n 7), .ref (n 8), .int 0, .ref (n 10), .ref (n 11), .ref (n 12), .ref (n 13)]))]) [1] rfl
  refine vp_callSi (va_Run.run (va_runVN (As := [.long p0.toInt64, .long p1.toInt64]) (rest := []) ⟨hx, hb, hml, hown, hts⟩ (k_isPair l D cI cZ cB cJ cR (x 6) n p0.toInt64 p1.toInt64) ⟨va_cnB 2 hts ggX5_steps_X0_isPair rfl rfl rfl (hz _ zw_RX5_179) (hts (.initialized RX0) (by decide +kernel)) (by decide +kernel) ⟨Nat.le_of_ble_eq_true rfl, Nat.le_of_ble_eq_true rfl⟩, hts (.instanceMethod yX0_isPair) (by decide +kernel), hts (.selects RX0 yX0_isPair yX0_isPair) (by decide +kernel)⟩ ⟨fbS, va_recv hK hPc (ci := 0) (q0 := 0) rfl rfl, pS_at hPc hk⟩ rfl rfl hl.1 rfl (lv_room (Nat.le_of_ble_eq_true rfl)) dX5_steps_8 ⟨show 0 ≤ 0 by decide, show 0 ≤ 0 by decide⟩)) (fun r1 hr1 => ?_)
  obtain rfl : r1 = 0 := hr1
  refine lv_if_ne (tgt := 17) hx hb dX5_steps_11 (by decide) (fun c9 => absurd (by decide) c9) (fun _ => ?_)
  refine lv_bipush (v := (-2)) hx hb dX5_steps_14 (by decide) ?_
  exact W.iret (v := (-2)) hx hb hr (fun t ht _ => ⟨(-2), rfl, rfl, ht⟩) (fun _ h => by cases h) dX5_steps_16

set_option maxHeartbeats 4000000 in
set_option maxRecDepth 100000 in
theorem kx_deeds (l : Launch) (D : va_G) (cI cZ cB cJ cR : ClassId) (h : Nat) (x n q : Nat → Nat) (p0 : Int32) (p1 : Int32) : Met l yX5_deeds wsX5_deeds ({ frames := 1, cells := 0, slots := 0, locals := 22 }) (va_Pc [.ref h, .int p0, .int p1] (pS D cI cZ cB cJ cR [(h, .inr (5, [.ref (x 0), .ref (x 1), .ref (x 2), .ref (x 3), .ref (x 4), .ref (x 5), .ref (x 6), .ref (x 7)])), (x 6, .inr (0, [.ref (n 0), .int 0, .int 0, .int 0, .ref (n 4), .ref (n 5), .ref (n 6), .ref (n 7), .ref (n 8), .int 0, .ref (n 10), .ref (n 11), .ref (n 12), .ref (n 13)])), (n 0, .inl (cI, 7, .inl (fun _ => 0))), (x 1, .inr (3, [.ref (q 0), .ref (q 1), .ref (q 2), .ref (q 3)]))])) (vp_Si (fun r => r = (-2))) 0 0 (fun _ => False) := by
  refine Met.ofW (cc := cX5_deeds) (maxL := 3) (ret := (some .int)) (by decide) rfl ?_
  intro p e s m args below meth c s₁ B hml hv
  obtain ⟨rfl, hP, hk⟩ := hv
  have hK := hk.1
  have hz := hk.2.1
  have hx := B.exec
  have hb := B.bytes
  have hr := B.returns
  have hts := atoms_spec (ws := wsX5_deeds) B.pre
  have hown : s.vm.findClass RX5 = some m.cls := findClass_of_methodNamed B.named
  have hlocks := B.notSynchronized
  have hi5 : ∀ w ∈ wsX50, w ∈ wsX5_deeds := by decide +kernel
  have hl := lv_entry ([.ref h, .int p0, .int p1]) (n := 3) (Nat.le_of_ble_eq_true rfl)
  rw [lg_entry_eq]
  generalize (lg_sl ([.ref h, .int p0, .int p1]) ++ List.replicate (3 - (lg_sl ([.ref h, .int p0, .int p1])).length) Slot.unset).toArray = ls at hl ⊢
  have hl : lv_has ls 3 [(0, .ref h), (1, .int p0), (2, .int p1)] := hl
  refine lv_aload_n hx hb dX5_deeds_0 rfl (lv_at hl 0 rfl) ?_
  refine va_get (D := D) (ci := 5) (v := .ref (x 6)) (C := RX5) (T := TX5) (N := 8) hx hb hts hi5 hown hK hP 0 rfl rfl 6 (by decide) (hts (.fieldLink RX5 48 "AlibiRota" "now" "LAlibiRota$City;") (by decide +kernel)) (fun _ h9 => h9) rfl dX5_deeds_1 ?_
  refine lv_iload_n hx hb dX5_deeds_4 rfl (lv_at hl 1 rfl) ?_
  refine lv_i2l (v := p0.toInt64) hx hb dX5_deeds_5 rfl ?_
  have hPc := hP.sub (ws' := [(x 6, .inr (0, [.ref (n 0), .int 0, .int 0, .int 0, .ref (n 4), .ref (n 5), .ref (n 6), .ref (n 7), .ref (n 8), .int 0, .ref (n 10), .ref (n 11), .ref (n 12), .ref (n 13)]))]) [1] rfl
  refine vp_callSi (va_Run.run (va_runVN (As := [.long p0.toInt64]) (rest := []) ⟨hx, hb, hml, hown, hts⟩ (k_isPerson l D cI cZ cB cJ cR (x 6) n p0.toInt64) ⟨va_cnB 1 hts ggX5_deeds_X0_isPerson rfl rfl rfl (hz _ zw_RX5_83) (hts (.initialized RX0) (by decide +kernel)) (by decide +kernel) ⟨Nat.le_of_ble_eq_true rfl, Nat.le_of_ble_eq_true rfl⟩, hts (.instanceMethod yX0_isPerson) (by decide +kernel), hts (.selects RX0 yX0_isPerson yX0_isPerson) (by decide +kernel)⟩ ⟨fbS, va_recv hK hPc (ci := 0) (q0 := 0) rfl rfl, pS_at hPc hk⟩ rfl rfl hl.1 rfl (lv_room (Nat.le_of_ble_eq_true rfl)) dX5_deeds_6 ⟨show 0 ≤ 0 by decide, show 0 ≤ 0 by decide⟩)) (fun r1 hr1 => ?_)
  obtain rfl : r1 = 0 := hr1
  refine lv_if_eq (tgt := 24) hx hb dX5_deeds_9 (by decide) (fun _ => ?_) (fun c9 => absurd (by decide) c9)
  refine lv_bipush (v := (-2)) hx hb dX5_deeds_24 (by decide) ?_
  exact W.iret (v := (-2)) hx hb hr (fun t ht _ => ⟨(-2), rfl, rfl, ht⟩) (fun _ h => by cases h) dX5_deeds_26

set_option maxHeartbeats 4000000 in
set_option maxRecDepth 100000 in
theorem kx_can (l : Launch) (D : va_G) (cI cZ cB cJ cR : ClassId) (h : Nat) (x n q : Nat → Nat) (p0 : Int32) (p1 : Int32) : Met l yX5_can wsX5_can ({ frames := 2, cells := 0, slots := 0, locals := 42 }) (va_Pc [.ref h, .int p0, .int p1] (pS D cI cZ cB cJ cR [(h, .inr (5, [.ref (x 0), .ref (x 1), .ref (x 2), .ref (x 3), .ref (x 4), .ref (x 5), .ref (x 6), .ref (x 7)])), (x 6, .inr (0, [.ref (n 0), .int 0, .int 0, .int 0, .ref (n 4), .ref (n 5), .ref (n 6), .ref (n 7), .ref (n 8), .int 0, .ref (n 10), .ref (n 11), .ref (n 12), .ref (n 13)])), (n 0, .inl (cI, 7, .inl (fun _ => 0))), (x 1, .inr (3, [.ref (q 0), .ref (q 1), .ref (q 2), .ref (q 3)]))])) (vp_Si (fun r => r = (-2))) 0 0 (fun _ => False) := by
  refine Met.ofW (cc := cX5_can) (maxL := 3) (ret := (some .int)) (by decide) rfl ?_
  intro p e s m args below meth c s₁ B hml hv
  obtain ⟨rfl, hP, hk⟩ := hv
  have hK := hk.1
  have hz := hk.2.1
  have hx := B.exec
  have hb := B.bytes
  have hr := B.returns
  have hts := atoms_spec (ws := wsX5_can) B.pre
  have hown : s.vm.findClass RX5 = some m.cls := findClass_of_methodNamed B.named
  have hlocks := B.notSynchronized
  have hi5 : ∀ w ∈ wsX50, w ∈ wsX5_can := by decide +kernel
  have hl := lv_entry ([.ref h, .int p0, .int p1]) (n := 3) (Nat.le_of_ble_eq_true rfl)
  rw [lg_entry_eq]
  generalize (lg_sl ([.ref h, .int p0, .int p1]) ++ List.replicate (3 - (lg_sl ([.ref h, .int p0, .int p1])).length) Slot.unset).toArray = ls at hl ⊢
  have hl : lv_has ls 3 [(0, .ref h), (1, .int p0), (2, .int p1)] := hl
  refine lv_aload_n hx hb dX5_can_0 rfl (lv_at hl 0 rfl) ?_
  refine va_get (D := D) (ci := 5) (v := .ref (x 6)) (C := RX5) (T := TX5) (N := 8) hx hb hts hi5 hown hK hP 0 rfl rfl 6 (by decide) (hts (.fieldLink RX5 48 "AlibiRota" "now" "LAlibiRota$City;") (by decide +kernel)) (fun _ h9 => h9) rfl dX5_can_1 ?_
  refine lv_iload_n hx hb dX5_can_4 rfl (lv_at hl 1 rfl) ?_
  refine lv_i2l (v := p0.toInt64) hx hb dX5_can_5 rfl ?_
  have hPc := hP.sub (ws' := [(x 6, .inr (0, [.ref (n 0), .int 0, .int 0, .int 0, .ref (n 4), .ref (n 5), .ref (n 6), .ref (n 7), .ref (n 8), .int 0, .ref (n 10), .ref (n 11), .ref (n 12), .ref (n 13)])), (n 0, .inl (cI, 7, .inl (fun _ => 0)))]) [1, 2] rfl
  refine vp_callSi (va_Run.run (va_runVN (As := [.long p0.toInt64]) (rest := []) ⟨hx, hb, hml, hown, hts⟩ (k_isPlace l D cI cZ cB cJ cR (x 6) n p0.toInt64) ⟨va_cnB 1 hts ggX5_can_X0_isPlace rfl rfl rfl (hz _ zw_RX5_186) (hts (.initialized RX0) (by decide +kernel)) (by decide +kernel) ⟨Nat.le_of_ble_eq_true rfl, Nat.le_of_ble_eq_true rfl⟩, hts (.instanceMethod yX0_isPlace) (by decide +kernel), hts (.selects RX0 yX0_isPlace yX0_isPlace) (by decide +kernel)⟩ ⟨fbS, va_recv hK hPc (ci := 0) (q0 := 0) rfl rfl, pS_at hPc hk⟩ rfl rfl hl.1 rfl (lv_room (Nat.le_of_ble_eq_true rfl)) dX5_can_6 ⟨show 0 ≤ 0 by decide, show 0 ≤ 0 by decide⟩)) (fun r1 hr1 => ?_)
  obtain rfl : r1 = 0 := hr1
  refine lv_if_eq (tgt := 36) hx hb dX5_can_9 (by decide) (fun _ => ?_) (fun c9 => absurd (by decide) c9)
  refine lv_bipush (v := (-2)) hx hb dX5_can_36 (by decide) ?_
  exact W.iret (v := (-2)) hx hb hr (fun t ht _ => ⟨(-2), rfl, rfl, ht⟩) (fun _ h => by cases h) dX5_can_38

set_option maxHeartbeats 4000000 in
set_option maxRecDepth 100000 in
theorem kx_safe (l : Launch) (D : va_G) (cI cZ cB cJ cR : ClassId) (h : Nat) (x n q : Nat → Nat)  : Met l yX5_safe wsX5_safe ({ frames := 1, cells := 0, slots := 0, locals := 20 }) (va_Pc [.ref h] (pS D cI cZ cB cJ cR [(h, .inr (5, [.ref (x 0), .ref (x 1), .ref (x 2), .ref (x 3), .ref (x 4), .ref (x 5), .ref (x 6), .ref (x 7)])), (x 6, .inr (0, [.ref (n 0), .int 0, .int 0, .int 0, .ref (n 4), .ref (n 5), .ref (n 6), .ref (n 7), .ref (n 8), .int 0, .ref (n 10), .ref (n 11), .ref (n 12), .ref (n 13)])), (n 0, .inl (cI, 7, .inl (fun _ => 0))), (x 1, .inr (3, [.ref (q 0), .ref (q 1), .ref (q 2), .ref (q 3)]))])) (vp_Si (fun r => r = (-2))) 0 0 (fun _ => False) := by
  refine Met.ofW (cc := cX5_safe) (maxL := 3) (ret := (some .int)) (by decide) rfl ?_
  intro p e s m args below meth c s₁ B hml hv
  obtain ⟨rfl, hP, hk⟩ := hv
  have hK := hk.1
  have hz := hk.2.1
  have hx := B.exec
  have hb := B.bytes
  have hr := B.returns
  have hts := atoms_spec (ws := wsX5_safe) B.pre
  have hown : s.vm.findClass RX5 = some m.cls := findClass_of_methodNamed B.named
  have hlocks := B.notSynchronized
  have hi5 : ∀ w ∈ wsX50, w ∈ wsX5_safe := by decide +kernel
  have hl := lv_entry ([.ref h]) (n := 3) (Nat.le_of_ble_eq_true rfl)
  rw [lg_entry_eq]
  generalize (lg_sl ([.ref h]) ++ List.replicate (3 - (lg_sl ([.ref h])).length) Slot.unset).toArray = ls at hl ⊢
  have hl : lv_has ls 3 [(0, .ref h)] := hl
  refine lv_aload_n hx hb dX5_safe_0 rfl (lv_at hl 0 rfl) ?_
  refine va_get (D := D) (ci := 5) (v := .ref (x 6)) (C := RX5) (T := TX5) (N := 8) hx hb hts hi5 hown hK hP 0 rfl rfl 6 (by decide) (hts (.fieldLink RX5 48 "AlibiRota" "now" "LAlibiRota$City;") (by decide +kernel)) (fun _ h9 => h9) rfl dX5_safe_1 ?_
  have hPc := hP.sub (ws' := [(x 6, .inr (0, [.ref (n 0), .int 0, .int 0, .int 0, .ref (n 4), .ref (n 5), .ref (n 6), .ref (n 7), .ref (n 8), .int 0, .ref (n 10), .ref (n 11), .ref (n 12), .ref (n 13)]))]) [1] rfl
  refine vp_callSi (va_Run.run (va_runVN (As := []) (rest := []) ⟨hx, hb, hml, hown, hts⟩ (k_exists l D cI cZ cB cJ cR (x 6) n ) ⟨va_cnB 0 hts ggX5_safe_X0_exists rfl rfl rfl (hz _ zw_RX5_115) (hts (.initialized RX0) (by decide +kernel)) (by decide +kernel) ⟨Nat.le_of_ble_eq_true rfl, Nat.le_of_ble_eq_true rfl⟩, hts (.instanceMethod yX0_exists) (by decide +kernel), hts (.selects RX0 yX0_exists yX0_exists) (by decide +kernel)⟩ ⟨fbS, va_recv hK hPc (ci := 0) (q0 := 0) rfl rfl, pS_at hPc hk⟩ rfl rfl hl.1 rfl (lv_room (Nat.le_of_ble_eq_true rfl)) dX5_safe_4 ⟨show 0 ≤ 0 by decide, show 0 ≤ 0 by decide⟩)) (fun r1 hr1 => ?_)
  obtain rfl : r1 = 0 := hr1
  refine lv_if_ne (tgt := 13) hx hb dX5_safe_7 (by decide) (fun c9 => absurd (by decide) c9) (fun _ => ?_)
  refine lv_bipush (v := (-2)) hx hb dX5_safe_10 (by decide) ?_
  exact W.iret (v := (-2)) hx hb hr (fun t ht _ => ⟨(-2), rfl, rfl, ht⟩) (fun _ h => by cases h) dX5_safe_12

set_option maxHeartbeats 4000000 in
set_option maxRecDepth 100000 in
theorem kx_guard (l : Launch) (D : va_G) (cI cZ cB cJ cR : ClassId) (h : Nat) (x n q : Nat → Nat) (p0 : Int32) (p1 : Int32) : Met l yX5_guard wsX5_guard ({ frames := 1, cells := 0, slots := 0, locals := 22 }) (va_Pc [.ref h, .int p0, .int p1] (pS D cI cZ cB cJ cR [(h, .inr (5, [.ref (x 0), .ref (x 1), .ref (x 2), .ref (x 3), .ref (x 4), .ref (x 5), .ref (x 6), .ref (x 7)])), (x 6, .inr (0, [.ref (n 0), .int 0, .int 0, .int 0, .ref (n 4), .ref (n 5), .ref (n 6), .ref (n 7), .ref (n 8), .int 0, .ref (n 10), .ref (n 11), .ref (n 12), .ref (n 13)])), (n 0, .inl (cI, 7, .inl (fun _ => 0))), (x 1, .inr (3, [.ref (q 0), .ref (q 1), .ref (q 2), .ref (q 3)]))])) (vp_Si (fun r => r = (-2))) 0 0 (fun _ => False) := by
  refine Met.ofW (cc := cX5_guard) (maxL := 6) (ret := (some .int)) (by decide) rfl ?_
  intro p e s m args below meth c s₁ B hml hv
  obtain ⟨rfl, hP, hk⟩ := hv
  have hK := hk.1
  have hz := hk.2.1
  have hx := B.exec
  have hb := B.bytes
  have hr := B.returns
  have hts := atoms_spec (ws := wsX5_guard) B.pre
  have hown : s.vm.findClass RX5 = some m.cls := findClass_of_methodNamed B.named
  have hlocks := B.notSynchronized
  have hi5 : ∀ w ∈ wsX50, w ∈ wsX5_guard := by decide +kernel
  have hl := lv_entry ([.ref h, .int p0, .int p1]) (n := 6) (Nat.le_of_ble_eq_true rfl)
  rw [lg_entry_eq]
  generalize (lg_sl ([.ref h, .int p0, .int p1]) ++ List.replicate (6 - (lg_sl ([.ref h, .int p0, .int p1])).length) Slot.unset).toArray = ls at hl ⊢
  have hl : lv_has ls 6 [(0, .ref h), (1, .int p0), (2, .int p1)] := hl
  refine lv_aload_n hx hb dX5_guard_0 rfl (lv_at hl 0 rfl) ?_
  refine va_get (D := D) (ci := 5) (v := .ref (x 6)) (C := RX5) (T := TX5) (N := 8) hx hb hts hi5 hown hK hP 0 rfl rfl 6 (by decide) (hts (.fieldLink RX5 48 "AlibiRota" "now" "LAlibiRota$City;") (by decide +kernel)) (fun _ h9 => h9) rfl dX5_guard_1 ?_
  refine lv_iload_n hx hb dX5_guard_4 rfl (lv_at hl 1 rfl) ?_
  refine lv_i2l (v := p0.toInt64) hx hb dX5_guard_5 rfl ?_
  have hPc := hP.sub (ws' := [(x 6, .inr (0, [.ref (n 0), .int 0, .int 0, .int 0, .ref (n 4), .ref (n 5), .ref (n 6), .ref (n 7), .ref (n 8), .int 0, .ref (n 10), .ref (n 11), .ref (n 12), .ref (n 13)]))]) [1] rfl
  refine vp_callSi (va_Run.run (va_runVN (As := [.long p0.toInt64]) (rest := []) ⟨hx, hb, hml, hown, hts⟩ (k_isPerson l D cI cZ cB cJ cR (x 6) n p0.toInt64) ⟨va_cnB 1 hts ggX5_guard_X0_isPerson rfl rfl rfl (hz _ zw_RX5_83) (hts (.initialized RX0) (by decide +kernel)) (by decide +kernel) ⟨Nat.le_of_ble_eq_true rfl, Nat.le_of_ble_eq_true rfl⟩, hts (.instanceMethod yX0_isPerson) (by decide +kernel), hts (.selects RX0 yX0_isPerson yX0_isPerson) (by decide +kernel)⟩ ⟨fbS, va_recv hK hPc (ci := 0) (q0 := 0) rfl rfl, pS_at hPc hk⟩ rfl rfl hl.1 rfl (lv_room (Nat.le_of_ble_eq_true rfl)) dX5_guard_6 ⟨show 0 ≤ 0 by decide, show 0 ≤ 0 by decide⟩)) (fun r1 hr1 => ?_)
  obtain rfl : r1 = 0 := hr1
  refine lv_if_eq (tgt := 24) hx hb dX5_guard_9 (by decide) (fun _ => ?_) (fun c9 => absurd (by decide) c9)
  refine lv_bipush (v := (-2)) hx hb dX5_guard_24 (by decide) ?_
  exact W.iret (v := (-2)) hx hb hr (fun t ht _ => ⟨(-2), rfl, rfl, ht⟩) (fun _ h => by cases h) dX5_guard_26

set_option maxHeartbeats 4000000 in
set_option maxRecDepth 100000 in
theorem kx_guards (l : Launch) (D : va_G) (cI cZ cB cJ cR : ClassId) (h : Nat) (x n q : Nat → Nat) (p0 : Int32) : Met l yX5_guards wsX5_guards ({ frames := 1, cells := 0, slots := 0, locals := 22 }) (va_Pc [.ref h, .int p0] (pS D cI cZ cB cJ cR [(h, .inr (5, [.ref (x 0), .ref (x 1), .ref (x 2), .ref (x 3), .ref (x 4), .ref (x 5), .ref (x 6), .ref (x 7)])), (x 6, .inr (0, [.ref (n 0), .int 0, .int 0, .int 0, .ref (n 4), .ref (n 5), .ref (n 6), .ref (n 7), .ref (n 8), .int 0, .ref (n 10), .ref (n 11), .ref (n 12), .ref (n 13)])), (n 0, .inl (cI, 7, .inl (fun _ => 0))), (x 1, .inr (3, [.ref (q 0), .ref (q 1), .ref (q 2), .ref (q 3)]))])) (vp_Si (fun r => r = (-2))) 0 0 (fun _ => False) := by
  refine Met.ofW (cc := cX5_guards) (maxL := 3) (ret := (some .int)) (by decide) rfl ?_
  intro p e s m args below meth c s₁ B hml hv
  obtain ⟨rfl, hP, hk⟩ := hv
  have hK := hk.1
  have hz := hk.2.1
  have hx := B.exec
  have hb := B.bytes
  have hr := B.returns
  have hts := atoms_spec (ws := wsX5_guards) B.pre
  have hown : s.vm.findClass RX5 = some m.cls := findClass_of_methodNamed B.named
  have hlocks := B.notSynchronized
  have hi5 : ∀ w ∈ wsX50, w ∈ wsX5_guards := by decide +kernel
  have hl := lv_entry ([.ref h, .int p0]) (n := 3) (Nat.le_of_ble_eq_true rfl)
  rw [lg_entry_eq]
  generalize (lg_sl ([.ref h, .int p0]) ++ List.replicate (3 - (lg_sl ([.ref h, .int p0])).length) Slot.unset).toArray = ls at hl ⊢
  have hl : lv_has ls 3 [(0, .ref h), (1, .int p0)] := hl
  refine lv_aload_n hx hb dX5_guards_0 rfl (lv_at hl 0 rfl) ?_
  refine va_get (D := D) (ci := 5) (v := .ref (x 6)) (C := RX5) (T := TX5) (N := 8) hx hb hts hi5 hown hK hP 0 rfl rfl 6 (by decide) (hts (.fieldLink RX5 48 "AlibiRota" "now" "LAlibiRota$City;") (by decide +kernel)) (fun _ h9 => h9) rfl dX5_guards_1 ?_
  refine lv_iload_n hx hb dX5_guards_4 rfl (lv_at hl 1 rfl) ?_
  refine lv_i2l (v := p0.toInt64) hx hb dX5_guards_5 rfl ?_
  have hPc := hP.sub (ws' := [(x 6, .inr (0, [.ref (n 0), .int 0, .int 0, .int 0, .ref (n 4), .ref (n 5), .ref (n 6), .ref (n 7), .ref (n 8), .int 0, .ref (n 10), .ref (n 11), .ref (n 12), .ref (n 13)]))]) [1] rfl
  refine vp_callSi (va_Run.run (va_runVN (As := [.long p0.toInt64]) (rest := []) ⟨hx, hb, hml, hown, hts⟩ (k_isPerson l D cI cZ cB cJ cR (x 6) n p0.toInt64) ⟨va_cnB 1 hts ggX5_guards_X0_isPerson rfl rfl rfl (hz _ zw_RX5_83) (hts (.initialized RX0) (by decide +kernel)) (by decide +kernel) ⟨Nat.le_of_ble_eq_true rfl, Nat.le_of_ble_eq_true rfl⟩, hts (.instanceMethod yX0_isPerson) (by decide +kernel), hts (.selects RX0 yX0_isPerson yX0_isPerson) (by decide +kernel)⟩ ⟨fbS, va_recv hK hPc (ci := 0) (q0 := 0) rfl rfl, pS_at hPc hk⟩ rfl rfl hl.1 rfl (lv_room (Nat.le_of_ble_eq_true rfl)) dX5_guards_6 ⟨show 0 ≤ 0 by decide, show 0 ≤ 0 by decide⟩)) (fun r1 hr1 => ?_)
  obtain rfl : r1 = 0 := hr1
  refine lv_if_ne (tgt := 15) hx hb dX5_guards_9 (by decide) (fun c9 => absurd (by decide) c9) (fun _ => ?_)
  refine lv_bipush (v := (-2)) hx hb dX5_guards_12 (by decide) ?_
  exact W.iret (v := (-2)) hx hb hr (fun t ht _ => ⟨(-2), rfl, rfl, ht⟩) (fun _ h => by cases h) dX5_guards_14

set_option maxHeartbeats 4000000 in
set_option maxRecDepth 100000 in
theorem kx_guarded (l : Launch) (D : va_G) (cI cZ cB cJ cR : ClassId) (h : Nat) (x n q : Nat → Nat) (p0 : Int32) : Met l yX5_guarded wsX5_guarded ({ frames := 1, cells := 0, slots := 0, locals := 22 }) (va_Pc [.ref h, .int p0] (pS D cI cZ cB cJ cR [(h, .inr (5, [.ref (x 0), .ref (x 1), .ref (x 2), .ref (x 3), .ref (x 4), .ref (x 5), .ref (x 6), .ref (x 7)])), (x 6, .inr (0, [.ref (n 0), .int 0, .int 0, .int 0, .ref (n 4), .ref (n 5), .ref (n 6), .ref (n 7), .ref (n 8), .int 0, .ref (n 10), .ref (n 11), .ref (n 12), .ref (n 13)])), (n 0, .inl (cI, 7, .inl (fun _ => 0))), (x 1, .inr (3, [.ref (q 0), .ref (q 1), .ref (q 2), .ref (q 3)]))])) (vp_Si (fun r => r = (-2))) 0 0 (fun _ => False) := by
  refine Met.ofW (cc := cX5_guarded) (maxL := 2) (ret := (some .int)) (by decide) rfl ?_
  intro p e s m args below meth c s₁ B hml hv
  obtain ⟨rfl, hP, hk⟩ := hv
  have hK := hk.1
  have hz := hk.2.1
  have hx := B.exec
  have hb := B.bytes
  have hr := B.returns
  have hts := atoms_spec (ws := wsX5_guarded) B.pre
  have hown : s.vm.findClass RX5 = some m.cls := findClass_of_methodNamed B.named
  have hlocks := B.notSynchronized
  have hi5 : ∀ w ∈ wsX50, w ∈ wsX5_guarded := by decide +kernel
  have hl := lv_entry ([.ref h, .int p0]) (n := 2) (Nat.le_of_ble_eq_true rfl)
  rw [lg_entry_eq]
  generalize (lg_sl ([.ref h, .int p0]) ++ List.replicate (2 - (lg_sl ([.ref h, .int p0])).length) Slot.unset).toArray = ls at hl ⊢
  have hl : lv_has ls 2 [(0, .ref h), (1, .int p0)] := hl
  refine lv_aload_n hx hb dX5_guarded_0 rfl (lv_at hl 0 rfl) ?_
  refine va_get (D := D) (ci := 5) (v := .ref (x 6)) (C := RX5) (T := TX5) (N := 8) hx hb hts hi5 hown hK hP 0 rfl rfl 6 (by decide) (hts (.fieldLink RX5 48 "AlibiRota" "now" "LAlibiRota$City;") (by decide +kernel)) (fun _ h9 => h9) rfl dX5_guarded_1 ?_
  refine lv_iload_n hx hb dX5_guarded_4 rfl (lv_at hl 1 rfl) ?_
  refine lv_i2l (v := p0.toInt64) hx hb dX5_guarded_5 rfl ?_
  have hPc := hP.sub (ws' := [(x 6, .inr (0, [.ref (n 0), .int 0, .int 0, .int 0, .ref (n 4), .ref (n 5), .ref (n 6), .ref (n 7), .ref (n 8), .int 0, .ref (n 10), .ref (n 11), .ref (n 12), .ref (n 13)]))]) [1] rfl
  refine vp_callSi (va_Run.run (va_runVN (As := [.long p0.toInt64]) (rest := []) ⟨hx, hb, hml, hown, hts⟩ (k_isPerson l D cI cZ cB cJ cR (x 6) n p0.toInt64) ⟨va_cnB 1 hts ggX5_guarded_X0_isPerson rfl rfl rfl (hz _ zw_RX5_83) (hts (.initialized RX0) (by decide +kernel)) (by decide +kernel) ⟨Nat.le_of_ble_eq_true rfl, Nat.le_of_ble_eq_true rfl⟩, hts (.instanceMethod yX0_isPerson) (by decide +kernel), hts (.selects RX0 yX0_isPerson yX0_isPerson) (by decide +kernel)⟩ ⟨fbS, va_recv hK hPc (ci := 0) (q0 := 0) rfl rfl, pS_at hPc hk⟩ rfl rfl hl.1 rfl (lv_room (Nat.le_of_ble_eq_true rfl)) dX5_guarded_6 ⟨show 0 ≤ 0 by decide, show 0 ≤ 0 by decide⟩)) (fun r1 hr1 => ?_)
  obtain rfl : r1 = 0 := hr1
  refine lv_if_eq (tgt := 23) hx hb dX5_guarded_9 (by decide) (fun _ => ?_) (fun c9 => absurd (by decide) c9)
  refine lv_bipush (v := (-2)) hx hb dX5_guarded_23 (by decide) ?_
  exact W.iret (v := (-2)) hx hb hr (fun t ht _ => ⟨(-2), rfl, rfl, ht⟩) (fun _ h => by cases h) dX5_guarded_25

set_option maxHeartbeats 4000000 in
set_option maxRecDepth 100000 in
theorem kx_who (l : Launch) (D : va_G) (cI cZ cB cJ cR : ClassId) (h : Nat) (x n q : Nat → Nat) (p0 : Int32) : Met l yX5_who wsX5_who ({ frames := 3, cells := 0, slots := 0, locals := 66 }) (va_Pc [.ref h, .int p0] (pS D cI cZ cB cJ cR [(h, .inr (5, [.ref (x 0), .ref (x 1), .ref (x 2), .ref (x 3), .ref (x 4), .ref (x 5), .ref (x 6), .ref (x 7)])), (x 6, .inr (0, [.ref (n 0), .int 0, .int 0, .int 0, .ref (n 4), .ref (n 5), .ref (n 6), .ref (n 7), .ref (n 8), .int 0, .ref (n 10), .ref (n 11), .ref (n 12), .ref (n 13)])), (n 0, .inl (cI, 7, .inl (fun _ => 0))), (x 1, .inr (3, [.ref (q 0), .ref (q 1), .ref (q 2), .ref (q 3)]))])) (vp_Si (fun r => r = (-2))) 0 0 (fun _ => False) := by
  refine Met.ofW (cc := cX5_who) (maxL := 3) (ret := (some .int)) (by decide) rfl ?_
  intro p e s m args below meth c s₁ B hml hv
  obtain ⟨rfl, hP, hk⟩ := hv
  have hK := hk.1
  have hz := hk.2.1
  have hx := B.exec
  have hb := B.bytes
  have hr := B.returns
  have hts := atoms_spec (ws := wsX5_who) B.pre
  have hown : s.vm.findClass RX5 = some m.cls := findClass_of_methodNamed B.named
  have hlocks := B.notSynchronized
  have hl := lv_entry ([.ref h, .int p0]) (n := 3) (Nat.le_of_ble_eq_true rfl)
  rw [lg_entry_eq]
  generalize (lg_sl ([.ref h, .int p0]) ++ List.replicate (3 - (lg_sl ([.ref h, .int p0])).length) Slot.unset).toArray = ls at hl ⊢
  have hl : lv_has ls 3 [(0, .ref h), (1, .int p0)] := hl
  refine lv_aload_n hx hb dX5_who_0 rfl (lv_at hl 0 rfl) ?_
  refine lv_iload_n hx hb dX5_who_1 rfl (lv_at hl 1 rfl) ?_
  have hPc := hP.sub (ws' := [(h, .inr (5, [.ref (x 0), .ref (x 1), .ref (x 2), .ref (x 3), .ref (x 4), .ref (x 5), .ref (x 6), .ref (x 7)])), (x 6, .inr (0, [.ref (n 0), .int 0, .int 0, .int 0, .ref (n 4), .ref (n 5), .ref (n 6), .ref (n 7), .ref (n 8), .int 0, .ref (n 10), .ref (n 11), .ref (n 12), .ref (n 13)])), (n 0, .inl (cI, 7, .inl (fun _ => 0))), (x 1, .inr (3, [.ref (q 0), .ref (q 1), .ref (q 2), .ref (q 3)]))]) [0, 1, 2, 3] rfl
  refine vp_callSi (va_Run.run (va_runV (As := [.int p0]) (rest := []) ⟨hx, hb, hml, hown, hts⟩ (k_refuseDeeds l D cI cZ cB cJ cR h x n q p0) (cwV 1 hts gX5_who_X5_refuseDeeds rfl rfl rfl (by decide +kernel) ⟨Nat.le_of_ble_eq_true rfl, Nat.le_of_ble_eq_true rfl⟩) ⟨fbS, va_recv hK hPc (ci := 5) (q0 := 0) rfl rfl, pS_at hPc hk⟩ rfl rfl hl.1 rfl (lv_room (Nat.le_of_ble_eq_true rfl)) dX5_who_2 ⟨show 0 ≤ 0 by decide, show 0 ≤ 0 by decide⟩)) (fun r1 hr1 => ?_)
  obtain rfl : r1 = (-2) := hr1
  refine lv_istore_n (lv' := [(2, .int (-2)), (0, .ref h), (1, .int p0)]) hx hb dX5_who_5 rfl hl (by decide) rfl (fun ls hl => ?_)
  refine lv_iload_n hx hb dX5_who_6 rfl (lv_at hl 0 rfl) ?_
  refine lv_if_eq (tgt := 14) hx hb dX5_who_7 (by decide) (fun c9 => absurd c9 (by decide)) (fun _ => ?_)
  refine lv_iload_n hx hb dX5_who_10 rfl (lv_at hl 0 rfl) ?_
  refine lv_goto (tgt := 19) hx hb dX5_who_11 (by decide) ?_
  exact W.iret (v := (-2)) hx hb hr (fun t ht _ => ⟨(-2), rfl, rfl, ht⟩) (fun _ h => by cases h) dX5_who_19

set_option maxHeartbeats 4000000 in
set_option maxRecDepth 100000 in
theorem kx_ask (l : Launch) (D : va_G) (cI cZ cB cJ cR : ClassId) (h : Nat) (x n q : Nat → Nat) (p0 : Int32) : Met l yX5_ask wsX5_ask ({ frames := 3, cells := 0, slots := 0, locals := 66 }) (va_Pc [.ref h, .int p0] (pS D cI cZ cB cJ cR [(h, .inr (5, [.ref (x 0), .ref (x 1), .ref (x 2), .ref (x 3), .ref (x 4), .ref (x 5), .ref (x 6), .ref (x 7)])), (x 6, .inr (0, [.ref (n 0), .int 0, .int 0, .int 0, .ref (n 4), .ref (n 5), .ref (n 6), .ref (n 7), .ref (n 8), .int 0, .ref (n 10), .ref (n 11), .ref (n 12), .ref (n 13)])), (n 0, .inl (cI, 7, .inl (fun _ => 0))), (x 1, .inr (3, [.ref (q 0), .ref (q 1), .ref (q 2), .ref (q 3)]))])) (vp_Si (fun r => r = (-2))) 0 0 (fun _ => False) := by
  refine Met.ofW (cc := cX5_ask) (maxL := 3) (ret := (some .int)) (by decide) rfl ?_
  intro p e s m args below meth c s₁ B hml hv
  obtain ⟨rfl, hP, hk⟩ := hv
  have hK := hk.1
  have hz := hk.2.1
  have hx := B.exec
  have hb := B.bytes
  have hr := B.returns
  have hts := atoms_spec (ws := wsX5_ask) B.pre
  have hown : s.vm.findClass RX5 = some m.cls := findClass_of_methodNamed B.named
  have hlocks := B.notSynchronized
  have hl := lv_entry ([.ref h, .int p0]) (n := 3) (Nat.le_of_ble_eq_true rfl)
  rw [lg_entry_eq]
  generalize (lg_sl ([.ref h, .int p0]) ++ List.replicate (3 - (lg_sl ([.ref h, .int p0])).length) Slot.unset).toArray = ls at hl ⊢
  have hl : lv_has ls 3 [(0, .ref h), (1, .int p0)] := hl
  refine lv_aload_n hx hb dX5_ask_0 rfl (lv_at hl 0 rfl) ?_
  refine lv_iload_n hx hb dX5_ask_1 rfl (lv_at hl 1 rfl) ?_
  have hPc := hP.sub (ws' := [(h, .inr (5, [.ref (x 0), .ref (x 1), .ref (x 2), .ref (x 3), .ref (x 4), .ref (x 5), .ref (x 6), .ref (x 7)])), (x 6, .inr (0, [.ref (n 0), .int 0, .int 0, .int 0, .ref (n 4), .ref (n 5), .ref (n 6), .ref (n 7), .ref (n 8), .int 0, .ref (n 10), .ref (n 11), .ref (n 12), .ref (n 13)])), (n 0, .inl (cI, 7, .inl (fun _ => 0))), (x 1, .inr (3, [.ref (q 0), .ref (q 1), .ref (q 2), .ref (q 3)]))]) [0, 1, 2, 3] rfl
  refine vp_callSi (va_Run.run (va_runV (As := [.int p0]) (rest := []) ⟨hx, hb, hml, hown, hts⟩ (k_refuseDeeds l D cI cZ cB cJ cR h x n q p0) (cwV 1 hts gX5_ask_X5_refuseDeeds rfl rfl rfl (by decide +kernel) ⟨Nat.le_of_ble_eq_true rfl, Nat.le_of_ble_eq_true rfl⟩) ⟨fbS, va_recv hK hPc (ci := 5) (q0 := 0) rfl rfl, pS_at hPc hk⟩ rfl rfl hl.1 rfl (lv_room (Nat.le_of_ble_eq_true rfl)) dX5_ask_2 ⟨show 0 ≤ 0 by decide, show 0 ≤ 0 by decide⟩)) (fun r1 hr1 => ?_)
  obtain rfl : r1 = (-2) := hr1
  refine lv_istore_n (lv' := [(2, .int (-2)), (0, .ref h), (1, .int p0)]) hx hb dX5_ask_5 rfl hl (by decide) rfl (fun ls hl => ?_)
  refine lv_iload_n hx hb dX5_ask_6 rfl (lv_at hl 0 rfl) ?_
  refine lv_if_eq (tgt := 14) hx hb dX5_ask_7 (by decide) (fun c9 => absurd c9 (by decide)) (fun _ => ?_)
  refine lv_iload_n hx hb dX5_ask_10 rfl (lv_at hl 0 rfl) ?_
  refine lv_goto (tgt := 19) hx hb dX5_ask_11 (by decide) ?_
  exact W.iret (v := (-2)) hx hb hr (fun t ht _ => ⟨(-2), rfl, rfl, ht⟩) (fun _ h => by cases h) dX5_ask_19

set_option maxHeartbeats 4000000 in
set_option maxRecDepth 100000 in
theorem kx_leaves (l : Launch) (D : va_G) (cI cZ cB cJ cR : ClassId) (h : Nat) (x n q : Nat → Nat) (p0 : Int32) : Met l yX5_leaves wsX5_leaves ({ frames := 3, cells := 0, slots := 0, locals := 66 }) (va_Pc [.ref h, .int p0] (pS D cI cZ cB cJ cR [(h, .inr (5, [.ref (x 0), .ref (x 1), .ref (x 2), .ref (x 3), .ref (x 4), .ref (x 5), .ref (x 6), .ref (x 7)])), (x 6, .inr (0, [.ref (n 0), .int 0, .int 0, .int 0, .ref (n 4), .ref (n 5), .ref (n 6), .ref (n 7), .ref (n 8), .int 0, .ref (n 10), .ref (n 11), .ref (n 12), .ref (n 13)])), (n 0, .inl (cI, 7, .inl (fun _ => 0))), (x 1, .inr (3, [.ref (q 0), .ref (q 1), .ref (q 2), .ref (q 3)]))])) (vp_Si (fun r => r = (-2))) 0 0 (fun _ => False) := by
  refine Met.ofW (cc := cX5_leaves) (maxL := 5) (ret := (some .int)) (by decide) rfl ?_
  intro p e s m args below meth c s₁ B hml hv
  obtain ⟨rfl, hP, hk⟩ := hv
  have hK := hk.1
  have hz := hk.2.1
  have hx := B.exec
  have hb := B.bytes
  have hr := B.returns
  have hts := atoms_spec (ws := wsX5_leaves) B.pre
  have hown : s.vm.findClass RX5 = some m.cls := findClass_of_methodNamed B.named
  have hlocks := B.notSynchronized
  have hl := lv_entry ([.ref h, .int p0]) (n := 5) (Nat.le_of_ble_eq_true rfl)
  rw [lg_entry_eq]
  generalize (lg_sl ([.ref h, .int p0]) ++ List.replicate (5 - (lg_sl ([.ref h, .int p0])).length) Slot.unset).toArray = ls at hl ⊢
  have hl : lv_has ls 5 [(0, .ref h), (1, .int p0)] := hl
  refine lv_aload_n hx hb dX5_leaves_0 rfl (lv_at hl 0 rfl) ?_
  refine lv_iload_n hx hb dX5_leaves_1 rfl (lv_at hl 1 rfl) ?_
  have hPc := hP.sub (ws' := [(h, .inr (5, [.ref (x 0), .ref (x 1), .ref (x 2), .ref (x 3), .ref (x 4), .ref (x 5), .ref (x 6), .ref (x 7)])), (x 6, .inr (0, [.ref (n 0), .int 0, .int 0, .int 0, .ref (n 4), .ref (n 5), .ref (n 6), .ref (n 7), .ref (n 8), .int 0, .ref (n 10), .ref (n 11), .ref (n 12), .ref (n 13)])), (n 0, .inl (cI, 7, .inl (fun _ => 0))), (x 1, .inr (3, [.ref (q 0), .ref (q 1), .ref (q 2), .ref (q 3)]))]) [0, 1, 2, 3] rfl
  refine vp_callSi (va_Run.run (va_runV (As := [.int p0]) (rest := []) ⟨hx, hb, hml, hown, hts⟩ (k_refuseDeeds l D cI cZ cB cJ cR h x n q p0) (cwV 1 hts gX5_leaves_X5_refuseDeeds rfl rfl rfl (by decide +kernel) ⟨Nat.le_of_ble_eq_true rfl, Nat.le_of_ble_eq_true rfl⟩) ⟨fbS, va_recv hK hPc (ci := 5) (q0 := 0) rfl rfl, pS_at hPc hk⟩ rfl rfl hl.1 rfl (lv_room (Nat.le_of_ble_eq_true rfl)) dX5_leaves_2 ⟨show 0 ≤ 0 by decide, show 0 ≤ 0 by decide⟩)) (fun r1 hr1 => ?_)
  obtain rfl : r1 = (-2) := hr1
  refine lv_istore_n (lv' := [(2, .int (-2)), (0, .ref h), (1, .int p0)]) hx hb dX5_leaves_5 rfl hl (by decide) rfl (fun ls hl => ?_)
  refine lv_iload_n hx hb dX5_leaves_6 rfl (lv_at hl 0 rfl) ?_
  refine lv_if_eq (tgt := 12) hx hb dX5_leaves_7 (by decide) (fun c9 => absurd c9 (by decide)) (fun _ => ?_)
  refine lv_iload_n hx hb dX5_leaves_10 rfl (lv_at hl 0 rfl) ?_
  exact W.iret (v := (-2)) hx hb hr (fun t ht _ => ⟨(-2), rfl, rfl, ht⟩) (fun _ h => by cases h) dX5_leaves_11

set_option maxHeartbeats 4000000 in
set_option maxRecDepth 100000 in
theorem kx_lies (l : Launch) (D : va_G) (cI cZ cB cJ cR : ClassId) (h : Nat) (x n q : Nat → Nat) (p0 : Int32) : Met l yX5_lies wsX5_lies ({ frames := 3, cells := 0, slots := 0, locals := 66 }) (va_Pc [.ref h, .int p0] (pS D cI cZ cB cJ cR [(h, .inr (5, [.ref (x 0), .ref (x 1), .ref (x 2), .ref (x 3), .ref (x 4), .ref (x 5), .ref (x 6), .ref (x 7)])), (x 6, .inr (0, [.ref (n 0), .int 0, .int 0, .int 0, .ref (n 4), .ref (n 5), .ref (n 6), .ref (n 7), .ref (n 8), .int 0, .ref (n 10), .ref (n 11), .ref (n 12), .ref (n 13)])), (n 0, .inl (cI, 7, .inl (fun _ => 0))), (x 1, .inr (3, [.ref (q 0), .ref (q 1), .ref (q 2), .ref (q 3)]))])) (vp_Si (fun r => r = (-2))) 0 0 (fun _ => False) := by
  refine Met.ofW (cc := cX5_lies) (maxL := 5) (ret := (some .int)) (by decide) rfl ?_
  intro p e s m args below meth c s₁ B hml hv
  obtain ⟨rfl, hP, hk⟩ := hv
  have hK := hk.1
  have hz := hk.2.1
  have hx := B.exec
  have hb := B.bytes
  have hr := B.returns
  have hts := atoms_spec (ws := wsX5_lies) B.pre
  have hown : s.vm.findClass RX5 = some m.cls := findClass_of_methodNamed B.named
  have hlocks := B.notSynchronized
  have hl := lv_entry ([.ref h, .int p0]) (n := 5) (Nat.le_of_ble_eq_true rfl)
  rw [lg_entry_eq]
  generalize (lg_sl ([.ref h, .int p0]) ++ List.replicate (5 - (lg_sl ([.ref h, .int p0])).length) Slot.unset).toArray = ls at hl ⊢
  have hl : lv_has ls 5 [(0, .ref h), (1, .int p0)] := hl
  refine lv_aload_n hx hb dX5_lies_0 rfl (lv_at hl 0 rfl) ?_
  refine lv_iload_n hx hb dX5_lies_1 rfl (lv_at hl 1 rfl) ?_
  have hPc := hP.sub (ws' := [(h, .inr (5, [.ref (x 0), .ref (x 1), .ref (x 2), .ref (x 3), .ref (x 4), .ref (x 5), .ref (x 6), .ref (x 7)])), (x 6, .inr (0, [.ref (n 0), .int 0, .int 0, .int 0, .ref (n 4), .ref (n 5), .ref (n 6), .ref (n 7), .ref (n 8), .int 0, .ref (n 10), .ref (n 11), .ref (n 12), .ref (n 13)])), (n 0, .inl (cI, 7, .inl (fun _ => 0))), (x 1, .inr (3, [.ref (q 0), .ref (q 1), .ref (q 2), .ref (q 3)]))]) [0, 1, 2, 3] rfl
  refine vp_callSi (va_Run.run (va_runV (As := [.int p0]) (rest := []) ⟨hx, hb, hml, hown, hts⟩ (k_refuseOaths l D cI cZ cB cJ cR h x n q p0) (cwV 1 hts gX5_lies_X5_refuseOaths rfl rfl rfl (by decide +kernel) ⟨Nat.le_of_ble_eq_true rfl, Nat.le_of_ble_eq_true rfl⟩) ⟨fbS, va_recv hK hPc (ci := 5) (q0 := 0) rfl rfl, pS_at hPc hk⟩ rfl rfl hl.1 rfl (lv_room (Nat.le_of_ble_eq_true rfl)) dX5_lies_2 ⟨show 0 ≤ 0 by decide, show 0 ≤ 0 by decide⟩)) (fun r1 hr1 => ?_)
  obtain rfl : r1 = (-2) := hr1
  refine lv_istore_n (lv' := [(2, .int (-2)), (0, .ref h), (1, .int p0)]) hx hb dX5_lies_5 rfl hl (by decide) rfl (fun ls hl => ?_)
  refine lv_iload_n hx hb dX5_lies_6 rfl (lv_at hl 0 rfl) ?_
  refine lv_if_eq (tgt := 12) hx hb dX5_lies_7 (by decide) (fun c9 => absurd c9 (by decide)) (fun _ => ?_)
  refine lv_iload_n hx hb dX5_lies_10 rfl (lv_at hl 0 rfl) ?_
  exact W.iret (v := (-2)) hx hb hr (fun t ht _ => ⟨(-2), rfl, rfl, ht⟩) (fun _ h => by cases h) dX5_lies_11

set_option maxHeartbeats 4000000 in
set_option maxRecDepth 100000 in
theorem kx_liars (l : Launch) (D : va_G) (cI cZ cB cJ cR : ClassId) (h : Nat) (x n q : Nat → Nat) (p0 : Int32) : Met l yX5_liars wsX5_liars ({ frames := 3, cells := 0, slots := 0, locals := 66 }) (va_Pc [.ref h, .int p0] (pS D cI cZ cB cJ cR [(h, .inr (5, [.ref (x 0), .ref (x 1), .ref (x 2), .ref (x 3), .ref (x 4), .ref (x 5), .ref (x 6), .ref (x 7)])), (x 6, .inr (0, [.ref (n 0), .int 0, .int 0, .int 0, .ref (n 4), .ref (n 5), .ref (n 6), .ref (n 7), .ref (n 8), .int 0, .ref (n 10), .ref (n 11), .ref (n 12), .ref (n 13)])), (n 0, .inl (cI, 7, .inl (fun _ => 0))), (x 1, .inr (3, [.ref (q 0), .ref (q 1), .ref (q 2), .ref (q 3)]))])) (vp_Si (fun r => r = (-2))) 0 0 (fun _ => False) := by
  refine Met.ofW (cc := cX5_liars) (maxL := 5) (ret := (some .int)) (by decide) rfl ?_
  intro p e s m args below meth c s₁ B hml hv
  obtain ⟨rfl, hP, hk⟩ := hv
  have hK := hk.1
  have hz := hk.2.1
  have hx := B.exec
  have hb := B.bytes
  have hr := B.returns
  have hts := atoms_spec (ws := wsX5_liars) B.pre
  have hown : s.vm.findClass RX5 = some m.cls := findClass_of_methodNamed B.named
  have hlocks := B.notSynchronized
  have hl := lv_entry ([.ref h, .int p0]) (n := 5) (Nat.le_of_ble_eq_true rfl)
  rw [lg_entry_eq]
  generalize (lg_sl ([.ref h, .int p0]) ++ List.replicate (5 - (lg_sl ([.ref h, .int p0])).length) Slot.unset).toArray = ls at hl ⊢
  have hl : lv_has ls 5 [(0, .ref h), (1, .int p0)] := hl
  refine lv_aload_n hx hb dX5_liars_0 rfl (lv_at hl 0 rfl) ?_
  refine lv_iload_n hx hb dX5_liars_1 rfl (lv_at hl 1 rfl) ?_
  have hPc := hP.sub (ws' := [(h, .inr (5, [.ref (x 0), .ref (x 1), .ref (x 2), .ref (x 3), .ref (x 4), .ref (x 5), .ref (x 6), .ref (x 7)])), (x 6, .inr (0, [.ref (n 0), .int 0, .int 0, .int 0, .ref (n 4), .ref (n 5), .ref (n 6), .ref (n 7), .ref (n 8), .int 0, .ref (n 10), .ref (n 11), .ref (n 12), .ref (n 13)])), (n 0, .inl (cI, 7, .inl (fun _ => 0))), (x 1, .inr (3, [.ref (q 0), .ref (q 1), .ref (q 2), .ref (q 3)]))]) [0, 1, 2, 3] rfl
  refine vp_callSi (va_Run.run (va_runV (As := [.int p0]) (rest := []) ⟨hx, hb, hml, hown, hts⟩ (k_refuseOaths l D cI cZ cB cJ cR h x n q p0) (cwV 1 hts gX5_liars_X5_refuseOaths rfl rfl rfl (by decide +kernel) ⟨Nat.le_of_ble_eq_true rfl, Nat.le_of_ble_eq_true rfl⟩) ⟨fbS, va_recv hK hPc (ci := 5) (q0 := 0) rfl rfl, pS_at hPc hk⟩ rfl rfl hl.1 rfl (lv_room (Nat.le_of_ble_eq_true rfl)) dX5_liars_2 ⟨show 0 ≤ 0 by decide, show 0 ≤ 0 by decide⟩)) (fun r1 hr1 => ?_)
  obtain rfl : r1 = (-2) := hr1
  refine lv_istore_n (lv' := [(2, .int (-2)), (0, .ref h), (1, .int p0)]) hx hb dX5_liars_5 rfl hl (by decide) rfl (fun ls hl => ?_)
  refine lv_iload_n hx hb dX5_liars_6 rfl (lv_at hl 0 rfl) ?_
  refine lv_if_eq (tgt := 12) hx hb dX5_liars_7 (by decide) (fun c9 => absurd c9 (by decide)) (fun _ => ?_)
  refine lv_iload_n hx hb dX5_liars_10 rfl (lv_at hl 0 rfl) ?_
  exact W.iret (v := (-2)) hx hb hr (fun t ht _ => ⟨(-2), rfl, rfl, ht⟩) (fun _ h => by cases h) dX5_liars_11

set_option maxHeartbeats 4000000 in
set_option maxRecDepth 100000 in
theorem kx_closed (l : Launch) (D : va_G) (cI cZ cB cJ cR : ClassId) (h : Nat) (x n q : Nat → Nat) (p0 : Int32) (p1 : Int32) : Met l yX5_closed wsX5_closed ({ frames := 1, cells := 0, slots := 0, locals := 22 }) (va_Pc [.ref h, .int p0, .int p1] (pS D cI cZ cB cJ cR [(h, .inr (5, [.ref (x 0), .ref (x 1), .ref (x 2), .ref (x 3), .ref (x 4), .ref (x 5), .ref (x 6), .ref (x 7)])), (x 6, .inr (0, [.ref (n 0), .int 0, .int 0, .int 0, .ref (n 4), .ref (n 5), .ref (n 6), .ref (n 7), .ref (n 8), .int 0, .ref (n 10), .ref (n 11), .ref (n 12), .ref (n 13)])), (n 0, .inl (cI, 7, .inl (fun _ => 0))), (x 1, .inr (3, [.ref (q 0), .ref (q 1), .ref (q 2), .ref (q 3)]))])) (vp_Si (fun r => r = (-2))) 0 0 (fun _ => False) := by
  refine Met.ofW (cc := cX5_closed) (maxL := 6) (ret := (some .int)) (by decide) rfl ?_
  intro p e s m args below meth c s₁ B hml hv
  obtain ⟨rfl, hP, hk⟩ := hv
  have hK := hk.1
  have hz := hk.2.1
  have hx := B.exec
  have hb := B.bytes
  have hr := B.returns
  have hts := atoms_spec (ws := wsX5_closed) B.pre
  have hown : s.vm.findClass RX5 = some m.cls := findClass_of_methodNamed B.named
  have hlocks := B.notSynchronized
  have hi5 : ∀ w ∈ wsX50, w ∈ wsX5_closed := by decide +kernel
  have hl := lv_entry ([.ref h, .int p0, .int p1]) (n := 6) (Nat.le_of_ble_eq_true rfl)
  rw [lg_entry_eq]
  generalize (lg_sl ([.ref h, .int p0, .int p1]) ++ List.replicate (6 - (lg_sl ([.ref h, .int p0, .int p1])).length) Slot.unset).toArray = ls at hl ⊢
  have hl : lv_has ls 6 [(0, .ref h), (1, .int p0), (2, .int p1)] := hl
  refine lv_aload_n hx hb dX5_closed_0 rfl (lv_at hl 0 rfl) ?_
  refine va_get (D := D) (ci := 5) (v := .ref (x 6)) (C := RX5) (T := TX5) (N := 8) hx hb hts hi5 hown hK hP 0 rfl rfl 6 (by decide) (hts (.fieldLink RX5 48 "AlibiRota" "now" "LAlibiRota$City;") (by decide +kernel)) (fun _ h9 => h9) rfl dX5_closed_1 ?_
  refine lv_iload_n hx hb dX5_closed_4 rfl (lv_at hl 2 rfl) ?_
  refine lv_i2l (v := p1.toInt64) hx hb dX5_closed_5 rfl ?_
  have hPc := hP.sub (ws' := [(x 6, .inr (0, [.ref (n 0), .int 0, .int 0, .int 0, .ref (n 4), .ref (n 5), .ref (n 6), .ref (n 7), .ref (n 8), .int 0, .ref (n 10), .ref (n 11), .ref (n 12), .ref (n 13)]))]) [1] rfl
  refine vp_callSi (va_Run.run (va_runVN (As := [.long p1.toInt64]) (rest := []) ⟨hx, hb, hml, hown, hts⟩ (k_isPerson l D cI cZ cB cJ cR (x 6) n p1.toInt64) ⟨va_cnB 1 hts ggX5_closed_X0_isPerson rfl rfl rfl (hz _ zw_RX5_83) (hts (.initialized RX0) (by decide +kernel)) (by decide +kernel) ⟨Nat.le_of_ble_eq_true rfl, Nat.le_of_ble_eq_true rfl⟩, hts (.instanceMethod yX0_isPerson) (by decide +kernel), hts (.selects RX0 yX0_isPerson yX0_isPerson) (by decide +kernel)⟩ ⟨fbS, va_recv hK hPc (ci := 0) (q0 := 0) rfl rfl, pS_at hPc hk⟩ rfl rfl hl.1 rfl (lv_room (Nat.le_of_ble_eq_true rfl)) dX5_closed_6 ⟨show 0 ≤ 0 by decide, show 0 ≤ 0 by decide⟩)) (fun r1 hr1 => ?_)
  obtain rfl : r1 = 0 := hr1
  refine lv_if_ne (tgt := 15) hx hb dX5_closed_9 (by decide) (fun c9 => absurd (by decide) c9) (fun _ => ?_)
  refine lv_bipush (v := (-2)) hx hb dX5_closed_12 (by decide) ?_
  exact W.iret (v := (-2)) hx hb hr (fun t ht _ => ⟨(-2), rfl, rfl, ht⟩) (fun _ h => by cases h) dX5_closed_14

set_option maxHeartbeats 4000000 in
set_option maxRecDepth 100000 in
theorem kx_worn (l : Launch) (D : va_G) (cI cZ cB cJ cR : ClassId) (h : Nat) (x n q : Nat → Nat) (p0 : Int32) : Met l yX5_worn wsX5_worn ({ frames := 3, cells := 0, slots := 0, locals := 68 }) (va_Pc [.ref h, .int p0] (pS D cI cZ cB cJ cR [(h, .inr (5, [.ref (x 0), .ref (x 1), .ref (x 2), .ref (x 3), .ref (x 4), .ref (x 5), .ref (x 6), .ref (x 7)])), (x 6, .inr (0, [.ref (n 0), .int 0, .int 0, .int 0, .ref (n 4), .ref (n 5), .ref (n 6), .ref (n 7), .ref (n 8), .int 0, .ref (n 10), .ref (n 11), .ref (n 12), .ref (n 13)])), (n 0, .inl (cI, 7, .inl (fun _ => 0))), (x 1, .inr (3, [.ref (q 0), .ref (q 1), .ref (q 2), .ref (q 3)]))])) (vp_Si (fun r => r = (-2))) 0 0 (fun _ => False) := by
  refine Met.ofW (cc := cX5_worn) (maxL := 3) (ret := (some .int)) (by decide) rfl ?_
  intro p e s m args below meth c s₁ B hml hv
  obtain ⟨rfl, hP, hk⟩ := hv
  have hK := hk.1
  have hz := hk.2.1
  have hx := B.exec
  have hb := B.bytes
  have hr := B.returns
  have hts := atoms_spec (ws := wsX5_worn) B.pre
  have hown : s.vm.findClass RX5 = some m.cls := findClass_of_methodNamed B.named
  have hlocks := B.notSynchronized
  have hl := lv_entry ([.ref h, .int p0]) (n := 3) (Nat.le_of_ble_eq_true rfl)
  rw [lg_entry_eq]
  generalize (lg_sl ([.ref h, .int p0]) ++ List.replicate (3 - (lg_sl ([.ref h, .int p0])).length) Slot.unset).toArray = ls at hl ⊢
  have hl : lv_has ls 3 [(0, .ref h), (1, .int p0)] := hl
  refine lv_aload_n hx hb dX5_worn_0 rfl (lv_at hl 0 rfl) ?_
  refine lv_iload_n hx hb dX5_worn_1 rfl (lv_at hl 1 rfl) ?_
  have hPc := hP.sub (ws' := [(h, .inr (5, [.ref (x 0), .ref (x 1), .ref (x 2), .ref (x 3), .ref (x 4), .ref (x 5), .ref (x 6), .ref (x 7)])), (x 6, .inr (0, [.ref (n 0), .int 0, .int 0, .int 0, .ref (n 4), .ref (n 5), .ref (n 6), .ref (n 7), .ref (n 8), .int 0, .ref (n 10), .ref (n 11), .ref (n 12), .ref (n 13)])), (n 0, .inl (cI, 7, .inl (fun _ => 0))), (x 1, .inr (3, [.ref (q 0), .ref (q 1), .ref (q 2), .ref (q 3)]))]) [0, 1, 2, 3] rfl
  refine vp_callSi (va_Run.run (va_runV (As := [.int p0]) (rest := []) ⟨hx, hb, hml, hown, hts⟩ (k_refuseWorn l D cI cZ cB cJ cR h x n q p0) (cwV 1 hts gX5_worn_X5_refuseWorn rfl rfl rfl (by decide +kernel) ⟨Nat.le_of_ble_eq_true rfl, Nat.le_of_ble_eq_true rfl⟩) ⟨fbS, va_recv hK hPc (ci := 5) (q0 := 0) rfl rfl, pS_at hPc hk⟩ rfl rfl hl.1 rfl (lv_room (Nat.le_of_ble_eq_true rfl)) dX5_worn_2 ⟨show 0 ≤ 0 by decide, show 0 ≤ 0 by decide⟩)) (fun r1 hr1 => ?_)
  obtain rfl : r1 = (-2) := hr1
  refine lv_istore_n (lv' := [(2, .int (-2)), (0, .ref h), (1, .int p0)]) hx hb dX5_worn_5 rfl hl (by decide) rfl (fun ls hl => ?_)
  refine lv_iload_n hx hb dX5_worn_6 rfl (lv_at hl 0 rfl) ?_
  refine lv_if_eq (tgt := 12) hx hb dX5_worn_7 (by decide) (fun c9 => absurd c9 (by decide)) (fun _ => ?_)
  refine lv_iload_n hx hb dX5_worn_10 rfl (lv_at hl 0 rfl) ?_
  exact W.iret (v := (-2)) hx hb hr (fun t ht _ => ⟨(-2), rfl, rfl, ht⟩) (fun _ h => by cases h) dX5_worn_11

set_option maxHeartbeats 4000000 in
set_option maxRecDepth 100000 in
theorem kx_wore (l : Launch) (D : va_G) (cI cZ cB cJ cR : ClassId) (h : Nat) (x n q : Nat → Nat) (p0 : Int32) (p1 : Int32) : Met l yX5_wore wsX5_wore ({ frames := 1, cells := 0, slots := 0, locals := 22 }) (va_Pc [.ref h, .int p0, .int p1] (pS D cI cZ cB cJ cR [(h, .inr (5, [.ref (x 0), .ref (x 1), .ref (x 2), .ref (x 3), .ref (x 4), .ref (x 5), .ref (x 6), .ref (x 7)])), (x 6, .inr (0, [.ref (n 0), .int 0, .int 0, .int 0, .ref (n 4), .ref (n 5), .ref (n 6), .ref (n 7), .ref (n 8), .int 0, .ref (n 10), .ref (n 11), .ref (n 12), .ref (n 13)])), (n 0, .inl (cI, 7, .inl (fun _ => 0))), (x 1, .inr (3, [.ref (q 0), .ref (q 1), .ref (q 2), .ref (q 3)]))])) (vp_Si (fun r => r = (-2))) 0 0 (fun _ => False) := by
  refine Met.ofW (cc := cX5_wore) (maxL := 4) (ret := (some .int)) (by decide) rfl ?_
  intro p e s m args below meth c s₁ B hml hv
  obtain ⟨rfl, hP, hk⟩ := hv
  have hK := hk.1
  have hz := hk.2.1
  have hx := B.exec
  have hb := B.bytes
  have hr := B.returns
  have hts := atoms_spec (ws := wsX5_wore) B.pre
  have hown : s.vm.findClass RX5 = some m.cls := findClass_of_methodNamed B.named
  have hlocks := B.notSynchronized
  have hi5 : ∀ w ∈ wsX50, w ∈ wsX5_wore := by decide +kernel
  have hl := lv_entry ([.ref h, .int p0, .int p1]) (n := 4) (Nat.le_of_ble_eq_true rfl)
  rw [lg_entry_eq]
  generalize (lg_sl ([.ref h, .int p0, .int p1]) ++ List.replicate (4 - (lg_sl ([.ref h, .int p0, .int p1])).length) Slot.unset).toArray = ls at hl ⊢
  have hl : lv_has ls 4 [(0, .ref h), (1, .int p0), (2, .int p1)] := hl
  refine lv_aload_n hx hb dX5_wore_0 rfl (lv_at hl 0 rfl) ?_
  refine va_get (D := D) (ci := 5) (v := .ref (x 6)) (C := RX5) (T := TX5) (N := 8) hx hb hts hi5 hown hK hP 0 rfl rfl 6 (by decide) (hts (.fieldLink RX5 48 "AlibiRota" "now" "LAlibiRota$City;") (by decide +kernel)) (fun _ h9 => h9) rfl dX5_wore_1 ?_
  refine lv_iload_n hx hb dX5_wore_4 rfl (lv_at hl 2 rfl) ?_
  refine lv_i2l (v := p1.toInt64) hx hb dX5_wore_5 rfl ?_
  have hPc := hP.sub (ws' := [(x 6, .inr (0, [.ref (n 0), .int 0, .int 0, .int 0, .ref (n 4), .ref (n 5), .ref (n 6), .ref (n 7), .ref (n 8), .int 0, .ref (n 10), .ref (n 11), .ref (n 12), .ref (n 13)]))]) [1] rfl
  refine vp_callSi (va_Run.run (va_runVN (As := [.long p1.toInt64]) (rest := []) ⟨hx, hb, hml, hown, hts⟩ (k_isPerson l D cI cZ cB cJ cR (x 6) n p1.toInt64) ⟨va_cnB 1 hts ggX5_wore_X0_isPerson rfl rfl rfl (hz _ zw_RX5_83) (hts (.initialized RX0) (by decide +kernel)) (by decide +kernel) ⟨Nat.le_of_ble_eq_true rfl, Nat.le_of_ble_eq_true rfl⟩, hts (.instanceMethod yX0_isPerson) (by decide +kernel), hts (.selects RX0 yX0_isPerson yX0_isPerson) (by decide +kernel)⟩ ⟨fbS, va_recv hK hPc (ci := 0) (q0 := 0) rfl rfl, pS_at hPc hk⟩ rfl rfl hl.1 rfl (lv_room (Nat.le_of_ble_eq_true rfl)) dX5_wore_6 ⟨show 0 ≤ 0 by decide, show 0 ≤ 0 by decide⟩)) (fun r1 hr1 => ?_)
  obtain rfl : r1 = 0 := hr1
  refine lv_if_ne (tgt := 15) hx hb dX5_wore_9 (by decide) (fun c9 => absurd (by decide) c9) (fun _ => ?_)
  refine lv_bipush (v := (-2)) hx hb dX5_wore_12 (by decide) ?_
  exact W.iret (v := (-2)) hx hb hr (fun t ht _ => ⟨(-2), rfl, rfl, ht⟩) (fun _ h => by cases h) dX5_wore_14

set_option maxHeartbeats 4000000 in
set_option maxRecDepth 100000 in
theorem kx_surely (l : Launch) (D : va_G) (cI cZ cB cJ cR : ClassId) (h : Nat) (x n q : Nat → Nat) (p0 : Int32) (p1 : Int32) : Met l yX5_surely wsX5_surely ({ frames := 1, cells := 0, slots := 0, locals := 22 }) (va_Pc [.ref h, .int p0, .int p1] (pS D cI cZ cB cJ cR [(h, .inr (5, [.ref (x 0), .ref (x 1), .ref (x 2), .ref (x 3), .ref (x 4), .ref (x 5), .ref (x 6), .ref (x 7)])), (x 6, .inr (0, [.ref (n 0), .int 0, .int 0, .int 0, .ref (n 4), .ref (n 5), .ref (n 6), .ref (n 7), .ref (n 8), .int 0, .ref (n 10), .ref (n 11), .ref (n 12), .ref (n 13)])), (n 0, .inl (cI, 7, .inl (fun _ => 0))), (x 1, .inr (3, [.ref (q 0), .ref (q 1), .ref (q 2), .ref (q 3)]))])) (vp_Si (fun r => r = (-2))) 0 0 (fun _ => False) := by
  refine Met.ofW (cc := cX5_surely) (maxL := 4) (ret := (some .int)) (by decide) rfl ?_
  intro p e s m args below meth c s₁ B hml hv
  obtain ⟨rfl, hP, hk⟩ := hv
  have hK := hk.1
  have hz := hk.2.1
  have hx := B.exec
  have hb := B.bytes
  have hr := B.returns
  have hts := atoms_spec (ws := wsX5_surely) B.pre
  have hown : s.vm.findClass RX5 = some m.cls := findClass_of_methodNamed B.named
  have hlocks := B.notSynchronized
  have hi5 : ∀ w ∈ wsX50, w ∈ wsX5_surely := by decide +kernel
  have hl := lv_entry ([.ref h, .int p0, .int p1]) (n := 4) (Nat.le_of_ble_eq_true rfl)
  rw [lg_entry_eq]
  generalize (lg_sl ([.ref h, .int p0, .int p1]) ++ List.replicate (4 - (lg_sl ([.ref h, .int p0, .int p1])).length) Slot.unset).toArray = ls at hl ⊢
  have hl : lv_has ls 4 [(0, .ref h), (1, .int p0), (2, .int p1)] := hl
  refine lv_aload_n hx hb dX5_surely_0 rfl (lv_at hl 0 rfl) ?_
  refine va_get (D := D) (ci := 5) (v := .ref (x 6)) (C := RX5) (T := TX5) (N := 8) hx hb hts hi5 hown hK hP 0 rfl rfl 6 (by decide) (hts (.fieldLink RX5 48 "AlibiRota" "now" "LAlibiRota$City;") (by decide +kernel)) (fun _ h9 => h9) rfl dX5_surely_1 ?_
  refine lv_iload_n hx hb dX5_surely_4 rfl (lv_at hl 2 rfl) ?_
  refine lv_i2l (v := p1.toInt64) hx hb dX5_surely_5 rfl ?_
  have hPc := hP.sub (ws' := [(x 6, .inr (0, [.ref (n 0), .int 0, .int 0, .int 0, .ref (n 4), .ref (n 5), .ref (n 6), .ref (n 7), .ref (n 8), .int 0, .ref (n 10), .ref (n 11), .ref (n 12), .ref (n 13)]))]) [1] rfl
  refine vp_callSi (va_Run.run (va_runVN (As := [.long p1.toInt64]) (rest := []) ⟨hx, hb, hml, hown, hts⟩ (k_isPerson l D cI cZ cB cJ cR (x 6) n p1.toInt64) ⟨va_cnB 1 hts ggX5_surely_X0_isPerson rfl rfl rfl (hz _ zw_RX5_83) (hts (.initialized RX0) (by decide +kernel)) (by decide +kernel) ⟨Nat.le_of_ble_eq_true rfl, Nat.le_of_ble_eq_true rfl⟩, hts (.instanceMethod yX0_isPerson) (by decide +kernel), hts (.selects RX0 yX0_isPerson yX0_isPerson) (by decide +kernel)⟩ ⟨fbS, va_recv hK hPc (ci := 0) (q0 := 0) rfl rfl, pS_at hPc hk⟩ rfl rfl hl.1 rfl (lv_room (Nat.le_of_ble_eq_true rfl)) dX5_surely_6 ⟨show 0 ≤ 0 by decide, show 0 ≤ 0 by decide⟩)) (fun r1 hr1 => ?_)
  obtain rfl : r1 = 0 := hr1
  refine lv_if_ne (tgt := 15) hx hb dX5_surely_9 (by decide) (fun c9 => absurd (by decide) c9) (fun _ => ?_)
  refine lv_bipush (v := (-2)) hx hb dX5_surely_12 (by decide) ?_
  exact W.iret (v := (-2)) hx hb hr (fun t ht _ => ⟨(-2), rfl, rfl, ht⟩) (fun _ h => by cases h) dX5_surely_14

set_option maxHeartbeats 4000000 in
set_option maxRecDepth 100000 in
theorem kx_law (l : Launch) (D : va_G) (cI cZ cB cJ cR : ClassId) (h : Nat) (x n q : Nat → Nat) (p0 : Int32) (p1 : Int32) : Met l yX5_law wsX5_law ({ frames := 2, cells := 0, slots := 0, locals := 42 }) (va_Pc [.ref h, .int p0, .int p1] (pS D cI cZ cB cJ cR [(h, .inr (5, [.ref (x 0), .ref (x 1), .ref (x 2), .ref (x 3), .ref (x 4), .ref (x 5), .ref (x 6), .ref (x 7)])), (x 6, .inr (0, [.ref (n 0), .int 0, .int 0, .int 0, .ref (n 4), .ref (n 5), .ref (n 6), .ref (n 7), .ref (n 8), .int 0, .ref (n 10), .ref (n 11), .ref (n 12), .ref (n 13)])), (n 0, .inl (cI, 7, .inl (fun _ => 0))), (x 1, .inr (3, [.ref (q 0), .ref (q 1), .ref (q 2), .ref (q 3)]))])) (vp_Si (fun r => r = (-2))) 0 0 (fun _ => False) := by
  refine Met.ofW (cc := cX5_law) (maxL := 4) (ret := (some .int)) (by decide) rfl ?_
  intro p e s m args below meth c s₁ B hml hv
  obtain ⟨rfl, hP, hk⟩ := hv
  have hK := hk.1
  have hz := hk.2.1
  have hx := B.exec
  have hb := B.bytes
  have hr := B.returns
  have hts := atoms_spec (ws := wsX5_law) B.pre
  have hown : s.vm.findClass RX5 = some m.cls := findClass_of_methodNamed B.named
  have hlocks := B.notSynchronized
  have hi5 : ∀ w ∈ wsX50, w ∈ wsX5_law := by decide +kernel
  have hl := lv_entry ([.ref h, .int p0, .int p1]) (n := 4) (Nat.le_of_ble_eq_true rfl)
  rw [lg_entry_eq]
  generalize (lg_sl ([.ref h, .int p0, .int p1]) ++ List.replicate (4 - (lg_sl ([.ref h, .int p0, .int p1])).length) Slot.unset).toArray = ls at hl ⊢
  have hl : lv_has ls 4 [(0, .ref h), (1, .int p0), (2, .int p1)] := hl
  refine lv_aload_n hx hb dX5_law_0 rfl (lv_at hl 0 rfl) ?_
  refine va_get (D := D) (ci := 5) (v := .ref (x 6)) (C := RX5) (T := TX5) (N := 8) hx hb hts hi5 hown hK hP 0 rfl rfl 6 (by decide) (hts (.fieldLink RX5 48 "AlibiRota" "now" "LAlibiRota$City;") (by decide +kernel)) (fun _ h9 => h9) rfl dX5_law_1 ?_
  refine lv_iload_n hx hb dX5_law_4 rfl (lv_at hl 1 rfl) ?_
  refine lv_i2l (v := p0.toInt64) hx hb dX5_law_5 rfl ?_
  have hPc := hP.sub (ws' := [(x 6, .inr (0, [.ref (n 0), .int 0, .int 0, .int 0, .ref (n 4), .ref (n 5), .ref (n 6), .ref (n 7), .ref (n 8), .int 0, .ref (n 10), .ref (n 11), .ref (n 12), .ref (n 13)])), (n 0, .inl (cI, 7, .inl (fun _ => 0)))]) [1, 2] rfl
  refine vp_callSi (va_Run.run (va_runVN (As := [.long p0.toInt64]) (rest := []) ⟨hx, hb, hml, hown, hts⟩ (k_isHour l D cI cZ cB cJ cR (x 6) n p0.toInt64) ⟨va_cnB 1 hts ggX5_law_X0_isHour rfl rfl rfl (hz _ zw_RX5_87) (hts (.initialized RX0) (by decide +kernel)) (by decide +kernel) ⟨Nat.le_of_ble_eq_true rfl, Nat.le_of_ble_eq_true rfl⟩, hts (.instanceMethod yX0_isHour) (by decide +kernel), hts (.selects RX0 yX0_isHour yX0_isHour) (by decide +kernel)⟩ ⟨fbS, va_recv hK hPc (ci := 0) (q0 := 0) rfl rfl, pS_at hPc hk⟩ rfl rfl hl.1 rfl (lv_room (Nat.le_of_ble_eq_true rfl)) dX5_law_6 ⟨show 0 ≤ 0 by decide, show 0 ≤ 0 by decide⟩)) (fun r1 hr1 => ?_)
  obtain rfl : r1 = 0 := hr1
  refine lv_if_eq (tgt := 29) hx hb dX5_law_9 (by decide) (fun _ => ?_) (fun c9 => absurd (by decide) c9)
  refine lv_bipush (v := (-2)) hx hb dX5_law_29 (by decide) ?_
  exact W.iret (v := (-2)) hx hb hr (fun t ht _ => ⟨(-2), rfl, rfl, ht⟩) (fun _ h => by cases h) dX5_law_31

set_option maxHeartbeats 4000000 in
set_option maxRecDepth 100000 in
theorem kx_chance (l : Launch) (D : va_G) (cI cZ cB cJ cR : ClassId) (h : Nat) (x n q : Nat → Nat) (p0 : Int32) (p1 : Int32) : Met l yX5_chance wsX5_chance ({ frames := 1, cells := 0, slots := 0, locals := 22 }) (va_Pc [.ref h, .int p0, .int p1] (pS D cI cZ cB cJ cR [(h, .inr (5, [.ref (x 0), .ref (x 1), .ref (x 2), .ref (x 3), .ref (x 4), .ref (x 5), .ref (x 6), .ref (x 7)])), (x 6, .inr (0, [.ref (n 0), .int 0, .int 0, .int 0, .ref (n 4), .ref (n 5), .ref (n 6), .ref (n 7), .ref (n 8), .int 0, .ref (n 10), .ref (n 11), .ref (n 12), .ref (n 13)])), (n 0, .inl (cI, 7, .inl (fun _ => 0))), (x 1, .inr (3, [.ref (q 0), .ref (q 1), .ref (q 2), .ref (q 3)]))])) (vp_Sl (fun r => r = (-2))) 0 0 (fun _ => False) := by
  refine Met.ofW (cc := cX5_chance) (maxL := 11) (ret := (some .long)) (by decide) rfl ?_
  intro p e s m args below meth c s₁ B hml hv
  obtain ⟨rfl, hP, hk⟩ := hv
  have hK := hk.1
  have hz := hk.2.1
  have hx := B.exec
  have hb := B.bytes
  have hr := B.returns
  have hts := atoms_spec (ws := wsX5_chance) B.pre
  have hown : s.vm.findClass RX5 = some m.cls := findClass_of_methodNamed B.named
  have hlocks := B.notSynchronized
  have hi5 : ∀ w ∈ wsX50, w ∈ wsX5_chance := by decide +kernel
  have hl := lv_entry ([.ref h, .int p0, .int p1]) (n := 11) (Nat.le_of_ble_eq_true rfl)
  rw [lg_entry_eq]
  generalize (lg_sl ([.ref h, .int p0, .int p1]) ++ List.replicate (11 - (lg_sl ([.ref h, .int p0, .int p1])).length) Slot.unset).toArray = ls at hl ⊢
  have hl : lv_has ls 11 [(0, .ref h), (1, .int p0), (2, .int p1)] := hl
  refine lv_aload_n hx hb dX5_chance_0 rfl (lv_at hl 0 rfl) ?_
  refine va_get (D := D) (ci := 5) (v := .ref (x 6)) (C := RX5) (T := TX5) (N := 8) hx hb hts hi5 hown hK hP 0 rfl rfl 6 (by decide) (hts (.fieldLink RX5 48 "AlibiRota" "now" "LAlibiRota$City;") (by decide +kernel)) (fun _ h9 => h9) rfl dX5_chance_1 ?_
  refine lv_iload_n hx hb dX5_chance_4 rfl (lv_at hl 1 rfl) ?_
  refine lv_i2l (v := p0.toInt64) hx hb dX5_chance_5 rfl ?_
  have hPc := hP.sub (ws' := [(x 6, .inr (0, [.ref (n 0), .int 0, .int 0, .int 0, .ref (n 4), .ref (n 5), .ref (n 6), .ref (n 7), .ref (n 8), .int 0, .ref (n 10), .ref (n 11), .ref (n 12), .ref (n 13)]))]) [1] rfl
  refine vp_callSi (va_Run.run (va_runVN (As := [.long p0.toInt64]) (rest := []) ⟨hx, hb, hml, hown, hts⟩ (k_isPerson l D cI cZ cB cJ cR (x 6) n p0.toInt64) ⟨va_cnB 1 hts ggX5_chance_X0_isPerson rfl rfl rfl (hz _ zw_RX5_83) (hts (.initialized RX0) (by decide +kernel)) (by decide +kernel) ⟨Nat.le_of_ble_eq_true rfl, Nat.le_of_ble_eq_true rfl⟩, hts (.instanceMethod yX0_isPerson) (by decide +kernel), hts (.selects RX0 yX0_isPerson yX0_isPerson) (by decide +kernel)⟩ ⟨fbS, va_recv hK hPc (ci := 0) (q0 := 0) rfl rfl, pS_at hPc hk⟩ rfl rfl hl.1 rfl (lv_room (Nat.le_of_ble_eq_true rfl)) dX5_chance_6 ⟨show 0 ≤ 0 by decide, show 0 ≤ 0 by decide⟩)) (fun r1 hr1 => ?_)
  obtain rfl : r1 = 0 := hr1
  refine lv_if_eq (tgt := 21) hx hb dX5_chance_9 (by decide) (fun _ => ?_) (fun c9 => absurd (by decide) c9)
  refine lv_ldc2 hx hb hown (hts (.constantLong RX5 271 (-2)) (by decide +kernel)) dX5_chance_21 ?_
  exact W.lret (v := (-2)) hx hb hr (fun t ht _ => ⟨(-2), rfl, rfl, ht⟩) (fun _ h => by cases h) dX5_chance_24

set_option maxHeartbeats 4000000 in
set_option maxRecDepth 100000 in
theorem kx_likely (l : Launch) (D : va_G) (cI cZ cB cJ cR : ClassId) (h : Nat) (x n q : Nat → Nat) (p0 : Int32) : Met l yX5_likely wsX5_likely ({ frames := 1, cells := 0, slots := 0, locals := 22 }) (va_Pc [.ref h, .int p0] (pS D cI cZ cB cJ cR [(h, .inr (5, [.ref (x 0), .ref (x 1), .ref (x 2), .ref (x 3), .ref (x 4), .ref (x 5), .ref (x 6), .ref (x 7)])), (x 6, .inr (0, [.ref (n 0), .int 0, .int 0, .int 0, .ref (n 4), .ref (n 5), .ref (n 6), .ref (n 7), .ref (n 8), .int 0, .ref (n 10), .ref (n 11), .ref (n 12), .ref (n 13)])), (n 0, .inl (cI, 7, .inl (fun _ => 0))), (x 1, .inr (3, [.ref (q 0), .ref (q 1), .ref (q 2), .ref (q 3)]))])) (vp_Si (fun r => r = (-2))) 0 0 (fun _ => False) := by
  refine Met.ofW (cc := cX5_likely) (maxL := 8) (ret := (some .int)) (by decide) rfl ?_
  intro p e s m args below meth c s₁ B hml hv
  obtain ⟨rfl, hP, hk⟩ := hv
  have hK := hk.1
  have hz := hk.2.1
  have hx := B.exec
  have hb := B.bytes
  have hr := B.returns
  have hts := atoms_spec (ws := wsX5_likely) B.pre
  have hown : s.vm.findClass RX5 = some m.cls := findClass_of_methodNamed B.named
  have hlocks := B.notSynchronized
  have hi5 : ∀ w ∈ wsX50, w ∈ wsX5_likely := by decide +kernel
  have hl := lv_entry ([.ref h, .int p0]) (n := 8) (Nat.le_of_ble_eq_true rfl)
  rw [lg_entry_eq]
  generalize (lg_sl ([.ref h, .int p0]) ++ List.replicate (8 - (lg_sl ([.ref h, .int p0])).length) Slot.unset).toArray = ls at hl ⊢
  have hl : lv_has ls 8 [(0, .ref h), (1, .int p0)] := hl
  refine lv_aload_n hx hb dX5_likely_0 rfl (lv_at hl 0 rfl) ?_
  refine va_get (D := D) (ci := 5) (v := .ref (x 6)) (C := RX5) (T := TX5) (N := 8) hx hb hts hi5 hown hK hP 0 rfl rfl 6 (by decide) (hts (.fieldLink RX5 48 "AlibiRota" "now" "LAlibiRota$City;") (by decide +kernel)) (fun _ h9 => h9) rfl dX5_likely_1 ?_
  refine lv_iload_n hx hb dX5_likely_4 rfl (lv_at hl 1 rfl) ?_
  refine lv_i2l (v := p0.toInt64) hx hb dX5_likely_5 rfl ?_
  have hPc := hP.sub (ws' := [(x 6, .inr (0, [.ref (n 0), .int 0, .int 0, .int 0, .ref (n 4), .ref (n 5), .ref (n 6), .ref (n 7), .ref (n 8), .int 0, .ref (n 10), .ref (n 11), .ref (n 12), .ref (n 13)]))]) [1] rfl
  refine vp_callSi (va_Run.run (va_runVN (As := [.long p0.toInt64]) (rest := []) ⟨hx, hb, hml, hown, hts⟩ (k_isPerson l D cI cZ cB cJ cR (x 6) n p0.toInt64) ⟨va_cnB 1 hts ggX5_likely_X0_isPerson rfl rfl rfl (hz _ zw_RX5_83) (hts (.initialized RX0) (by decide +kernel)) (by decide +kernel) ⟨Nat.le_of_ble_eq_true rfl, Nat.le_of_ble_eq_true rfl⟩, hts (.instanceMethod yX0_isPerson) (by decide +kernel), hts (.selects RX0 yX0_isPerson yX0_isPerson) (by decide +kernel)⟩ ⟨fbS, va_recv hK hPc (ci := 0) (q0 := 0) rfl rfl, pS_at hPc hk⟩ rfl rfl hl.1 rfl (lv_room (Nat.le_of_ble_eq_true rfl)) dX5_likely_6 ⟨show 0 ≤ 0 by decide, show 0 ≤ 0 by decide⟩)) (fun r1 hr1 => ?_)
  obtain rfl : r1 = 0 := hr1
  refine lv_if_ne (tgt := 15) hx hb dX5_likely_9 (by decide) (fun c9 => absurd (by decide) c9) (fun _ => ?_)
  refine lv_bipush (v := (-2)) hx hb dX5_likely_12 (by decide) ?_
  exact W.iret (v := (-2)) hx hb hr (fun t ht _ => ⟨(-2), rfl, rfl, ht⟩) (fun _ h => by cases h) dX5_likely_14

set_option maxHeartbeats 4000000 in
set_option maxRecDepth 100000 in
theorem kx_drawn (l : Launch) (D : va_G) (cI cZ cB cJ cR : ClassId) (h : Nat) (x n q : Nat → Nat) (p0 : Int32) (p1 : Int32) : Met l yX5_drawn wsX5_drawn ({ frames := 1, cells := 0, slots := 0, locals := 20 }) (va_Pc [.ref h, .int p0, .int p1] (pS D cI cZ cB cJ cR [(h, .inr (5, [.ref (x 0), .ref (x 1), .ref (x 2), .ref (x 3), .ref (x 4), .ref (x 5), .ref (x 6), .ref (x 7)])), (x 6, .inr (0, [.ref (n 0), .int 0, .int 0, .int 0, .ref (n 4), .ref (n 5), .ref (n 6), .ref (n 7), .ref (n 8), .int 0, .ref (n 10), .ref (n 11), .ref (n 12), .ref (n 13)])), (n 0, .inl (cI, 7, .inl (fun _ => 0))), (x 1, .inr (3, [.ref (q 0), .ref (q 1), .ref (q 2), .ref (q 3)]))])) (vp_Si (fun r => r = (-2))) 0 0 (fun _ => False) := by
  refine Met.ofW (cc := cX5_drawn) (maxL := 8) (ret := (some .int)) (by decide) rfl ?_
  intro p e s m args below meth c s₁ B hml hv
  obtain ⟨rfl, hP, hk⟩ := hv
  have hK := hk.1
  have hz := hk.2.1
  have hx := B.exec
  have hb := B.bytes
  have hr := B.returns
  have hts := atoms_spec (ws := wsX5_drawn) B.pre
  have hown : s.vm.findClass RX5 = some m.cls := findClass_of_methodNamed B.named
  have hlocks := B.notSynchronized
  have hi5 : ∀ w ∈ wsX50, w ∈ wsX5_drawn := by decide +kernel
  have hl := lv_entry ([.ref h, .int p0, .int p1]) (n := 8) (Nat.le_of_ble_eq_true rfl)
  rw [lg_entry_eq]
  generalize (lg_sl ([.ref h, .int p0, .int p1]) ++ List.replicate (8 - (lg_sl ([.ref h, .int p0, .int p1])).length) Slot.unset).toArray = ls at hl ⊢
  have hl : lv_has ls 8 [(0, .ref h), (1, .int p0), (2, .int p1)] := hl
  refine lv_aload_n hx hb dX5_drawn_0 rfl (lv_at hl 0 rfl) ?_
  refine va_get (D := D) (ci := 5) (v := .ref (x 6)) (C := RX5) (T := TX5) (N := 8) hx hb hts hi5 hown hK hP 0 rfl rfl 6 (by decide) (hts (.fieldLink RX5 48 "AlibiRota" "now" "LAlibiRota$City;") (by decide +kernel)) (fun _ h9 => h9) rfl dX5_drawn_1 ?_
  have hPc := hP.sub (ws' := [(x 6, .inr (0, [.ref (n 0), .int 0, .int 0, .int 0, .ref (n 4), .ref (n 5), .ref (n 6), .ref (n 7), .ref (n 8), .int 0, .ref (n 10), .ref (n 11), .ref (n 12), .ref (n 13)]))]) [1] rfl
  refine vp_callSi (va_Run.run (va_runVN (As := []) (rest := []) ⟨hx, hb, hml, hown, hts⟩ (k_exists l D cI cZ cB cJ cR (x 6) n ) ⟨va_cnB 0 hts ggX5_drawn_X0_exists rfl rfl rfl (hz _ zw_RX5_115) (hts (.initialized RX0) (by decide +kernel)) (by decide +kernel) ⟨Nat.le_of_ble_eq_true rfl, Nat.le_of_ble_eq_true rfl⟩, hts (.instanceMethod yX0_exists) (by decide +kernel), hts (.selects RX0 yX0_exists yX0_exists) (by decide +kernel)⟩ ⟨fbS, va_recv hK hPc (ci := 0) (q0 := 0) rfl rfl, pS_at hPc hk⟩ rfl rfl hl.1 rfl (lv_room (Nat.le_of_ble_eq_true rfl)) dX5_drawn_4 ⟨show 0 ≤ 0 by decide, show 0 ≤ 0 by decide⟩)) (fun r1 hr1 => ?_)
  obtain rfl : r1 = 0 := hr1
  refine lv_if_eq (tgt := 30) hx hb dX5_drawn_7 (by decide) (fun _ => ?_) (fun c9 => absurd (by decide) c9)
  refine lv_bipush (v := (-2)) hx hb dX5_drawn_30 (by decide) ?_
  exact W.iret (v := (-2)) hx hb hr (fun t ht _ => ⟨(-2), rfl, rfl, ht⟩) (fun _ h => by cases h) dX5_drawn_32

set_option maxHeartbeats 4000000 in
set_option maxRecDepth 100000 in
theorem kx_luck (l : Launch) (D : va_G) (cI cZ cB cJ cR : ClassId) (h : Nat) (x n q : Nat → Nat) (p0 : Int32) (p1 : Int32) (p2 : Int32) : Met l yX5_luck wsX5_luck ({ frames := 1, cells := 0, slots := 0, locals := 22 }) (va_Pc [.ref h, .int p0, .int p1, .int p2] (pS D cI cZ cB cJ cR [(h, .inr (5, [.ref (x 0), .ref (x 1), .ref (x 2), .ref (x 3), .ref (x 4), .ref (x 5), .ref (x 6), .ref (x 7)])), (x 6, .inr (0, [.ref (n 0), .int 0, .int 0, .int 0, .ref (n 4), .ref (n 5), .ref (n 6), .ref (n 7), .ref (n 8), .int 0, .ref (n 10), .ref (n 11), .ref (n 12), .ref (n 13)])), (n 0, .inl (cI, 7, .inl (fun _ => 0))), (x 1, .inr (3, [.ref (q 0), .ref (q 1), .ref (q 2), .ref (q 3)]))])) (vp_Si (fun r => r = (-2))) 0 0 (fun _ => False) := by
  refine Met.ofW (cc := cX5_luck) (maxL := 6) (ret := (some .int)) (by decide) rfl ?_
  intro p e s m args below meth c s₁ B hml hv
  obtain ⟨rfl, hP, hk⟩ := hv
  have hK := hk.1
  have hz := hk.2.1
  have hx := B.exec
  have hb := B.bytes
  have hr := B.returns
  have hts := atoms_spec (ws := wsX5_luck) B.pre
  have hown : s.vm.findClass RX5 = some m.cls := findClass_of_methodNamed B.named
  have hlocks := B.notSynchronized
  have hi5 : ∀ w ∈ wsX50, w ∈ wsX5_luck := by decide +kernel
  have hl := lv_entry ([.ref h, .int p0, .int p1, .int p2]) (n := 6) (Nat.le_of_ble_eq_true rfl)
  rw [lg_entry_eq]
  generalize (lg_sl ([.ref h, .int p0, .int p1, .int p2]) ++ List.replicate (6 - (lg_sl ([.ref h, .int p0, .int p1, .int p2])).length) Slot.unset).toArray = ls at hl ⊢
  have hl : lv_has ls 6 [(0, .ref h), (1, .int p0), (2, .int p1), (3, .int p2)] := hl
  refine lv_aload_n hx hb dX5_luck_0 rfl (lv_at hl 0 rfl) ?_
  refine va_get (D := D) (ci := 5) (v := .ref (x 6)) (C := RX5) (T := TX5) (N := 8) hx hb hts hi5 hown hK hP 0 rfl rfl 6 (by decide) (hts (.fieldLink RX5 48 "AlibiRota" "now" "LAlibiRota$City;") (by decide +kernel)) (fun _ h9 => h9) rfl dX5_luck_1 ?_
  refine lv_iload_n hx hb dX5_luck_4 rfl (lv_at hl 3 rfl) ?_
  refine lv_i2l (v := p2.toInt64) hx hb dX5_luck_5 rfl ?_
  have hPc := hP.sub (ws' := [(x 6, .inr (0, [.ref (n 0), .int 0, .int 0, .int 0, .ref (n 4), .ref (n 5), .ref (n 6), .ref (n 7), .ref (n 8), .int 0, .ref (n 10), .ref (n 11), .ref (n 12), .ref (n 13)]))]) [1] rfl
  refine vp_callSi (va_Run.run (va_runVN (As := [.long p2.toInt64]) (rest := []) ⟨hx, hb, hml, hown, hts⟩ (k_isPerson l D cI cZ cB cJ cR (x 6) n p2.toInt64) ⟨va_cnB 1 hts ggX5_luck_X0_isPerson rfl rfl rfl (hz _ zw_RX5_83) (hts (.initialized RX0) (by decide +kernel)) (by decide +kernel) ⟨Nat.le_of_ble_eq_true rfl, Nat.le_of_ble_eq_true rfl⟩, hts (.instanceMethod yX0_isPerson) (by decide +kernel), hts (.selects RX0 yX0_isPerson yX0_isPerson) (by decide +kernel)⟩ ⟨fbS, va_recv hK hPc (ci := 0) (q0 := 0) rfl rfl, pS_at hPc hk⟩ rfl rfl hl.1 rfl (lv_room (Nat.le_of_ble_eq_true rfl)) dX5_luck_6 ⟨show 0 ≤ 0 by decide, show 0 ≤ 0 by decide⟩)) (fun r1 hr1 => ?_)
  obtain rfl : r1 = 0 := hr1
  refine lv_if_eq (tgt := 34) hx hb dX5_luck_9 (by decide) (fun _ => ?_) (fun c9 => absurd (by decide) c9)
  refine lv_bipush (v := (-2)) hx hb dX5_luck_34 (by decide) ?_
  exact W.iret (v := (-2)) hx hb hr (fun t ht _ => ⟨(-2), rfl, rfl, ht⟩) (fun _ h => by cases h) dX5_luck_36

set_option maxHeartbeats 4000000 in
set_option maxRecDepth 100000 in
theorem kx_swear (l : Launch) (D : va_G) (cI cZ cB cJ cR : ClassId) (h : Nat) (x n q : Nat → Nat) (p0 : Int32) (p1 : Int32) : Met l yX5_swear wsX5_swear ({ frames := 1, cells := 0, slots := 0, locals := 22 }) (va_Pc [.ref h, .int p0, .int p1] (pS D cI cZ cB cJ cR [(h, .inr (5, [.ref (x 0), .ref (x 1), .ref (x 2), .ref (x 3), .ref (x 4), .ref (x 5), .ref (x 6), .ref (x 7)])), (x 6, .inr (0, [.ref (n 0), .int 0, .int 0, .int 0, .ref (n 4), .ref (n 5), .ref (n 6), .ref (n 7), .ref (n 8), .int 0, .ref (n 10), .ref (n 11), .ref (n 12), .ref (n 13)])), (n 0, .inl (cI, 7, .inl (fun _ => 0))), (x 1, .inr (3, [.ref (q 0), .ref (q 1), .ref (q 2), .ref (q 3)]))])) (vp_Si (fun r => r = (-2))) 0 0 (fun _ => False) := by
  refine Met.ofW (cc := cX5_swear) (maxL := 3) (ret := (some .int)) (by decide) rfl ?_
  intro p e s m args below meth c s₁ B hml hv
  obtain ⟨rfl, hP, hk⟩ := hv
  have hK := hk.1
  have hz := hk.2.1
  have hx := B.exec
  have hb := B.bytes
  have hr := B.returns
  have hts := atoms_spec (ws := wsX5_swear) B.pre
  have hown : s.vm.findClass RX5 = some m.cls := findClass_of_methodNamed B.named
  have hlocks := B.notSynchronized
  have hi5 : ∀ w ∈ wsX50, w ∈ wsX5_swear := by decide +kernel
  have hl := lv_entry ([.ref h, .int p0, .int p1]) (n := 3) (Nat.le_of_ble_eq_true rfl)
  rw [lg_entry_eq]
  generalize (lg_sl ([.ref h, .int p0, .int p1]) ++ List.replicate (3 - (lg_sl ([.ref h, .int p0, .int p1])).length) Slot.unset).toArray = ls at hl ⊢
  have hl : lv_has ls 3 [(0, .ref h), (1, .int p0), (2, .int p1)] := hl
  refine lv_aload_n hx hb dX5_swear_0 rfl (lv_at hl 0 rfl) ?_
  refine va_get (D := D) (ci := 5) (v := .ref (x 6)) (C := RX5) (T := TX5) (N := 8) hx hb hts hi5 hown hK hP 0 rfl rfl 6 (by decide) (hts (.fieldLink RX5 48 "AlibiRota" "now" "LAlibiRota$City;") (by decide +kernel)) (fun _ h9 => h9) rfl dX5_swear_1 ?_
  refine lv_iload_n hx hb dX5_swear_4 rfl (lv_at hl 1 rfl) ?_
  refine lv_i2l (v := p0.toInt64) hx hb dX5_swear_5 rfl ?_
  have hPc := hP.sub (ws' := [(x 6, .inr (0, [.ref (n 0), .int 0, .int 0, .int 0, .ref (n 4), .ref (n 5), .ref (n 6), .ref (n 7), .ref (n 8), .int 0, .ref (n 10), .ref (n 11), .ref (n 12), .ref (n 13)]))]) [1] rfl
  refine vp_callSi (va_Run.run (va_runVN (As := [.long p0.toInt64]) (rest := []) ⟨hx, hb, hml, hown, hts⟩ (k_isPerson l D cI cZ cB cJ cR (x 6) n p0.toInt64) ⟨va_cnB 1 hts ggX5_swear_X0_isPerson rfl rfl rfl (hz _ zw_RX5_83) (hts (.initialized RX0) (by decide +kernel)) (by decide +kernel) ⟨Nat.le_of_ble_eq_true rfl, Nat.le_of_ble_eq_true rfl⟩, hts (.instanceMethod yX0_isPerson) (by decide +kernel), hts (.selects RX0 yX0_isPerson yX0_isPerson) (by decide +kernel)⟩ ⟨fbS, va_recv hK hPc (ci := 0) (q0 := 0) rfl rfl, pS_at hPc hk⟩ rfl rfl hl.1 rfl (lv_room (Nat.le_of_ble_eq_true rfl)) dX5_swear_6 ⟨show 0 ≤ 0 by decide, show 0 ≤ 0 by decide⟩)) (fun r1 hr1 => ?_)
  obtain rfl : r1 = 0 := hr1
  refine lv_if_eq (tgt := 31) hx hb dX5_swear_9 (by decide) (fun _ => ?_) (fun c9 => absurd (by decide) c9)
  refine lv_bipush (v := (-2)) hx hb dX5_swear_31 (by decide) ?_
  exact W.iret (v := (-2)) hx hb hr (fun t ht _ => ⟨(-2), rfl, rfl, ht⟩) (fun _ h => by cases h) dX5_swear_33

set_option maxHeartbeats 4000000 in
set_option maxRecDepth 100000 in
theorem kx_move (l : Launch) (D : va_G) (cI cZ cB cJ cR : ClassId) (h : Nat) (x n q : Nat → Nat) (p0 : Int32) (p1 : Int32) (p2 : Int32) : Met l yX5_move wsX5_move ({ frames := 1, cells := 0, slots := 0, locals := 22 }) (va_Pc [.ref h, .int p0, .int p1, .int p2] (pS D cI cZ cB cJ cR [(h, .inr (5, [.ref (x 0), .ref (x 1), .ref (x 2), .ref (x 3), .ref (x 4), .ref (x 5), .ref (x 6), .ref (x 7)])), (x 6, .inr (0, [.ref (n 0), .int 0, .int 0, .int 0, .ref (n 4), .ref (n 5), .ref (n 6), .ref (n 7), .ref (n 8), .int 0, .ref (n 10), .ref (n 11), .ref (n 12), .ref (n 13)])), (n 0, .inl (cI, 7, .inl (fun _ => 0))), (x 1, .inr (3, [.ref (q 0), .ref (q 1), .ref (q 2), .ref (q 3)]))])) (vp_Si (fun r => r = (-2))) 0 0 (fun _ => False) := by
  refine Met.ofW (cc := cX5_move) (maxL := 5) (ret := (some .int)) (by decide) rfl ?_
  intro p e s m args below meth c s₁ B hml hv
  obtain ⟨rfl, hP, hk⟩ := hv
  have hK := hk.1
  have hz := hk.2.1
  have hx := B.exec
  have hb := B.bytes
  have hr := B.returns
  have hts := atoms_spec (ws := wsX5_move) B.pre
  have hown : s.vm.findClass RX5 = some m.cls := findClass_of_methodNamed B.named
  have hlocks := B.notSynchronized
  have hi5 : ∀ w ∈ wsX50, w ∈ wsX5_move := by decide +kernel
  have hl := lv_entry ([.ref h, .int p0, .int p1, .int p2]) (n := 5) (Nat.le_of_ble_eq_true rfl)
  rw [lg_entry_eq]
  generalize (lg_sl ([.ref h, .int p0, .int p1, .int p2]) ++ List.replicate (5 - (lg_sl ([.ref h, .int p0, .int p1, .int p2])).length) Slot.unset).toArray = ls at hl ⊢
  have hl : lv_has ls 5 [(0, .ref h), (1, .int p0), (2, .int p1), (3, .int p2)] := hl
  refine lv_aload_n hx hb dX5_move_0 rfl (lv_at hl 0 rfl) ?_
  refine va_get (D := D) (ci := 5) (v := .ref (x 6)) (C := RX5) (T := TX5) (N := 8) hx hb hts hi5 hown hK hP 0 rfl rfl 6 (by decide) (hts (.fieldLink RX5 48 "AlibiRota" "now" "LAlibiRota$City;") (by decide +kernel)) (fun _ h9 => h9) rfl dX5_move_1 ?_
  refine lv_iload_n hx hb dX5_move_4 rfl (lv_at hl 1 rfl) ?_
  refine lv_i2l (v := p0.toInt64) hx hb dX5_move_5 rfl ?_
  have hPc := hP.sub (ws' := [(x 6, .inr (0, [.ref (n 0), .int 0, .int 0, .int 0, .ref (n 4), .ref (n 5), .ref (n 6), .ref (n 7), .ref (n 8), .int 0, .ref (n 10), .ref (n 11), .ref (n 12), .ref (n 13)]))]) [1] rfl
  refine vp_callSi (va_Run.run (va_runVN (As := [.long p0.toInt64]) (rest := []) ⟨hx, hb, hml, hown, hts⟩ (k_isPerson l D cI cZ cB cJ cR (x 6) n p0.toInt64) ⟨va_cnB 1 hts ggX5_move_X0_isPerson rfl rfl rfl (hz _ zw_RX5_83) (hts (.initialized RX0) (by decide +kernel)) (by decide +kernel) ⟨Nat.le_of_ble_eq_true rfl, Nat.le_of_ble_eq_true rfl⟩, hts (.instanceMethod yX0_isPerson) (by decide +kernel), hts (.selects RX0 yX0_isPerson yX0_isPerson) (by decide +kernel)⟩ ⟨fbS, va_recv hK hPc (ci := 0) (q0 := 0) rfl rfl, pS_at hPc hk⟩ rfl rfl hl.1 rfl (lv_room (Nat.le_of_ble_eq_true rfl)) dX5_move_6 ⟨show 0 ≤ 0 by decide, show 0 ≤ 0 by decide⟩)) (fun r1 hr1 => ?_)
  obtain rfl : r1 = 0 := hr1
  refine lv_if_eq (tgt := 36) hx hb dX5_move_9 (by decide) (fun _ => ?_) (fun c9 => absurd (by decide) c9)
  refine lv_bipush (v := (-2)) hx hb dX5_move_36 (by decide) ?_
  exact W.iret (v := (-2)) hx hb hr (fun t ht _ => ⟨(-2), rfl, rfl, ht⟩) (fun _ h => by cases h) dX5_move_38

set_option maxHeartbeats 4000000 in
set_option maxRecDepth 100000 in
theorem kx_undo (l : Launch) (D : va_G) (cI cZ cB cJ cR : ClassId) (h : Nat) (x n q : Nat → Nat)  : Met l yX5_undo wsX5_undo ({ frames := 1, cells := 0, slots := 0, locals := 20 }) (va_Pc [.ref h] (pS D cI cZ cB cJ cR [(h, .inr (5, [.ref (x 0), .ref (x 1), .ref (x 2), .ref (x 3), .ref (x 4), .ref (x 5), .ref (x 6), .ref (x 7)])), (x 6, .inr (0, [.ref (n 0), .int 0, .int 0, .int 0, .ref (n 4), .ref (n 5), .ref (n 6), .ref (n 7), .ref (n 8), .int 0, .ref (n 10), .ref (n 11), .ref (n 12), .ref (n 13)])), (n 0, .inl (cI, 7, .inl (fun _ => 0))), (x 1, .inr (3, [.ref (q 0), .ref (q 1), .ref (q 2), .ref (q 3)]))])) (vp_Si (fun r => r = (-2))) 0 0 (fun _ => False) := by
  refine Met.ofW (cc := cX5_undo) (maxL := 1) (ret := (some .int)) (by decide) rfl ?_
  intro p e s m args below meth c s₁ B hml hv
  obtain ⟨rfl, hP, hk⟩ := hv
  have hK := hk.1
  have hz := hk.2.1
  have hx := B.exec
  have hb := B.bytes
  have hr := B.returns
  have hts := atoms_spec (ws := wsX5_undo) B.pre
  have hown : s.vm.findClass RX5 = some m.cls := findClass_of_methodNamed B.named
  have hlocks := B.notSynchronized
  have hi5 : ∀ w ∈ wsX50, w ∈ wsX5_undo := by decide +kernel
  have hl := lv_entry ([.ref h]) (n := 1) (Nat.le_of_ble_eq_true rfl)
  rw [lg_entry_eq]
  generalize (lg_sl ([.ref h]) ++ List.replicate (1 - (lg_sl ([.ref h])).length) Slot.unset).toArray = ls at hl ⊢
  have hl : lv_has ls 1 [(0, .ref h)] := hl
  refine lv_aload_n hx hb dX5_undo_0 rfl (lv_at hl 0 rfl) ?_
  refine va_get (D := D) (ci := 5) (v := .ref (x 6)) (C := RX5) (T := TX5) (N := 8) hx hb hts hi5 hown hK hP 0 rfl rfl 6 (by decide) (hts (.fieldLink RX5 48 "AlibiRota" "now" "LAlibiRota$City;") (by decide +kernel)) (fun _ h9 => h9) rfl dX5_undo_1 ?_
  have hPc := hP.sub (ws' := [(x 6, .inr (0, [.ref (n 0), .int 0, .int 0, .int 0, .ref (n 4), .ref (n 5), .ref (n 6), .ref (n 7), .ref (n 8), .int 0, .ref (n 10), .ref (n 11), .ref (n 12), .ref (n 13)]))]) [1] rfl
  refine vp_callSi (va_Run.run (va_runVN (As := []) (rest := []) ⟨hx, hb, hml, hown, hts⟩ (k_exists l D cI cZ cB cJ cR (x 6) n ) ⟨va_cnB 0 hts ggX5_undo_X0_exists rfl rfl rfl (hz _ zw_RX5_115) (hts (.initialized RX0) (by decide +kernel)) (by decide +kernel) ⟨Nat.le_of_ble_eq_true rfl, Nat.le_of_ble_eq_true rfl⟩, hts (.instanceMethod yX0_exists) (by decide +kernel), hts (.selects RX0 yX0_exists yX0_exists) (by decide +kernel)⟩ ⟨fbS, va_recv hK hPc (ci := 0) (q0 := 0) rfl rfl, pS_at hPc hk⟩ rfl rfl hl.1 rfl (lv_room (Nat.le_of_ble_eq_true rfl)) dX5_undo_4 ⟨show 0 ≤ 0 by decide, show 0 ≤ 0 by decide⟩)) (fun r1 hr1 => ?_)
  obtain rfl : r1 = 0 := hr1
  refine lv_if_ne (tgt := 13) hx hb dX5_undo_7 (by decide) (fun c9 => absurd (by decide) c9) (fun _ => ?_)
  refine lv_bipush (v := (-2)) hx hb dX5_undo_10 (by decide) ?_
  exact W.iret (v := (-2)) hx hb hr (fun t ht _ => ⟨(-2), rfl, rfl, ht⟩) (fun _ h => by cases h) dX5_undo_12

set_option maxHeartbeats 4000000 in
set_option maxRecDepth 100000 in
theorem kx_anew (l : Launch) (D : va_G) (cI cZ cB cJ cR : ClassId) (h : Nat) (x n q : Nat → Nat)  : Met l yX5_anew wsX5_anew ({ frames := 1, cells := 0, slots := 0, locals := 20 }) (va_Pc [.ref h] (pS D cI cZ cB cJ cR [(h, .inr (5, [.ref (x 0), .ref (x 1), .ref (x 2), .ref (x 3), .ref (x 4), .ref (x 5), .ref (x 6), .ref (x 7)])), (x 6, .inr (0, [.ref (n 0), .int 0, .int 0, .int 0, .ref (n 4), .ref (n 5), .ref (n 6), .ref (n 7), .ref (n 8), .int 0, .ref (n 10), .ref (n 11), .ref (n 12), .ref (n 13)])), (n 0, .inl (cI, 7, .inl (fun _ => 0))), (x 1, .inr (3, [.ref (q 0), .ref (q 1), .ref (q 2), .ref (q 3)]))])) (vp_Si (fun r => r = (-2))) 0 0 (fun _ => False) := by
  refine Met.ofW (cc := cX5_anew) (maxL := 3) (ret := (some .int)) (by decide) rfl ?_
  intro p e s m args below meth c s₁ B hml hv
  obtain ⟨rfl, hP, hk⟩ := hv
  have hK := hk.1
  have hz := hk.2.1
  have hx := B.exec
  have hb := B.bytes
  have hr := B.returns
  have hts := atoms_spec (ws := wsX5_anew) B.pre
  have hown : s.vm.findClass RX5 = some m.cls := findClass_of_methodNamed B.named
  have hlocks := B.notSynchronized
  have hi5 : ∀ w ∈ wsX50, w ∈ wsX5_anew := by decide +kernel
  have hl := lv_entry ([.ref h]) (n := 3) (Nat.le_of_ble_eq_true rfl)
  rw [lg_entry_eq]
  generalize (lg_sl ([.ref h]) ++ List.replicate (3 - (lg_sl ([.ref h])).length) Slot.unset).toArray = ls at hl ⊢
  have hl : lv_has ls 3 [(0, .ref h)] := hl
  refine lv_aload_n hx hb dX5_anew_0 rfl (lv_at hl 0 rfl) ?_
  refine va_get (D := D) (ci := 5) (v := .ref (x 6)) (C := RX5) (T := TX5) (N := 8) hx hb hts hi5 hown hK hP 0 rfl rfl 6 (by decide) (hts (.fieldLink RX5 48 "AlibiRota" "now" "LAlibiRota$City;") (by decide +kernel)) (fun _ h9 => h9) rfl dX5_anew_1 ?_
  have hPc := hP.sub (ws' := [(x 6, .inr (0, [.ref (n 0), .int 0, .int 0, .int 0, .ref (n 4), .ref (n 5), .ref (n 6), .ref (n 7), .ref (n 8), .int 0, .ref (n 10), .ref (n 11), .ref (n 12), .ref (n 13)]))]) [1] rfl
  refine vp_callSi (va_Run.run (va_runVN (As := []) (rest := []) ⟨hx, hb, hml, hown, hts⟩ (k_exists l D cI cZ cB cJ cR (x 6) n ) ⟨va_cnB 0 hts ggX5_anew_X0_exists rfl rfl rfl (hz _ zw_RX5_115) (hts (.initialized RX0) (by decide +kernel)) (by decide +kernel) ⟨Nat.le_of_ble_eq_true rfl, Nat.le_of_ble_eq_true rfl⟩, hts (.instanceMethod yX0_exists) (by decide +kernel), hts (.selects RX0 yX0_exists yX0_exists) (by decide +kernel)⟩ ⟨fbS, va_recv hK hPc (ci := 0) (q0 := 0) rfl rfl, pS_at hPc hk⟩ rfl rfl hl.1 rfl (lv_room (Nat.le_of_ble_eq_true rfl)) dX5_anew_4 ⟨show 0 ≤ 0 by decide, show 0 ≤ 0 by decide⟩)) (fun r1 hr1 => ?_)
  obtain rfl : r1 = 0 := hr1
  refine lv_if_ne (tgt := 13) hx hb dX5_anew_7 (by decide) (fun c9 => absurd (by decide) c9) (fun _ => ?_)
  refine lv_bipush (v := (-2)) hx hb dX5_anew_10 (by decide) ?_
  exact W.iret (v := (-2)) hx hb hr (fun t ht _ => ⟨(-2), rfl, rfl, ht⟩) (fun _ h => by cases h) dX5_anew_12

set_option maxHeartbeats 4000000 in
set_option maxRecDepth 100000 in
theorem kx_tell (l : Launch) (D : va_G) (cI cZ cB cJ cR : ClassId) (h : Nat) (x n q : Nat → Nat) (p0 : Int32) (p1 : Int32) : Met l yX5_tell wsX5_tell ({ frames := 1, cells := 0, slots := 0, locals := 20 }) (va_Pc [.ref h, .int p0, .int p1] (pS D cI cZ cB cJ cR [(h, .inr (5, [.ref (x 0), .ref (x 1), .ref (x 2), .ref (x 3), .ref (x 4), .ref (x 5), .ref (x 6), .ref (x 7)])), (x 6, .inr (0, [.ref (n 0), .int 0, .int 0, .int 0, .ref (n 4), .ref (n 5), .ref (n 6), .ref (n 7), .ref (n 8), .int 0, .ref (n 10), .ref (n 11), .ref (n 12), .ref (n 13)])), (n 0, .inl (cI, 7, .inl (fun _ => 0))), (x 1, .inr (3, [.ref (q 0), .ref (q 1), .ref (q 2), .ref (q 3)]))])) (vp_Si (fun r => r = (-2))) 0 0 (fun _ => False) := by
  refine Met.ofW (cc := cX5_tell) (maxL := 5) (ret := (some .int)) (by decide) rfl ?_
  intro p e s m args below meth c s₁ B hml hv
  obtain ⟨rfl, hP, hk⟩ := hv
  have hK := hk.1
  have hz := hk.2.1
  have hx := B.exec
  have hb := B.bytes
  have hr := B.returns
  have hts := atoms_spec (ws := wsX5_tell) B.pre
  have hown : s.vm.findClass RX5 = some m.cls := findClass_of_methodNamed B.named
  have hlocks := B.notSynchronized
  have hi5 : ∀ w ∈ wsX50, w ∈ wsX5_tell := by decide +kernel
  have hl := lv_entry ([.ref h, .int p0, .int p1]) (n := 5) (Nat.le_of_ble_eq_true rfl)
  rw [lg_entry_eq]
  generalize (lg_sl ([.ref h, .int p0, .int p1]) ++ List.replicate (5 - (lg_sl ([.ref h, .int p0, .int p1])).length) Slot.unset).toArray = ls at hl ⊢
  have hl : lv_has ls 5 [(0, .ref h), (1, .int p0), (2, .int p1)] := hl
  refine lv_aload_n hx hb dX5_tell_0 rfl (lv_at hl 0 rfl) ?_
  refine va_get (D := D) (ci := 5) (v := .ref (x 6)) (C := RX5) (T := TX5) (N := 8) hx hb hts hi5 hown hK hP 0 rfl rfl 6 (by decide) (hts (.fieldLink RX5 48 "AlibiRota" "now" "LAlibiRota$City;") (by decide +kernel)) (fun _ h9 => h9) rfl dX5_tell_1 ?_
  have hPc := hP.sub (ws' := [(x 6, .inr (0, [.ref (n 0), .int 0, .int 0, .int 0, .ref (n 4), .ref (n 5), .ref (n 6), .ref (n 7), .ref (n 8), .int 0, .ref (n 10), .ref (n 11), .ref (n 12), .ref (n 13)]))]) [1] rfl
  refine vp_callSi (va_Run.run (va_runVN (As := []) (rest := []) ⟨hx, hb, hml, hown, hts⟩ (k_exists l D cI cZ cB cJ cR (x 6) n ) ⟨va_cnB 0 hts ggX5_tell_X0_exists rfl rfl rfl (hz _ zw_RX5_115) (hts (.initialized RX0) (by decide +kernel)) (by decide +kernel) ⟨Nat.le_of_ble_eq_true rfl, Nat.le_of_ble_eq_true rfl⟩, hts (.instanceMethod yX0_exists) (by decide +kernel), hts (.selects RX0 yX0_exists yX0_exists) (by decide +kernel)⟩ ⟨fbS, va_recv hK hPc (ci := 0) (q0 := 0) rfl rfl, pS_at hPc hk⟩ rfl rfl hl.1 rfl (lv_room (Nat.le_of_ble_eq_true rfl)) dX5_tell_4 ⟨show 0 ≤ 0 by decide, show 0 ≤ 0 by decide⟩)) (fun r1 hr1 => ?_)
  obtain rfl : r1 = 0 := hr1
  refine lv_if_eq (tgt := 19) hx hb dX5_tell_7 (by decide) (fun _ => ?_) (fun c9 => absurd (by decide) c9)
  refine lv_bipush (v := (-2)) hx hb dX5_tell_19 (by decide) ?_
  exact W.iret (v := (-2)) hx hb hr (fun t ht _ => ⟨(-2), rfl, rfl, ht⟩) (fun _ h => by cases h) dX5_tell_21
