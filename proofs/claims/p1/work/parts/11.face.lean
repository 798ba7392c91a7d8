set_option maxHeartbeats 4000000 in
set_option maxRecDepth 100000 in
theorem k_refuseRow (l : Launch) (D : va_G) (cI cZ cB cJ cR : ClassId) (h : Nat) (x n q : Nat → Nat) (p0 p1 : Int32) : Met l yX5_refuseRow wsX5_refuseRow ({ frames := 1, cells := 0, slots := 0, locals := 21 }) (va_Pc [.ref h, .int p0, .int p1] (pS D cI cZ cB cJ cR [(h, .inr (5, [.ref (x 0), .ref (x 1), .ref (x 2), .ref (x 3), .ref (x 4), .ref (x 5), .ref (x 6), .ref (x 7)])), (x 6, .inr (0, [.ref (n 0), .int 0, .int 0, .int 0, .ref (n 4), .ref (n 5), .ref (n 6), .ref (n 7), .ref (n 8), .int 0, .ref (n 10), .ref (n 11), .ref (n 12), .ref (n 13)])), (n 0, .inl (cI, 7, .inl (fun _ => 0))), (x 1, .inr (3, [.ref (q 0), .ref (q 1), .ref (q 2), .ref (q 3)]))])) (vp_Si (fun r => r = (-2))) 0 0 (fun _ => False) := by
  refine Met.ofW (cc := cX5_refuseRow) (maxL := 3) (ret := (some .int)) (by decide) rfl ?_
  intro p e s m args below meth c s₁ B hml hv
  obtain ⟨rfl, hP, hk⟩ := hv
  have hK := hk.1
  have hz := hk.2.1
  have hx := B.exec
  have hb := B.bytes
  have hr := B.returns
  have hts := atoms_spec (ws := wsX5_refuseRow) B.pre
  have hown : s.vm.findClass RX5 = some m.cls := findClass_of_methodNamed B.named
  have hlocks := B.notSynchronized
  have hi5 : ∀ w ∈ wsX50, w ∈ wsX5_refuseRow := by decide +kernel
  have hl := lv_entry ([.ref h, .int p0, .int p1]) (n := 3) (Nat.le_of_ble_eq_true rfl)
  rw [lg_entry_eq]
  generalize (lg_sl ([.ref h, .int p0, .int p1]) ++ List.replicate (3 - (lg_sl ([.ref h, .int p0, .int p1])).length) Slot.unset).toArray = ls at hl ⊢
  have hl : lv_has ls 3 [(0, .ref h), (1, .int p0), (2, .int p1)] := hl
  refine lv_aload_n hx hb dX5_refuseRow_0 rfl (lv_at hl 0 rfl) ?_
  refine va_get (D := D) (ci := 5) (v := .ref (x 1)) (C := RX5) (T := TX5) (N := 8) hx hb hts hi5 hown hK hP 0 rfl rfl 1 (by decide) (hts (.fieldLink RX5 19 "AlibiRota" "slots" "LAlibiRota$Slots;") (by decide +kernel)) (fun _ h9 => h9) rfl dX5_refuseRow_1 ?_
  refine lv_iload_n hx hb dX5_refuseRow_4 rfl (lv_at hl 1 rfl) ?_
  have hPc := hP.sub (ws' := [(x 1, .inr (3, [.ref (q 0), .ref (q 1), .ref (q 2), .ref (q 3)]))]) [3] rfl
  refine vp_callSi (va_Run.run (va_runVN (As := [.int p0]) (rest := []) ⟨hx, hb, hml, hown, hts⟩ (k_isSlot l D cI cZ cB cJ cR (x 1) q p0) ⟨va_cnB 1 hts ggX5_refuseRow_X3_isSlot rfl rfl rfl (hz _ zw_RX5_321) (hts (.initialized RX3) (by decide +kernel)) (by decide +kernel) ⟨Nat.le_of_ble_eq_true rfl, Nat.le_of_ble_eq_true rfl⟩, hts (.instanceMethod yX3_isSlot) (by decide +kernel), hts (.selects RX3 yX3_isSlot yX3_isSlot) (by decide +kernel)⟩ ⟨fbS, va_recv hK hPc (ci := 3) (q0 := 0) rfl rfl, pS_at hPc hk⟩ rfl rfl hl.1 rfl (lv_room (Nat.le_of_ble_eq_true rfl)) dX5_refuseRow_5 ⟨show 0 ≤ 0 by decide, show 0 ≤ 0 by decide⟩)) (fun r1 hr1 => ?_)
  rcases hr1 with ⟨rfl, g2, g3⟩ | ⟨rfl, g4⟩
  · skip
    refine lv_if_eq (tgt := 21) hx hb dX5_refuseRow_8 (by decide) (fun c9 => absurd c9 (by decide)) (fun _ => ?_)
    refine lv_aload_n hx hb dX5_refuseRow_11 rfl (lv_at hl 0 rfl) ?_
    refine va_get (D := D) (ci := 5) (v := .ref (x 6)) (C := RX5) (T := TX5) (N := 8) hx hb hts hi5 hown hK hP 0 rfl rfl 6 (by decide) (hts (.fieldLink RX5 48 "AlibiRota" "now" "LAlibiRota$City;") (by decide +kernel)) (fun _ h9 => h9) rfl dX5_refuseRow_12 ?_
    have hPc := hP.sub (ws' := [(x 6, .inr (0, [.ref (n 0), .int 0, .int 0, .int 0, .ref (n 4), .ref (n 5), .ref (n 6), .ref (n 7), .ref (n 8), .int 0, .ref (n 10), .ref (n 11), .ref (n 12), .ref (n 13)]))]) [1] rfl
    refine vp_callSi (va_Run.run (va_runVN (As := []) (rest := []) ⟨hx, hb, hml, hown, hts⟩ (k_exists l D cI cZ cB cJ cR (x 6) n ) ⟨va_cnB 0 hts ggX5_refuseRow_X0_exists rfl rfl rfl (hz _ zw_RX5_115) (hts (.initialized RX0) (by decide +kernel)) (by decide +kernel) ⟨Nat.le_of_ble_eq_true rfl, Nat.le_of_ble_eq_true rfl⟩, hts (.instanceMethod yX0_exists) (by decide +kernel), hts (.selects RX0 yX0_exists yX0_exists) (by decide +kernel)⟩ ⟨fbS, va_recv hK hPc (ci := 0) (q0 := 0) rfl rfl, pS_at hPc hk⟩ rfl rfl hl.1 rfl (lv_room (Nat.le_of_ble_eq_true rfl)) dX5_refuseRow_15 ⟨show 0 ≤ 0 by decide, show 0 ≤ 0 by decide⟩)) (fun r5 hr5 => ?_)
    obtain rfl : r5 = 0 := hr5
    refine lv_if_ne (tgt := 24) hx hb dX5_refuseRow_18 (by decide) (fun c9 => absurd (by decide) c9) (fun _ => ?_)
    refine lv_bipush (v := (-2)) hx hb dX5_refuseRow_21 (by decide) ?_
    exact W.iret (v := (-2)) hx hb hr (fun t ht _ => ⟨(-2), rfl, rfl, ht⟩) (fun _ h => by cases h) dX5_refuseRow_23
  · skip
    refine lv_if_eq (tgt := 21) hx hb dX5_refuseRow_8 (by decide) (fun _ => ?_) (fun c9 => absurd (by decide) c9)
    refine lv_bipush (v := (-2)) hx hb dX5_refuseRow_21 (by decide) ?_
    exact W.iret (v := (-2)) hx hb hr (fun t ht _ => ⟨(-2), rfl, rfl, ht⟩) (fun _ h => by cases h) dX5_refuseRow_23

set_option maxHeartbeats 4000000 in
set_option maxRecDepth 100000 in
theorem k_refuseDeeds (l : Launch) (D : va_G) (cI cZ cB cJ cR : ClassId) (h : Nat) (x n q : Nat → Nat) (p0 : Int32) : Met l yX5_refuseDeeds wsX5_refuseDeeds ({ frames := 2, cells := 0, slots := 0, locals := 43 }) (va_Pc [.ref h, .int p0] (pS D cI cZ cB cJ cR [(h, .inr (5, [.ref (x 0), .ref (x 1), .ref (x 2), .ref (x 3), .ref (x 4), .ref (x 5), .ref (x 6), .ref (x 7)])), (x 6, .inr (0, [.ref (n 0), .int 0, .int 0, .int 0, .ref (n 4), .ref (n 5), .ref (n 6), .ref (n 7), .ref (n 8), .int 0, .ref (n 10), .ref (n 11), .ref (n 12), .ref (n 13)])), (n 0, .inl (cI, 7, .inl (fun _ => 0))), (x 1, .inr (3, [.ref (q 0), .ref (q 1), .ref (q 2), .ref (q 3)]))])) (vp_Si (fun r => r = (-2))) 0 0 (fun _ => False) := by
  refine Met.ofW (cc := cX5_refuseDeeds) (maxL := 4) (ret := (some .int)) (by decide) rfl ?_
  intro p e s m args below meth c s₁ B hml hv
  obtain ⟨rfl, hP, hk⟩ := hv
  have hK := hk.1
  have hz := hk.2.1
  have hx := B.exec
  have hb := B.bytes
  have hr := B.returns
  have hts := atoms_spec (ws := wsX5_refuseDeeds) B.pre
  have hown : s.vm.findClass RX5 = some m.cls := findClass_of_methodNamed B.named
  have hlocks := B.notSynchronized
  have hl := lv_entry ([.ref h, .int p0]) (n := 4) (Nat.le_of_ble_eq_true rfl)
  rw [lg_entry_eq]
  generalize (lg_sl ([.ref h, .int p0]) ++ List.replicate (4 - (lg_sl ([.ref h, .int p0])).length) Slot.unset).toArray = ls at hl ⊢
  have hl : lv_has ls 4 [(0, .ref h), (1, .int p0)] := hl
  refine lv_aload_n hx hb dX5_refuseDeeds_0 rfl (lv_at hl 0 rfl) ?_
  refine lv_iload_n hx hb dX5_refuseDeeds_1 rfl (lv_at hl 1 rfl) ?_
  refine lv_iconst (v := 2) hx hb dX5_refuseDeeds_2 (by decide) ?_
  have hPc := hP.sub (ws' := [(h, .inr (5, [.ref (x 0), .ref (x 1), .ref (x 2), .ref (x 3), .ref (x 4), .ref (x 5), .ref (x 6), .ref (x 7)])), (x 6, .inr (0, [.ref (n 0), .int 0, .int 0, .int 0, .ref (n 4), .ref (n 5), .ref (n 6), .ref (n 7), .ref (n 8), .int 0, .ref (n 10), .ref (n 11), .ref (n 12), .ref (n 13)])), (n 0, .inl (cI, 7, .inl (fun _ => 0))), (x 1, .inr (3, [.ref (q 0), .ref (q 1), .ref (q 2), .ref (q 3)]))]) [0, 1, 2, 3] rfl
  refine vp_callSi (va_Run.run (va_runV (As := [.int p0, .int 2]) (rest := []) ⟨hx, hb, hml, hown, hts⟩ (k_refuseRow l D cI cZ cB cJ cR h x n q p0 2) (cwV 2 hts gX5_refuseDeeds_X5_refuseRow rfl rfl rfl (by decide +kernel) ⟨Nat.le_of_ble_eq_true rfl, Nat.le_of_ble_eq_true rfl⟩) ⟨fbS, va_recv hK hPc (ci := 5) (q0 := 0) rfl rfl, pS_at hPc hk⟩ rfl rfl hl.1 rfl (lv_room (Nat.le_of_ble_eq_true rfl)) dX5_refuseDeeds_3 ⟨show 0 ≤ 0 by decide, show 0 ≤ 0 by decide⟩)) (fun r1 hr1 => ?_)
  obtain rfl : r1 = (-2) := hr1
  refine lv_istore_n (lv' := [(2, .int (-2)), (0, .ref h), (1, .int p0)]) hx hb dX5_refuseDeeds_6 rfl hl (by decide) rfl (fun ls hl => ?_)
  refine lv_iload_n hx hb dX5_refuseDeeds_7 rfl (lv_at hl 0 rfl) ?_
  refine lv_if_eq (tgt := 13) hx hb dX5_refuseDeeds_8 (by decide) (fun c9 => absurd c9 (by decide)) (fun _ => ?_)
  refine lv_iload_n hx hb dX5_refuseDeeds_11 rfl (lv_at hl 0 rfl) ?_
  exact W.iret (v := (-2)) hx hb hr (fun t ht _ => ⟨(-2), rfl, rfl, ht⟩) (fun _ h => by cases h) dX5_refuseDeeds_12

set_option maxHeartbeats 4000000 in
set_option maxRecDepth 100000 in
theorem k_refuseOaths (l : Launch) (D : va_G) (cI cZ cB cJ cR : ClassId) (h : Nat) (x n q : Nat → Nat) (p0 : Int32) : Met l yX5_refuseOaths wsX5_refuseOaths ({ frames := 2, cells := 0, slots := 0, locals := 43 }) (va_Pc [.ref h, .int p0] (pS D cI cZ cB cJ cR [(h, .inr (5, [.ref (x 0), .ref (x 1), .ref (x 2), .ref (x 3), .ref (x 4), .ref (x 5), .ref (x 6), .ref (x 7)])), (x 6, .inr (0, [.ref (n 0), .int 0, .int 0, .int 0, .ref (n 4), .ref (n 5), .ref (n 6), .ref (n 7), .ref (n 8), .int 0, .ref (n 10), .ref (n 11), .ref (n 12), .ref (n 13)])), (n 0, .inl (cI, 7, .inl (fun _ => 0))), (x 1, .inr (3, [.ref (q 0), .ref (q 1), .ref (q 2), .ref (q 3)]))])) (vp_Si (fun r => r = (-2))) 0 0 (fun _ => False) := by
  refine Met.ofW (cc := cX5_refuseOaths) (maxL := 4) (ret := (some .int)) (by decide) rfl ?_
  intro p e s m args below meth c s₁ B hml hv
  obtain ⟨rfl, hP, hk⟩ := hv
  have hK := hk.1
  have hz := hk.2.1
  have hx := B.exec
  have hb := B.bytes
  have hr := B.returns
  have hts := atoms_spec (ws := wsX5_refuseOaths) B.pre
  have hown : s.vm.findClass RX5 = some m.cls := findClass_of_methodNamed B.named
  have hlocks := B.notSynchronized
  have hl := lv_entry ([.ref h, .int p0]) (n := 4) (Nat.le_of_ble_eq_true rfl)
  rw [lg_entry_eq]
  generalize (lg_sl ([.ref h, .int p0]) ++ List.replicate (4 - (lg_sl ([.ref h, .int p0])).length) Slot.unset).toArray = ls at hl ⊢
  have hl : lv_has ls 4 [(0, .ref h), (1, .int p0)] := hl
  refine lv_aload_n hx hb dX5_refuseOaths_0 rfl (lv_at hl 0 rfl) ?_
  refine lv_iload_n hx hb dX5_refuseOaths_1 rfl (lv_at hl 1 rfl) ?_
  refine lv_iconst (v := 3) hx hb dX5_refuseOaths_2 (by decide) ?_
  have hPc := hP.sub (ws' := [(h, .inr (5, [.ref (x 0), .ref (x 1), .ref (x 2), .ref (x 3), .ref (x 4), .ref (x 5), .ref (x 6), .ref (x 7)])), (x 6, .inr (0, [.ref (n 0), .int 0, .int 0, .int 0, .ref (n 4), .ref (n 5), .ref (n 6), .ref (n 7), .ref (n 8), .int 0, .ref (n 10), .ref (n 11), .ref (n 12), .ref (n 13)])), (n 0, .inl (cI, 7, .inl (fun _ => 0))), (x 1, .inr (3, [.ref (q 0), .ref (q 1), .ref (q 2), .ref (q 3)]))]) [0, 1, 2, 3] rfl
  refine vp_callSi (va_Run.run (va_runV (As := [.int p0, .int 3]) (rest := []) ⟨hx, hb, hml, hown, hts⟩ (k_refuseRow l D cI cZ cB cJ cR h x n q p0 3) (cwV 2 hts gX5_refuseOaths_X5_refuseRow rfl rfl rfl (by decide +kernel) ⟨Nat.le_of_ble_eq_true rfl, Nat.le_of_ble_eq_true rfl⟩) ⟨fbS, va_recv hK hPc (ci := 5) (q0 := 0) rfl rfl, pS_at hPc hk⟩ rfl rfl hl.1 rfl (lv_room (Nat.le_of_ble_eq_true rfl)) dX5_refuseOaths_3 ⟨show 0 ≤ 0 by decide, show 0 ≤ 0 by decide⟩)) (fun r1 hr1 => ?_)
  obtain rfl : r1 = (-2) := hr1
  refine lv_istore_n (lv' := [(2, .int (-2)), (0, .ref h), (1, .int p0)]) hx hb dX5_refuseOaths_6 rfl hl (by decide) rfl (fun ls hl => ?_)
  refine lv_iload_n hx hb dX5_refuseOaths_7 rfl (lv_at hl 0 rfl) ?_
  refine lv_if_eq (tgt := 13) hx hb dX5_refuseOaths_8 (by decide) (fun c9 => absurd c9 (by decide)) (fun _ => ?_)
  refine lv_iload_n hx hb dX5_refuseOaths_11 rfl (lv_at hl 0 rfl) ?_
  exact W.iret (v := (-2)) hx hb hr (fun t ht _ => ⟨(-2), rfl, rfl, ht⟩) (fun _ h => by cases h) dX5_refuseOaths_12

set_option maxHeartbeats 4000000 in
set_option maxRecDepth 100000 in
theorem k_refuseWorn (l : Launch) (D : va_G) (cI cZ cB cJ cR : ClassId) (h : Nat) (x n q : Nat → Nat) (p0 : Int32) : Met l yX5_refuseWorn wsX5_refuseWorn ({ frames := 2, cells := 0, slots := 0, locals := 43 }) (va_Pc [.ref h, .int p0] (pS D cI cZ cB cJ cR [(h, .inr (5, [.ref (x 0), .ref (x 1), .ref (x 2), .ref (x 3), .ref (x 4), .ref (x 5), .ref (x 6), .ref (x 7)])), (x 6, .inr (0, [.ref (n 0), .int 0, .int 0, .int 0, .ref (n 4), .ref (n 5), .ref (n 6), .ref (n 7), .ref (n 8), .int 0, .ref (n 10), .ref (n 11), .ref (n 12), .ref (n 13)])), (n 0, .inl (cI, 7, .inl (fun _ => 0))), (x 1, .inr (3, [.ref (q 0), .ref (q 1), .ref (q 2), .ref (q 3)]))])) (vp_Si (fun r => r = (-2))) 0 0 (fun _ => False) := by
  refine Met.ofW (cc := cX5_refuseWorn) (maxL := 6) (ret := (some .int)) (by decide) rfl ?_
  intro p e s m args below meth c s₁ B hml hv
  obtain ⟨rfl, hP, hk⟩ := hv
  have hK := hk.1
  have hz := hk.2.1
  have hx := B.exec
  have hb := B.bytes
  have hr := B.returns
  have hts := atoms_spec (ws := wsX5_refuseWorn) B.pre
  have hown : s.vm.findClass RX5 = some m.cls := findClass_of_methodNamed B.named
  have hlocks := B.notSynchronized
  have hl := lv_entry ([.ref h, .int p0]) (n := 6) (Nat.le_of_ble_eq_true rfl)
  rw [lg_entry_eq]
  generalize (lg_sl ([.ref h, .int p0]) ++ List.replicate (6 - (lg_sl ([.ref h, .int p0])).length) Slot.unset).toArray = ls at hl ⊢
  have hl : lv_has ls 6 [(0, .ref h), (1, .int p0)] := hl
  refine lv_aload_n hx hb dX5_refuseWorn_0 rfl (lv_at hl 0 rfl) ?_
  refine lv_iload_n hx hb dX5_refuseWorn_1 rfl (lv_at hl 1 rfl) ?_
  refine lv_iconst (v := 3) hx hb dX5_refuseWorn_2 (by decide) ?_
  have hPc := hP.sub (ws' := [(h, .inr (5, [.ref (x 0), .ref (x 1), .ref (x 2), .ref (x 3), .ref (x 4), .ref (x 5), .ref (x 6), .ref (x 7)])), (x 6, .inr (0, [.ref (n 0), .int 0, .int 0, .int 0, .ref (n 4), .ref (n 5), .ref (n 6), .ref (n 7), .ref (n 8), .int 0, .ref (n 10), .ref (n 11), .ref (n 12), .ref (n 13)])), (n 0, .inl (cI, 7, .inl (fun _ => 0))), (x 1, .inr (3, [.ref (q 0), .ref (q 1), .ref (q 2), .ref (q 3)]))]) [0, 1, 2, 3] rfl
  refine vp_callSi (va_Run.run (va_runV (As := [.int p0, .int 3]) (rest := []) ⟨hx, hb, hml, hown, hts⟩ (k_refuseRow l D cI cZ cB cJ cR h x n q p0 3) (cwV 2 hts gX5_refuseWorn_X5_refuseRow rfl rfl rfl (by decide +kernel) ⟨Nat.le_of_ble_eq_true rfl, Nat.le_of_ble_eq_true rfl⟩) ⟨fbS, va_recv hK hPc (ci := 5) (q0 := 0) rfl rfl, pS_at hPc hk⟩ rfl rfl hl.1 rfl (lv_room (Nat.le_of_ble_eq_true rfl)) dX5_refuseWorn_3 ⟨show 0 ≤ 0 by decide, show 0 ≤ 0 by decide⟩)) (fun r1 hr1 => ?_)
  obtain rfl : r1 = (-2) := hr1
  refine lv_istore_n (lv' := [(2, .int (-2)), (0, .ref h), (1, .int p0)]) hx hb dX5_refuseWorn_6 rfl hl (by decide) rfl (fun ls hl => ?_)
  refine lv_iload_n hx hb dX5_refuseWorn_7 rfl (lv_at hl 0 rfl) ?_
  refine lv_if_eq (tgt := 13) hx hb dX5_refuseWorn_8 (by decide) (fun c9 => absurd c9 (by decide)) (fun _ => ?_)
  refine lv_iload_n hx hb dX5_refuseWorn_11 rfl (lv_at hl 0 rfl) ?_
  exact W.iret (v := (-2)) hx hb hr (fun t ht _ => ⟨(-2), rfl, rfl, ht⟩) (fun _ h => by cases h) dX5_refuseWorn_12

set_option maxHeartbeats 4000000 in
set_option maxRecDepth 100000 in
theorem kx_at (l : Launch) (D : va_G) (cI cZ cB cJ cR : ClassId) (h : Nat) (x n q : Nat → Nat) (p0 : Int32) (p1 : Int32) : Met l yX5_at wsX5_at ({ frames := 1, cells := 0, slots := 0, locals := 22 }) (va_Pc [.ref h, .int p0, .int p1] (pS D cI cZ cB cJ cR [(h, .inr (5, [.ref (x 0), .ref (x 1), .ref (x 2), .ref (x 3), .ref (x 4), .ref (x 5), .ref (x 6), .ref (x 7)])), (x 6, .inr (0, [.ref (n 0), .int 0, .int 0, .int 0, .ref (n 4), .ref (n 5), .ref (n 6), .ref (n 7), .ref (n 8), .int 0, .ref (n 10), .ref (n 11), .ref (n 12), .ref (n 13)])), (n 0, .inl (cI, 7, .inl (fun _ => 0))), (x 1, .inr (3, [.ref (q 0), .ref (q 1), .ref (q 2), .ref (q 3)]))])) (vp_Si (fun r => r = (-2))) 0 0 (fun _ => False) := by
  refine Met.ofW (cc := cX5_at) (maxL := 3) (ret := (some .int)) (by decide) rfl ?_
  intro p e s m args below meth c s₁ B hml hv
  obtain ⟨rfl, hP, hk⟩ := hv
  have hK := hk.1
  have hz := hk.2.1
  have hx := B.exec
  have hb := B.bytes
  have hr := B.returns
  have hts := atoms_spec (ws := wsX5_at) B.pre
  have hown : s.vm.findClass RX5 = some m.cls := findClass_of_methodNamed B.named
  have hlocks := B.notSynchronized
  have hi5 : ∀ w ∈ wsX50, w ∈ wsX5_at := by decide +kernel
  have hl := lv_entry ([.ref h, .int p0, .int p1]) (n := 3) (Nat.le_of_ble_eq_true rfl)
  rw [lg_entry_eq]
  generalize (lg_sl ([.ref h, .int p0, .int p1]) ++ List.replicate (3 - (lg_sl ([.ref h, .int p0, .int p1])).length) Slot.unset).toArray = ls at hl ⊢
  have hl : lv_has ls 3 [(0, .ref h), (1, .int p0), (2, .int p1)] := hl
  refine lv_aload_n hx hb dX5_at_0 rfl (lv_at hl 0 rfl) ?_
  refine va_get (D := D) (ci := 5) (v := .ref (x 6)) (C := RX5) (T := TX5) (N := 8) hx hb hts hi5 hown hK hP 0 rfl rfl 6 (by decide) (hts (.fieldLink RX5 48 "AlibiRota" "now" "LAlibiRota$City;") (by decide +kernel)) (fun _ h9 => h9) rfl dX5_at_1 ?_
  refine lv_iload_n hx hb dX5_at_4 rfl (lv_at hl 1 rfl) ?_
  refine lv_i2l (v := p0.toInt64) hx hb dX5_at_5 rfl ?_
  have hPc := hP.sub (ws' := [(x 6, .inr (0, [.ref (n 0), .int 0, .int 0, .int 0, .ref (n 4), .ref (n 5), .ref (n 6), .ref (n 7), .ref (n 8), .int 0, .ref (n 10), .ref (n 11), .ref (n 12), .ref (n 13)]))]) [1] rfl
  refine vp_callSi (va_Run.run (va_runVN (As := [.long p0.toInt64]) (rest := []) ⟨hx, hb, hml, hown, hts⟩ (k_isPerson l D cI cZ cB cJ cR (x 6) n p0.toInt64) ⟨va_cnB 1 hts ggX5_at_X0_isPerson rfl rfl rfl (hz _ zw_RX5_83) (hts (.initialized RX0) (by decide +kernel)) (by decide +kernel) ⟨Nat.le_of_ble_eq_true rfl, Nat.le_of_ble_eq_true rfl⟩, hts (.instanceMethod yX0_isPerson) (by decide +kernel), hts (.selects RX0 yX0_isPerson yX0_isPerson) (by decide +kernel)⟩ ⟨fbS, va_recv hK hPc (ci := 0) (q0 := 0) rfl rfl, pS_at hPc hk⟩ rfl rfl hl.1 rfl (lv_room (Nat.le_of_ble_eq_true rfl)) dX5_at_6 ⟨show 0 ≤ 0 by decide, show 0 ≤ 0 by decide⟩)) (fun r1 hr1 => ?_)
  obtain rfl : r1 = 0 := hr1
  refine lv_if_eq (tgt := 24) hx hb dX5_at_9 (by decide) (fun _ => ?_) (fun c9 => absurd (by decide) c9)
  refine lv_bipush (v := (-2)) hx hb dX5_at_24 (by decide) ?_
  exact W.iret (v := (-2)) hx hb hr (fun t ht _ => ⟨(-2), rfl, rfl, ht⟩) (fun _ h => by cases h) dX5_at_26

set_option maxHeartbeats 4000000 in
set_option maxRecDepth 100000 in
theorem kx_sees (l : Launch) (D : va_G) (cI cZ cB cJ cR : ClassId) (h : Nat) (x n q : Nat → Nat) (p0 : Int32) (p1 : Int32) (p2 : Int32) : Met l yX5_sees wsX5_sees ({ frames := 1, cells := 0, slots := 0, locals := 22 }) (va_Pc [.ref h, .int p0, .int p1, .int p2] (pS D cI cZ cB cJ cR [(h, .inr (5, [.ref (x 0), .ref (x 1), .ref (x 2), .ref (x 3), .ref (x 4), .ref (x 5), .ref (x 6), .ref (x 7)])), (x 6, .inr (0, [.ref (n 0), .int 0, .int 0, .int 0, .ref (n 4), .ref (n 5), .ref (n 6), .ref (n 7), .ref (n 8), .int 0, .ref (n 10), .ref (n 11), .ref (n 12), .ref (n 13)])), (n 0, .inl (cI, 7, .inl (fun _ => 0))), (x 1, .inr (3, [.ref (q 0), .ref (q 1), .ref (q 2), .ref (q 3)]))])) (vp_Si (fun r => r = (-2))) 0 0 (fun _ => False) := by
  refine Met.ofW (cc := cX5_sees) (maxL := 4) (ret := (some .int)) (by decide) rfl ?_
  intro p e s m args below meth c s₁ B hml hv
  obtain ⟨rfl, hP, hk⟩ := hv
  have hK := hk.1
  have hz := hk.2.1
  have hx := B.exec
  have hb := B.bytes
  have hr := B.returns
  have hts := atoms_spec (ws := wsX5_sees) B.pre
  have hown : s.vm.findClass RX5 = some m.cls := findClass_of_methodNamed B.named
  have hlocks := B.notSynchronized
  have hi5 : ∀ w ∈ wsX50, w ∈ wsX5_sees := by decide +kernel
  have hl := lv_entry ([.ref h, .int p0, .int p1, .int p2]) (n := 4) (Nat.le_of_ble_eq_true rfl)
  rw [lg_entry_eq]
  generalize (lg_sl ([.ref h, .int p0, .int p1, .int p2]) ++ List.replicate (4 - (lg_sl ([.ref h, .int p0, .int p1, .int p2])).length) Slot.unset).toArray = ls at hl ⊢
  have hl : lv_has ls 4 [(0, .ref h), (1, .int p0), (2, .int p1), (3, .int p2)] := hl
  refine lv_aload_n hx hb dX5_sees_0 rfl (lv_at hl 0 rfl) ?_
  refine va_get (D := D) (ci := 5) (v := .ref (x 6)) (C := RX5) (T := TX5) (N := 8) hx hb hts hi5 hown hK hP 0 rfl rfl 6 (by decide) (hts (.fieldLink RX5 48 "AlibiRota" "now" "LAlibiRota$City;") (by decide +kernel)) (fun _ h9 => h9) rfl dX5_sees_1 ?_
  refine lv_iload_n hx hb dX5_sees_4 rfl (lv_at hl 1 rfl) ?_
  refine lv_i2l (v := p0.toInt64) hx hb dX5_sees_5 rfl ?_
  have hPc := hP.sub (ws' := [(x 6, .inr (0, [.ref (n 0), .int 0, .int 0, .int 0, .ref (n 4), .ref (n 5), .ref (n 6), .ref (n 7), .ref (n 8), .int 0, .ref (n 10), .ref (n 11), .ref (n 12), .ref (n 13)]))]) [1] rfl
  refine vp_callSi (va_Run.run (va_runVN (As := [.long p0.toInt64]) (rest := []) ⟨hx, hb, hml, hown, hts⟩ (k_isPerson l D cI cZ cB cJ cR (x 6) n p0.toInt64) ⟨va_cnB 1 hts ggX5_sees_X0_isPerson rfl rfl rfl (hz _ zw_RX5_83) (hts (.initialized RX0) (by decide +kernel)) (by decide +kernel) ⟨Nat.le_of_ble_eq_true rfl, Nat.le_of_ble_eq_true rfl⟩, hts (.instanceMethod yX0_isPerson) (by decide +kernel), hts (.selects RX0 yX0_isPerson yX0_isPerson) (by decide +kernel)⟩ ⟨fbS, va_recv hK hPc (ci := 0) (q0 := 0) rfl rfl, pS_at hPc hk⟩ rfl rfl hl.1 rfl (lv_room (Nat.le_of_ble_eq_true rfl)) dX5_sees_6 ⟨show 0 ≤ 0 by decide, show 0 ≤ 0 by decide⟩)) (fun r1 hr1 => ?_)
  obtain rfl : r1 = 0 := hr1
  refine lv_if_eq (tgt := 36) hx hb dX5_sees_9 (by decide) (fun _ => ?_) (fun c9 => absurd (by decide) c9)
  refine lv_bipush (v := (-2)) hx hb dX5_sees_36 (by decide) ?_
  exact W.iret (v := (-2)) hx hb hr (fun t ht _ => ⟨(-2), rfl, rfl, ht⟩) (fun _ h => by cases h) dX5_sees_38

set_option maxHeartbeats 4000000 in
set_option maxRecDepth 100000 in
theorem kx_sight (l : Launch) (D : va_G) (cI cZ cB cJ cR : ClassId) (h : Nat) (x n q : Nat → Nat) (p0 : Int32) (p1 : Int32) : Met l yX5_sight wsX5_sight ({ frames := 1, cells := 0, slots := 0, locals := 22 }) (va_Pc [.ref h, .int p0, .int p1] (pS D cI cZ cB cJ cR [(h, .inr (5, [.ref (x 0), .ref (x 1), .ref (x 2), .ref (x 3), .ref (x 4), .ref (x 5), .ref (x 6), .ref (x 7)])), (x 6, .inr (0, [.ref (n 0), .int 0, .int 0, .int 0, .ref (n 4), .ref (n 5), .ref (n 6), .ref (n 7), .ref (n 8), .int 0, .ref (n 10), .ref (n 11), .ref (n 12), .ref (n 13)])), (n 0, .inl (cI, 7, .inl (fun _ => 0))), (x 1, .inr (3, [.ref (q 0), .ref (q 1), .ref (q 2), .ref (q 3)]))])) (vp_Si (fun r => r = (-2))) 0 0 (fun _ => False) := by
  refine Met.ofW (cc := cX5_sight) (maxL := 3) (ret := (some .int)) (by decide) rfl ?_
  intro p e s m args below meth c s₁ B hml hv
  obtain ⟨rfl, hP, hk⟩ := hv
  have hK := hk.1
  have hz := hk.2.1
  have hx := B.exec
  have hb := B.bytes
  have hr := B.returns
  have hts := atoms_spec (ws := wsX5_sight) B.pre
  have hown : s.vm.findClass RX5 = some m.cls := findClass_of_methodNamed B.named
  have hlocks := B.notSynchronized
  have hi5 : ∀ w ∈ wsX50, w ∈ wsX5_sight := by decide +kernel
  have hl := lv_entry ([.ref h, .int p0, .int p1]) (n := 3) (Nat.le_of_ble_eq_true rfl)
  rw [lg_entry_eq]
  generalize (lg_sl ([.ref h, .int p0, .int p1]) ++ List.replicate (3 - (lg_sl ([.ref h, .int p0, .int p1])).length) Slot.unset).toArray = ls at hl ⊢
  have hl : lv_has ls 3 [(0, .ref h), (1, .int p0), (2, .int p1)] := hl
  refine lv_aload_n hx hb dX5_sight_0 rfl (lv_at hl 0 rfl) ?_
  refine va_get (D := D) (ci := 5) (v := .ref (x 6)) (C := RX5) (T := TX5) (N := 8) hx hb hts hi5 hown hK hP 0 rfl rfl 6 (by decide) (hts (.fieldLink RX5 48 "AlibiRota" "now" "LAlibiRota$City;") (by decide +kernel)) (fun _ h9 => h9) rfl dX5_sight_1 ?_
  refine lv_iload_n hx hb dX5_sight_4 rfl (lv_at hl 1 rfl) ?_
  refine lv_i2l (v := p0.toInt64) hx hb dX5_sight_5 rfl ?_
  have hPc := hP.sub (ws' := [(x 6, .inr (0, [.ref (n 0), .int 0, .int 0, .int 0, .ref (n 4), .ref (n 5), .ref (n 6), .ref (n 7), .ref (n 8), .int 0, .ref (n 10), .ref (n 11), .ref (n 12), .ref (n 13)]))]) [1] rfl
  refine vp_callSi (va_Run.run (va_runVN (As := [.long p0.toInt64]) (rest := []) ⟨hx, hb, hml, hown, hts⟩ (k_isPerson l D cI cZ cB cJ cR (x 6) n p0.toInt64) ⟨va_cnB 1 hts ggX5_sight_X0_isPerson rfl rfl rfl (hz _ zw_RX5_83) (hts (.initialized RX0) (by decide +kernel)) (by decide +kernel) ⟨Nat.le_of_ble_eq_true rfl, Nat.le_of_ble_eq_true rfl⟩, hts (.instanceMethod yX0_isPerson) (by decide +kernel), hts (.selects RX0 yX0_isPerson yX0_isPerson) (by decide +kernel)⟩ ⟨fbS, va_recv hK hPc (ci := 0) (q0 := 0) rfl rfl, pS_at hPc hk⟩ rfl rfl hl.1 rfl (lv_room (Nat.le_of_ble_eq_true rfl)) dX5_sight_6 ⟨show 0 ≤ 0 by decide, show 0 ≤ 0 by decide⟩)) (fun r1 hr1 => ?_)
  obtain rfl : r1 = 0 := hr1
  refine lv_if_eq (tgt := 24) hx hb dX5_sight_9 (by decide) (fun _ => ?_) (fun c9 => absurd (by decide) c9)
  refine lv_bipush (v := (-2)) hx hb dX5_sight_24 (by decide) ?_
  exact W.iret (v := (-2)) hx hb hr (fun t ht _ => ⟨(-2), rfl, rfl, ht⟩) (fun _ h => by cases h) dX5_sight_26

set_option maxHeartbeats 4000000 in
set_option maxRecDepth 100000 in
theorem kx_swears (l : Launch) (D : va_G) (cI cZ cB cJ cR : ClassId) (h : Nat) (x n q : Nat → Nat) (p0 : Int32) : Met l yX5_swears wsX5_swears ({ frames := 1, cells := 0, slots := 0, locals := 22 }) (va_Pc [.ref h, .int p0] (pS D cI cZ cB cJ cR [(h, .inr (5, [.ref (x 0), .ref (x 1), .ref (x 2), .ref (x 3), .ref (x 4), .ref (x 5), .ref (x 6), .ref (x 7)])), (x 6, .inr (0, [.ref (n 0), .int 0, .int 0, .int 0, .ref (n 4), .ref (n 5), .ref (n 6), .ref (n 7), .ref (n 8), .int 0, .ref (n 10), .ref (n 11), .ref (n 12), .ref (n 13)])), (n 0, .inl (cI, 7, .inl (fun _ => 0))), (x 1, .inr (3, [.ref (q 0), .ref (q 1), .ref (q 2), .ref (q 3)]))])) (vp_Si (fun r => r = (-2))) 0 0 (fun _ => False) := by
  refine Met.ofW (cc := cX5_swears) (maxL := 2) (ret := (some .int)) (by decide) rfl ?_
  intro p e s m args below meth c s₁ B hml hv
  obtain ⟨rfl, hP, hk⟩ := hv
  have hK := hk.1
  have hz := hk.2.1
  have hx := B.exec
  have hb := B.bytes
  have hr := B.returns
  have hts := atoms_spec (ws := wsX5_swears) B.pre
  have hown : s.vm.findClass RX5 = some m.cls := findClass_of_methodNamed B.named
  have hlocks := B.notSynchronized
  have hi5 : ∀ w ∈ wsX50, w ∈ wsX5_swears := by decide +kernel
  have hl := lv_entry ([.ref h, .int p0]) (n := 2) (Nat.le_of_ble_eq_true rfl)
  rw [lg_entry_eq]
  generalize (lg_sl ([.ref h, .int p0]) ++ List.replicate (2 - (lg_sl ([.ref h, .int p0])).length) Slot.unset).toArray = ls at hl ⊢
  have hl : lv_has ls 2 [(0, .ref h), (1, .int p0)] := hl
  refine lv_aload_n hx hb dX5_swears_0 rfl (lv_at hl 0 rfl) ?_
  refine va_get (D := D) (ci := 5) (v := .ref (x 6)) (C := RX5) (T := TX5) (N := 8) hx hb hts hi5 hown hK hP 0 rfl rfl 6 (by decide) (hts (.fieldLink RX5 48 "AlibiRota" "now" "LAlibiRota$City;") (by decide +kernel)) (fun _ h9 => h9) rfl dX5_swears_1 ?_
  refine lv_iload_n hx hb dX5_swears_4 rfl (lv_at hl 1 rfl) ?_
  refine lv_i2l (v := p0.toInt64) hx hb dX5_swears_5 rfl ?_
  have hPc := hP.sub (ws' := [(x 6, .inr (0, [.ref (n 0), .int 0, .int 0, .int 0, .ref (n 4), .ref (n 5), .ref (n 6), .ref (n 7), .ref (n 8), .int 0, .ref (n 10), .ref (n 11), .ref (n 12), .ref (n 13)]))]) [1] rfl
  refine vp_callSi (va_Run.run (va_runVN (As := [.long p0.toInt64]) (rest := []) ⟨hx, hb, hml, hown, hts⟩ (k_isPerson l D cI cZ cB cJ cR (x 6) n p0.toInt64) ⟨va_cnB 1 hts ggX5_swears_X0_isPerson rfl rfl rfl (hz _ zw_RX5_83) (hts (.initialized RX0) (by decide +kernel)) (by decide +kernel) ⟨Nat.le_of_ble_eq_true rfl, Nat.le_of_ble_eq_true rfl⟩, hts (.instanceMethod yX0_isPerson) (by decide +kernel), hts (.selects RX0 yX0_isPerson yX0_isPerson) (by decide +kernel)⟩ ⟨fbS, va_recv hK hPc (ci := 0) (q0 := 0) rfl rfl, pS_at hPc hk⟩ rfl rfl hl.1 rfl (lv_room (Nat.le_of_ble_eq_true rfl)) dX5_swears_6 ⟨show 0 ≤ 0 by decide, show 0 ≤ 0 by decide⟩)) (fun r1 hr1 => ?_)
  obtain rfl : r1 = 0 := hr1
  refine lv_if_eq (tgt := 24) hx hb dX5_swears_9 (by decide) (fun _ => ?_) (fun c9 => absurd (by decide) c9)
  refine lv_bipush (v := (-2)) hx hb dX5_swears_24 (by decide) ?_
  exact W.iret (v := (-2)) hx hb hr (fun t ht _ => ⟨(-2), rfl, rfl, ht⟩) (fun _ h => by cases h) dX5_swears_26

set_option maxHeartbeats 4000000 in
set_option maxRecDepth 100000 in
theorem kx_sworn (l : Launch) (D : va_G) (cI cZ cB cJ cR : ClassId) (h : Nat) (x n q : Nat → Nat) (p0 : Int32) : Met l yX5_sworn wsX5_sworn ({ frames := 1, cells := 0, slots := 0, locals := 22 }) (va_Pc [.ref h, .int p0] (pS D cI cZ cB cJ cR [(h, .inr (5, [.ref (x 0), .ref (x 1), .ref (x 2), .ref (x 3), .ref (x 4), .ref (x 5), .ref (x 6), .ref (x 7)])), (x 6, .inr (0, [.ref (n 0), .int 0, .int 0, .int 0, .ref (n 4), .ref (n 5), .ref (n 6), .ref (n 7), .ref (n 8), .int 0, .ref (n 10), .ref (n 11), .ref (n 12), .ref (n 13)])), (n 0, .inl (cI, 7, .inl (fun _ => 0))), (x 1, .inr (3, [.ref (q 0), .ref (q 1), .ref (q 2), .ref (q 3)]))])) (vp_Si (fun r => r = (-2))) 0 0 (fun _ => False) := by
  refine Met.ofW (cc := cX5_sworn) (maxL := 2) (ret := (some .int)) (by decide) rfl ?_
  intro p e s m args below meth c s₁ B hml hv
  obtain ⟨rfl, hP, hk⟩ := hv
  have hK := hk.1
  have hz := hk.2.1
  have hx := B.exec
  have hb := B.bytes
  have hr := B.returns
  have hts := atoms_spec (ws := wsX5_sworn) B.pre
  have hown : s.vm.findClass RX5 = some m.cls := findClass_of_methodNamed B.named
  have hlocks := B.notSynchronized
  have hi5 : ∀ w ∈ wsX50, w ∈ wsX5_sworn := by decide +kernel
  have hl := lv_entry ([.ref h, .int p0]) (n := 2) (Nat.le_of_ble_eq_true rfl)
  rw [lg_entry_eq]
  generalize (lg_sl ([.ref h, .int p0]) ++ List.replicate (2 - (lg_sl ([.ref h, .int p0])).length) Slot.unset).toArray = ls at hl ⊢
  have hl : lv_has ls 2 [(0, .ref h), (1, .int p0)] := hl
  refine lv_aload_n hx hb dX5_sworn_0 rfl (lv_at hl 0 rfl) ?_
  refine va_get (D := D) (ci := 5) (v := .ref (x 6)) (C := RX5) (T := TX5) (N := 8) hx hb hts hi5 hown hK hP 0 rfl rfl 6 (by decide) (hts (.fieldLink RX5 48 "AlibiRota" "now" "LAlibiRota$City;") (by decide +kernel)) (fun _ h9 => h9) rfl dX5_sworn_1 ?_
  refine lv_iload_n hx hb dX5_sworn_4 rfl (lv_at hl 1 rfl) ?_
  refine lv_i2l (v := p0.toInt64) hx hb dX5_sworn_5 rfl ?_
  have hPc := hP.sub (ws' := [(x 6, .inr (0, [.ref (n 0), .int 0, .int 0, .int 0, .ref (n 4), .ref (n 5), .ref (n 6), .ref (n 7), .ref (n 8), .int 0, .ref (n 10), .ref (n 11), .ref (n 12), .ref (n 13)]))]) [1] rfl
  refine vp_callSi (va_Run.run (va_runVN (As := [.long p0.toInt64]) (rest := []) ⟨hx, hb, hml, hown, hts⟩ (k_isPerson l D cI cZ cB cJ cR (x 6) n p0.toInt64) ⟨va_cnB 1 hts ggX5_sworn_X0_isPerson rfl rfl rfl (hz _ zw_RX5_83) (hts (.initialized RX0) (by decide +kernel)) (by decide +kernel) ⟨Nat.le_of_ble_eq_true rfl, Nat.le_of_ble_eq_true rfl⟩, hts (.instanceMethod yX0_isPerson) (by decide +kernel), hts (.selects RX0 yX0_isPerson yX0_isPerson) (by decide +kernel)⟩ ⟨fbS, va_recv hK hPc (ci := 0) (q0 := 0) rfl rfl, pS_at hPc hk⟩ rfl rfl hl.1 rfl (lv_room (Nat.le_of_ble_eq_true rfl)) dX5_sworn_6 ⟨show 0 ≤ 0 by decide, show 0 ≤ 0 by decide⟩)) (fun r1 hr1 => ?_)
  obtain rfl : r1 = 0 := hr1
  refine lv_if_eq (tgt := 23) hx hb dX5_sworn_9 (by decide) (fun _ => ?_) (fun c9 => absurd (by decide) c9)
  refine lv_bipush (v := (-2)) hx hb dX5_sworn_23 (by decide) ?_
  exact W.iret (v := (-2)) hx hb hr (fun t ht _ => ⟨(-2), rfl, rfl, ht⟩) (fun _ h => by cases h) dX5_sworn_25

set_option maxHeartbeats 4000000 in
set_option maxRecDepth 100000 in
theorem kx_gaps (l : Launch) (D : va_G) (cI cZ cB cJ cR : ClassId) (h : Nat) (x n q : Nat → Nat) (p0 : Int32) : Met l yX5_gaps wsX5_gaps ({ frames := 1, cells := 0, slots := 0, locals := 22 }) (va_Pc [.ref h, .int p0] (pS D cI cZ cB cJ cR [(h, .inr (5, [.ref (x 0), .ref (x 1), .ref (x 2), .ref (x 3), .ref (x 4), .ref (x 5), .ref (x 6), .ref (x 7)])), (x 6, .inr (0, [.ref (n 0), .int 0, .int 0, .int 0, .ref (n 4), .ref (n 5), .ref (n 6), .ref (n 7), .ref (n 8), .int 0, .ref (n 10), .ref (n 11), .ref (n 12), .ref (n 13)])), (n 0, .inl (cI, 7, .inl (fun _ => 0))), (x 1, .inr (3, [.ref (q 0), .ref (q 1), .ref (q 2), .ref (q 3)]))])) (vp_Si (fun r => r = (-2))) 0 0 (fun _ => False) := by
  refine Met.ofW (cc := cX5_gaps) (maxL := 2) (ret := (some .int)) (by decide) rfl ?_
  intro p e s m args below meth c s₁ B hml hv
  obtain ⟨rfl, hP, hk⟩ := hv
  have hK := hk.1
  have hz := hk.2.1
  have hx := B.exec
  have hb := B.bytes
  have hr := B.returns
  have hts := atoms_spec (ws := wsX5_gaps) B.pre
  have hown : s.vm.findClass RX5 = some m.cls := findClass_of_methodNamed B.named
  have hlocks := B.notSynchronized
  have hi5 : ∀ w ∈ wsX50, w ∈ wsX5_gaps := by decide +kernel
  have hl := lv_entry ([.ref h, .int p0]) (n := 2) (Nat.le_of_ble_eq_true rfl)
  rw [lg_entry_eq]
  generalize (lg_sl ([.ref h, .int p0]) ++ List.replicate (2 - (lg_sl ([.ref h, .int p0])).length) Slot.unset).toArray = ls at hl ⊢
  have hl : lv_has ls 2 [(0, .ref h), (1, .int p0)] := hl
  refine lv_aload_n hx hb dX5_gaps_0 rfl (lv_at hl 0 rfl) ?_
  refine va_get (D := D) (ci := 5) (v := .ref (x 6)) (C := RX5) (T := TX5) (N := 8) hx hb hts hi5 hown hK hP 0 rfl rfl 6 (by decide) (hts (.fieldLink RX5 48 "AlibiRota" "now" "LAlibiRota$City;") (by decide +kernel)) (fun _ h9 => h9) rfl dX5_gaps_1 ?_
  refine lv_iload_n hx hb dX5_gaps_4 rfl (lv_at hl 1 rfl) ?_
  refine lv_i2l (v := p0.toInt64) hx hb dX5_gaps_5 rfl ?_
  have hPc := hP.sub (ws' := [(x 6, .inr (0, [.ref (n 0), .int 0, .int 0, .int 0, .ref (n 4), .ref (n 5), .ref (n 6), .ref (n 7), .ref (n 8), .int 0, .ref (n 10), .ref (n 11), .ref (n 12), .ref (n 13)]))]) [1] rfl
  refine vp_callSi (va_Run.run (va_runVN (As := [.long p0.toInt64]) (rest := []) ⟨hx, hb, hml, hown, hts⟩ (k_isPerson l D cI cZ cB cJ cR (x 6) n p0.toInt64) ⟨va_cnB 1 hts ggX5_gaps_X0_isPerson rfl rfl rfl (hz _ zw_RX5_83) (hts (.initialized RX0) (by decide +kernel)) (by decide +kernel) ⟨Nat.le_of_ble_eq_true rfl, Nat.le_of_ble_eq_true rfl⟩, hts (.instanceMethod yX0_isPerson) (by decide +kernel), hts (.selects RX0 yX0_isPerson yX0_isPerson) (by decide +kernel)⟩ ⟨fbS, va_recv hK hPc (ci := 0) (q0 := 0) rfl rfl, pS_at hPc hk⟩ rfl rfl hl.1 rfl (lv_room (Nat.le_of_ble_eq_true rfl)) dX5_gaps_6 ⟨show 0 ≤ 0 by decide, show 0 ≤ 0 by decide⟩)) (fun r1 hr1 => ?_)
  obtain rfl : r1 = 0 := hr1
  refine lv_if_eq (tgt := 23) hx hb dX5_gaps_9 (by decide) (fun _ => ?_) (fun c9 => absurd (by decide) c9)
  refine lv_bipush (v := (-2)) hx hb dX5_gaps_23 (by decide) ?_
  exact W.iret (v := (-2)) hx hb hr (fun t ht _ => ⟨(-2), rfl, rfl, ht⟩) (fun _ h => by cases h) dX5_gaps_25

set_option maxHeartbeats 4000000 in
set_option maxRecDepth 100000 in
theorem kx_alone (l : Launch) (D : va_G) (cI cZ cB cJ cR : ClassId) (h : Nat) (x n q : Nat → Nat) (p0 : Int32) : Met l yX5_alone wsX5_alone ({ frames := 2, cells := 0, slots := 0, locals := 42 }) (va_Pc [.ref h, .int p0] (pS D cI cZ cB cJ cR [(h, .inr (5, [.ref (x 0), .ref (x 1), .ref (x 2), .ref (x 3), .ref (x 4), .ref (x 5), .ref (x 6), .ref (x 7)])), (x 6, .inr (0, [.ref (n 0), .int 0, .int 0, .int 0, .ref (n 4), .ref (n 5), .ref (n 6), .ref (n 7), .ref (n 8), .int 0, .ref (n 10), .ref (n 11), .ref (n 12), .ref (n 13)])), (n 0, .inl (cI, 7, .inl (fun _ => 0))), (x 1, .inr (3, [.ref (q 0), .ref (q 1), .ref (q 2), .ref (q 3)]))])) (vp_Si (fun r => r = (-2))) 0 0 (fun _ => False) := by
  refine Met.ofW (cc := cX5_alone) (maxL := 2) (ret := (some .int)) (by decide) rfl ?_
  intro p e s m args below meth c s₁ B hml hv
  obtain ⟨rfl, hP, hk⟩ := hv
  have hK := hk.1
  have hz := hk.2.1
  have hx := B.exec
  have hb := B.bytes
  have hr := B.returns
  have hts := atoms_spec (ws := wsX5_alone) B.pre
  have hown : s.vm.findClass RX5 = some m.cls := findClass_of_methodNamed B.named
  have hlocks := B.notSynchronized
  have hi5 : ∀ w ∈ wsX50, w ∈ wsX5_alone := by decide +kernel
  have hl := lv_entry ([.ref h, .int p0]) (n := 2) (Nat.le_of_ble_eq_true rfl)
  rw [lg_entry_eq]
  generalize (lg_sl ([.ref h, .int p0]) ++ List.replicate (2 - (lg_sl ([.ref h, .int p0])).length) Slot.unset).toArray = ls at hl ⊢
  have hl : lv_has ls 2 [(0, .ref h), (1, .int p0)] := hl
  refine lv_aload_n hx hb dX5_alone_0 rfl (lv_at hl 0 rfl) ?_
  refine va_get (D := D) (ci := 5) (v := .ref (x 6)) (C := RX5) (T := TX5) (N := 8) hx hb hts hi5 hown hK hP 0 rfl rfl 6 (by decide) (hts (.fieldLink RX5 48 "AlibiRota" "now" "LAlibiRota$City;") (by decide +kernel)) (fun _ h9 => h9) rfl dX5_alone_1 ?_
  refine lv_iload_n hx hb dX5_alone_4 rfl (lv_at hl 1 rfl) ?_
  refine lv_i2l (v := p0.toInt64) hx hb dX5_alone_5 rfl ?_
  have hPc := hP.sub (ws' := [(x 6, .inr (0, [.ref (n 0), .int 0, .int 0, .int 0, .ref (n 4), .ref (n 5), .ref (n 6), .ref (n 7), .ref (n 8), .int 0, .ref (n 10), .ref (n 11), .ref (n 12), .ref (n 13)])), (n 0, .inl (cI, 7, .inl (fun _ => 0)))]) [1, 2] rfl
  refine vp_callSi (va_Run.run (va_runVN (As := [.long p0.toInt64]) (rest := []) ⟨hx, hb, hml, hown, hts⟩ (k_isHour l D cI cZ cB cJ cR (x 6) n p0.toInt64) ⟨va_cnB 1 hts ggX5_alone_X0_isHour rfl rfl rfl (hz _ zw_RX5_87) (hts (.initialized RX0) (by decide +kernel)) (by decide +kernel) ⟨Nat.le_of_ble_eq_true rfl, Nat.le_of_ble_eq_true rfl⟩, hts (.instanceMethod yX0_isHour) (by decide +kernel), hts (.selects RX0 yX0_isHour yX0_isHour) (by decide +kernel)⟩ ⟨fbS, va_recv hK hPc (ci := 0) (q0 := 0) rfl rfl, pS_at hPc hk⟩ rfl rfl hl.1 rfl (lv_room (Nat.le_of_ble_eq_true rfl)) dX5_alone_6 ⟨show 0 ≤ 0 by decide, show 0 ≤ 0 by decide⟩)) (fun r1 hr1 => ?_)
  obtain rfl : r1 = 0 := hr1
  refine lv_if_eq (tgt := 23) hx hb dX5_alone_9 (by decide) (fun _ => ?_) (fun c9 => absurd (by decide) c9)
  refine lv_bipush (v := (-2)) hx hb dX5_alone_23 (by decide) ?_
  exact W.iret (v := (-2)) hx hb hr (fun t ht _ => ⟨(-2), rfl, rfl, ht⟩) (fun _ h => by cases h) dX5_alone_25

set_option maxHeartbeats 4000000 in
set_option maxRecDepth 100000 in
theorem kx_all (l : Launch) (D : va_G) (cI cZ cB cJ cR : ClassId) (h : Nat) (x n q : Nat → Nat)  : Met l yX5_all wsX5_all ({ frames := 1, cells := 0, slots := 0, locals := 20 }) (va_Pc [.ref h] (pS D cI cZ cB cJ cR [(h, .inr (5, [.ref (x 0), .ref (x 1), .ref (x 2), .ref (x 3), .ref (x 4), .ref (x 5), .ref (x 6), .ref (x 7)])), (x 6, .inr (0, [.ref (n 0), .int 0, .int 0, .int 0, .ref (n 4), .ref (n 5), .ref (n 6), .ref (n 7), .ref (n 8), .int 0, .ref (n 10), .ref (n 11), .ref (n 12), .ref (n 13)])), (n 0, .inl (cI, 7, .inl (fun _ => 0))), (x 1, .inr (3, [.ref (q 0), .ref (q 1), .ref (q 2), .ref (q 3)]))])) (vp_Si (fun r => r = (-2))) 0 0 (fun _ => False) := by
  refine Met.ofW (cc := cX5_all) (maxL := 1) (ret := (some .int)) (by decide) rfl ?_
  intro p e s m args below meth c s₁ B hml hv
  obtain ⟨rfl, hP, hk⟩ := hv
  have hK := hk.1
  have hz := hk.2.1
  have hx := B.exec
  have hb := B.bytes
  have hr := B.returns
  have hts := atoms_spec (ws := wsX5_all) B.pre
  have hown : s.vm.findClass RX5 = some m.cls := findClass_of_methodNamed B.named
  have hlocks := B.notSynchronized
  have hi5 : ∀ w ∈ wsX50, w ∈ wsX5_all := by decide +kernel
  have hl := lv_entry ([.ref h]) (n := 1) (Nat.le_of_ble_eq_true rfl)
  rw [lg_entry_eq]
  generalize (lg_sl ([.ref h]) ++ List.replicate (1 - (lg_sl ([.ref h])).length) Slot.unset).toArray = ls at hl ⊢
  have hl : lv_has ls 1 [(0, .ref h)] := hl
  refine lv_aload_n hx hb dX5_all_0 rfl (lv_at hl 0 rfl) ?_
  refine va_get (D := D) (ci := 5) (v := .ref (x 6)) (C := RX5) (T := TX5) (N := 8) hx hb hts hi5 hown hK hP 0 rfl rfl 6 (by decide) (hts (.fieldLink RX5 48 "AlibiRota" "now" "LAlibiRota$City;") (by decide +kernel)) (fun _ h9 => h9) rfl dX5_all_1 ?_
  have hPc := hP.sub (ws' := [(x 6, .inr (0, [.ref (n 0), .int 0, .int 0, .int 0, .ref (n 4), .ref (n 5), .ref (n 6), .ref (n 7), .ref (n 8), .int 0, .ref (n 10), .ref (n 11), .ref (n 12), .ref (n 13)]))]) [1] rfl
  refine vp_callSi (va_Run.run (va_runVN (As := []) (rest := []) ⟨hx, hb, hml, hown, hts⟩ (k_exists l D cI cZ cB cJ cR (x 6) n ) ⟨va_cnB 0 hts ggX5_all_X0_exists rfl rfl rfl (hz _ zw_RX5_115) (hts (.initialized RX0) (by decide +kernel)) (by decide +kernel) ⟨Nat.le_of_ble_eq_true rfl, Nat.le_of_ble_eq_true rfl⟩, hts (.instanceMethod yX0_exists) (by decide +kernel), hts (.selects RX0 yX0_exists yX0_exists) (by decide +kernel)⟩ ⟨fbS, va_recv hK hPc (ci := 0) (q0 := 0) rfl rfl, pS_at hPc hk⟩ rfl rfl hl.1 rfl (lv_room (Nat.le_of_ble_eq_true rfl)) dX5_all_4 ⟨show 0 ≤ 0 by decide, show 0 ≤ 0 by decide⟩)) (fun r1 hr1 => ?_)
  obtain rfl : r1 = 0 := hr1
  refine lv_if_eq (tgt := 27) hx hb dX5_all_7 (by decide) (fun _ => ?_) (fun c9 => absurd (by decide) c9)
  refine lv_bipush (v := (-2)) hx hb dX5_all_27 (by decide) ?_
  exact W.iret (v := (-2)) hx hb hr (fun t ht _ => ⟨(-2), rfl, rfl, ht⟩) (fun _ h => by cases h) dX5_all_29

set_option maxHeartbeats 4000000 in
set_option maxRecDepth 100000 in
theorem kx_longest (l : Launch) (D : va_G) (cI cZ cB cJ cR : ClassId) (h : Nat) (x n q : Nat → Nat) (p0 : Int32) : Met l yX5_longest wsX5_longest ({ frames := 1, cells := 0, slots := 0, locals := 22 }) (va_Pc [.ref h, .int p0] (pS D cI cZ cB cJ cR [(h, .inr (5, [.ref (x 0), .ref (x 1), .ref (x 2), .ref (x 3), .ref (x 4), .ref (x 5), .ref (x 6), .ref (x 7)])), (x 6, .inr (0, [.ref (n 0), .int 0, .int 0, .int 0, .ref (n 4), .ref (n 5), .ref (n 6), .ref (n 7), .ref (n 8), .int 0, .ref (n 10), .ref (n 11), .ref (n 12), .ref (n 13)])), (n 0, .inl (cI, 7, .inl (fun _ => 0))), (x 1, .inr (3, [.ref (q 0), .ref (q 1), .ref (q 2), .ref (q 3)]))])) (vp_Si (fun r => r = (-2))) 0 0 (fun _ => False) := by
  refine Met.ofW (cc := cX5_longest) (maxL := 6) (ret := (some .int)) (by decide) rfl ?_
  intro p e s m args below meth c s₁ B hml hv
  obtain ⟨rfl, hP, hk⟩ := hv
  have hK := hk.1
  have hz := hk.2.1
  have hx := B.exec
  have hb := B.bytes
  have hr := B.returns
  have hts := atoms_spec (ws := wsX5_longest) B.pre
  have hown : s.vm.findClass RX5 = some m.cls := findClass_of_methodNamed B.named
  have hlocks := B.notSynchronized
  have hi5 : ∀ w ∈ wsX50, w ∈ wsX5_longest := by decide +kernel
  have hl := lv_entry ([.ref h, .int p0]) (n := 6) (Nat.le_of_ble_eq_true rfl)
  rw [lg_entry_eq]
  generalize (lg_sl ([.ref h, .int p0]) ++ List.replicate (6 - (lg_sl ([.ref h, .int p0])).length) Slot.unset).toArray = ls at hl ⊢
  have hl : lv_has ls 6 [(0, .ref h), (1, .int p0)] := hl
  refine lv_aload_n hx hb dX5_longest_0 rfl (lv_at hl 0 rfl) ?_
  refine va_get (D := D) (ci := 5) (v := .ref (x 6)) (C := RX5) (T := TX5) (N := 8) hx hb hts hi5 hown hK hP 0 rfl rfl 6 (by decide) (hts (.fieldLink RX5 48 "AlibiRota" "now" "LAlibiRota$City;") (by decide +kernel)) (fun _ h9 => h9) rfl dX5_longest_1 ?_
  refine lv_iload_n hx hb dX5_longest_4 rfl (lv_at hl 1 rfl) ?_
  refine lv_i2l (v := p0.toInt64) hx hb dX5_longest_5 rfl ?_
  have hPc := hP.sub (ws' := [(x 6, .inr (0, [.ref (n 0), .int 0, .int 0, .int 0, .ref (n 4), .ref (n 5), .ref (n 6), .ref (n 7), .ref (n 8), .int 0, .ref (n 10), .ref (n 11), .ref (n 12), .ref (n 13)]))]) [1] rfl
  refine vp_callSi (va_Run.run (va_runVN (As := [.long p0.toInt64]) (rest := []) ⟨hx, hb, hml, hown, hts⟩ (k_isPerson l D cI cZ cB cJ cR (x 6) n p0.toInt64) ⟨va_cnB 1 hts ggX5_longest_X0_isPerson rfl rfl rfl (hz _ zw_RX5_83) (hts (.initialized RX0) (by decide +kernel)) (by decide +kernel) ⟨Nat.le_of_ble_eq_true rfl, Nat.le_of_ble_eq_true rfl⟩, hts (.instanceMethod yX0_isPerson) (by decide +kernel), hts (.selects RX0 yX0_isPerson yX0_isPerson) (by decide +kernel)⟩ ⟨fbS, va_recv hK hPc (ci := 0) (q0 := 0) rfl rfl, pS_at hPc hk⟩ rfl rfl hl.1 rfl (lv_room (Nat.le_of_ble_eq_true rfl)) dX5_longest_6 ⟨show 0 ≤ 0 by decide, show 0 ≤ 0 by decide⟩)) (fun r1 hr1 => ?_)
  obtain rfl : r1 = 0 := hr1
  refine lv_if_ne (tgt := 15) hx hb dX5_longest_9 (by decide) (fun c9 => absurd (by decide) c9) (fun _ => ?_)
  refine lv_bipush (v := (-2)) hx hb dX5_longest_12 (by decide) ?_
  exact W.iret (v := (-2)) hx hb hr (fun t ht _ => ⟨(-2), rfl, rfl, ht⟩) (fun _ h => by cases h) dX5_longest_14

set_option maxHeartbeats 4000000 in
set_option maxRecDepth 100000 in
theorem kx_fine (l : Launch) (D : va_G) (cI cZ cB cJ cR : ClassId) (h : Nat) (x n q : Nat → Nat) (p0 : Int32) : Met l yX5_fine wsX5_fine ({ frames := 1, cells := 0, slots := 0, locals := 22 }) (va_Pc [.ref h, .int p0] (pS D cI cZ cB cJ cR [(h, .inr (5, [.ref (x 0), .ref (x 1), .ref (x 2), .ref (x 3), .ref (x 4), .ref (x 5), .ref (x 6), .ref (x 7)])), (x 6, .inr (0, [.ref (n 0), .int 0, .int 0, .int 0, .ref (n 4), .ref (n 5), .ref (n 6), .ref (n 7), .ref (n 8), .int 0, .ref (n 10), .ref (n 11), .ref (n 12), .ref (n 13)])), (n 0, .inl (cI, 7, .inl (fun _ => 0))), (x 1, .inr (3, [.ref (q 0), .ref (q 1), .ref (q 2), .ref (q 3)]))])) (vp_Si (fun r => r = (-2))) 0 0 (fun _ => False) := by
  refine Met.ofW (cc := cX5_fine) (maxL := 2) (ret := (some .int)) (by decide) rfl ?_
  intro p e s m args below meth c s₁ B hml hv
  obtain ⟨rfl, hP, hk⟩ := hv
  have hK := hk.1
  have hz := hk.2.1
  have hx := B.exec
  have hb := B.bytes
  have hr := B.returns
  have hts := atoms_spec (ws := wsX5_fine) B.pre
  have hown : s.vm.findClass RX5 = some m.cls := findClass_of_methodNamed B.named
  have hlocks := B.notSynchronized
  have hi5 : ∀ w ∈ wsX50, w ∈ wsX5_fine := by decide +kernel
  have hl := lv_entry ([.ref h, .int p0]) (n := 2) (Nat.le_of_ble_eq_true rfl)
  rw [lg_entry_eq]
  generalize (lg_sl ([.ref h, .int p0]) ++ List.replicate (2 - (lg_sl ([.ref h, .int p0])).length) Slot.unset).toArray = ls at hl ⊢
  have hl : lv_has ls 2 [(0, .ref h), (1, .int p0)] := hl
  refine lv_aload_n hx hb dX5_fine_0 rfl (lv_at hl 0 rfl) ?_
  refine va_get (D := D) (ci := 5) (v := .ref (x 6)) (C := RX5) (T := TX5) (N := 8) hx hb hts hi5 hown hK hP 0 rfl rfl 6 (by decide) (hts (.fieldLink RX5 48 "AlibiRota" "now" "LAlibiRota$City;") (by decide +kernel)) (fun _ h9 => h9) rfl dX5_fine_1 ?_
  refine lv_iload_n hx hb dX5_fine_4 rfl (lv_at hl 1 rfl) ?_
  refine lv_i2l (v := p0.toInt64) hx hb dX5_fine_5 rfl ?_
  have hPc := hP.sub (ws' := [(x 6, .inr (0, [.ref (n 0), .int 0, .int 0, .int 0, .ref (n 4), .ref (n 5), .ref (n 6), .ref (n 7), .ref (n 8), .int 0, .ref (n 10), .ref (n 11), .ref (n 12), .ref (n 13)]))]) [1] rfl
  refine vp_callSi (va_Run.run (va_runVN (As := [.long p0.toInt64]) (rest := []) ⟨hx, hb, hml, hown, hts⟩ (k_isPerson l D cI cZ cB cJ cR (x 6) n p0.toInt64) ⟨va_cnB 1 hts ggX5_fine_X0_isPerson rfl rfl rfl (hz _ zw_RX5_83) (hts (.initialized RX0) (by decide +kernel)) (by decide +kernel) ⟨Nat.le_of_ble_eq_true rfl, Nat.le_of_ble_eq_true rfl⟩, hts (.instanceMethod yX0_isPerson) (by decide +kernel), hts (.selects RX0 yX0_isPerson yX0_isPerson) (by decide +kernel)⟩ ⟨fbS, va_recv hK hPc (ci := 0) (q0 := 0) rfl rfl, pS_at hPc hk⟩ rfl rfl hl.1 rfl (lv_room (Nat.le_of_ble_eq_true rfl)) dX5_fine_6 ⟨show 0 ≤ 0 by decide, show 0 ≤ 0 by decide⟩)) (fun r1 hr1 => ?_)
  obtain rfl : r1 = 0 := hr1
  refine lv_if_eq (tgt := 23) hx hb dX5_fine_9 (by decide) (fun _ => ?_) (fun c9 => absurd (by decide) c9)
  refine lv_bipush (v := (-2)) hx hb dX5_fine_23 (by decide) ?_
  exact W.iret (v := (-2)) hx hb hr (fun t ht _ => ⟨(-2), rfl, rfl, ht⟩) (fun _ h => by cases h) dX5_fine_25

set_option maxHeartbeats 4000000 in
set_option maxRecDepth 100000 in
theorem kx_worst (l : Launch) (D : va_G) (cI cZ cB cJ cR : ClassId) (h : Nat) (x n q : Nat → Nat)  : Met l yX5_worst wsX5_worst ({ frames := 1, cells := 0, slots := 0, locals := 20 }) (va_Pc [.ref h] (pS D cI cZ cB cJ cR [(h, .inr (5, [.ref (x 0), .ref (x 1), .ref (x 2), .ref (x 3), .ref (x 4), .ref (x 5), .ref (x 6), .ref (x 7)])), (x 6, .inr (0, [.ref (n 0), .int 0, .int 0, .int 0, .ref (n 4), .ref (n 5), .ref (n 6), .ref (n 7), .ref (n 8), .int 0, .ref (n 10), .ref (n 11), .ref (n 12), .ref (n 13)])), (n 0, .inl (cI, 7, .inl (fun _ => 0))), (x 1, .inr (3, [.ref (q 0), .ref (q 1), .ref (q 2), .ref (q 3)]))])) (vp_Si (fun r => r = (-2))) 0 0 (fun _ => False) := by
  refine Met.ofW (cc := cX5_worst) (maxL := 5) (ret := (some .int)) (by decide) rfl ?_
  intro p e s m args below meth c s₁ B hml hv
  obtain ⟨rfl, hP, hk⟩ := hv
  have hK := hk.1
  have hz := hk.2.1
  have hx := B.exec
  have hb := B.bytes
  have hr := B.returns
  have hts := atoms_spec (ws := wsX5_worst) B.pre
  have hown : s.vm.findClass RX5 = some m.cls := findClass_of_methodNamed B.named
  have hlocks := B.notSynchronized
  have hi5 : ∀ w ∈ wsX50, w ∈ wsX5_worst := by decide +kernel
  have hl := lv_entry ([.ref h]) (n := 5) (Nat.le_of_ble_eq_true rfl)
  rw [lg_entry_eq]
  generalize (lg_sl ([.ref h]) ++ List.replicate (5 - (lg_sl ([.ref h])).length) Slot.unset).toArray = ls at hl ⊢
  have hl : lv_has ls 5 [(0, .ref h)] := hl
  refine lv_aload_n hx hb dX5_worst_0 rfl (lv_at hl 0 rfl) ?_
  refine va_get (D := D) (ci := 5) (v := .ref (x 6)) (C := RX5) (T := TX5) (N := 8) hx hb hts hi5 hown hK hP 0 rfl rfl 6 (by decide) (hts (.fieldLink RX5 48 "AlibiRota" "now" "LAlibiRota$City;") (by decide +kernel)) (fun _ h9 => h9) rfl dX5_worst_1 ?_
  have hPc := hP.sub (ws' := [(x 6, .inr (0, [.ref (n 0), .int 0, .int 0, .int 0, .ref (n 4), .ref (n 5), .ref (n 6), .ref (n 7), .ref (n 8), .int 0, .ref (n 10), .ref (n 11), .ref (n 12), .ref (n 13)]))]) [1] rfl
  refine vp_callSi (va_Run.run (va_runVN (As := []) (rest := []) ⟨hx, hb, hml, hown, hts⟩ (k_exists l D cI cZ cB cJ cR (x 6) n ) ⟨va_cnB 0 hts ggX5_worst_X0_exists rfl rfl rfl (hz _ zw_RX5_115) (hts (.initialized RX0) (by decide +kernel)) (by decide +kernel) ⟨Nat.le_of_ble_eq_true rfl, Nat.le_of_ble_eq_true rfl⟩, hts (.instanceMethod yX0_exists) (by decide +kernel), hts (.selects RX0 yX0_exists yX0_exists) (by decide +kernel)⟩ ⟨fbS, va_recv hK hPc (ci := 0) (q0 := 0) rfl rfl, pS_at hPc hk⟩ rfl rfl hl.1 rfl (lv_room (Nat.le_of_ble_eq_true rfl)) dX5_worst_4 ⟨show 0 ≤ 0 by decide, show 0 ≤ 0 by decide⟩)) (fun r1 hr1 => ?_)
  obtain rfl : r1 = 0 := hr1
  refine lv_if_ne (tgt := 13) hx hb dX5_worst_7 (by decide) (fun c9 => absurd (by decide) c9) (fun _ => ?_)
  refine lv_bipush (v := (-2)) hx hb dX5_worst_10 (by decide) ?_
  exact W.iret (v := (-2)) hx hb hr (fun t ht _ => ⟨(-2), rfl, rfl, ht⟩) (fun _ h => by cases h) dX5_worst_12

set_option maxHeartbeats 4000000 in
set_option maxRecDepth 100000 in
theorem kx_unsworn (l : Launch) (D : va_G) (cI cZ cB cJ cR : ClassId) (h : Nat) (x n q : Nat → Nat)  : Met l yX5_unsworn wsX5_unsworn ({ frames := 1, cells := 0, slots := 0, locals := 20 }) (va_Pc [.ref h] (pS D cI cZ cB cJ cR [(h, .inr (5, [.ref (x 0), .ref (x 1), .ref (x 2), .ref (x 3), .ref (x 4), .ref (x 5), .ref (x 6), .ref (x 7)])), (x 6, .inr (0, [.ref (n 0), .int 0, .int 0, .int 0, .ref (n 4), .ref (n 5), .ref (n 6), .ref (n 7), .ref (n 8), .int 0, .ref (n 10), .ref (n 11), .ref (n 12), .ref (n 13)])), (n 0, .inl (cI, 7, .inl (fun _ => 0))), (x 1, .inr (3, [.ref (q 0), .ref (q 1), .ref (q 2), .ref (q 3)]))])) (vp_Si (fun r => r = (-2))) 0 0 (fun _ => False) := by
  refine Met.ofW (cc := cX5_unsworn) (maxL := 3) (ret := (some .int)) (by decide) rfl ?_
  intro p e s m args below meth c s₁ B hml hv
  obtain ⟨rfl, hP, hk⟩ := hv
  have hK := hk.1
  have hz := hk.2.1
  have hx := B.exec
  have hb := B.bytes
  have hr := B.returns
  have hts := atoms_spec (ws := wsX5_unsworn) B.pre
  have hown : s.vm.findClass RX5 = some m.cls := findClass_of_methodNamed B.named
  have hlocks := B.notSynchronized
  have hi5 : ∀ w ∈ wsX50, w ∈ wsX5_unsworn := by decide +kernel
  have hl := lv_entry ([.ref h]) (n := 3) (Nat.le_of_ble_eq_true rfl)
  rw [lg_entry_eq]
  generalize (lg_sl ([.ref h]) ++ List.replicate (3 - (lg_sl ([.ref h])).length) Slot.unset).toArray = ls at hl ⊢
  have hl : lv_has ls 3 [(0, .ref h)] := hl
  refine lv_aload_n hx hb dX5_unsworn_0 rfl (lv_at hl 0 rfl) ?_
  refine va_get (D := D) (ci := 5) (v := .ref (x 6)) (C := RX5) (T := TX5) (N := 8) hx hb hts hi5 hown hK hP 0 rfl rfl 6 (by decide) (hts (.fieldLink RX5 48 "AlibiRota" "now" "LAlibiRota$City;") (by decide +kernel)) (fun _ h9 => h9) rfl dX5_unsworn_1 ?_
  have hPc := hP.sub (ws' := [(x 6, .inr (0, [.ref (n 0), .int 0, .int 0, .int 0, .ref (n 4), .ref (n 5), .ref (n 6), .ref (n 7), .ref (n 8), .int 0, .ref (n 10), .ref (n 11), .ref (n 12), .ref (n 13)]))]) [1] rfl
  refine vp_callSi (va_Run.run (va_runVN (As := []) (rest := []) ⟨hx, hb, hml, hown, hts⟩ (k_exists l D cI cZ cB cJ cR (x 6) n ) ⟨va_cnB 0 hts ggX5_unsworn_X0_exists rfl rfl rfl (hz _ zw_RX5_115) (hts (.initialized RX0) (by decide +kernel)) (by decide +kernel) ⟨Nat.le_of_ble_eq_true rfl, Nat.le_of_ble_eq_true rfl⟩, hts (.instanceMethod yX0_exists) (by decide +kernel), hts (.selects RX0 yX0_exists yX0_exists) (by decide +kernel)⟩ ⟨fbS, va_recv hK hPc (ci := 0) (q0 := 0) rfl rfl, pS_at hPc hk⟩ rfl rfl hl.1 rfl (lv_room (Nat.le_of_ble_eq_true rfl)) dX5_unsworn_4 ⟨show 0 ≤ 0 by decide, show 0 ≤ 0 by decide⟩)) (fun r1 hr1 => ?_)
  obtain rfl : r1 = 0 := hr1
  refine lv_if_ne (tgt := 13) hx hb dX5_unsworn_7 (by decide) (fun c9 => absurd (by decide) c9) (fun _ => ?_)
  refine lv_bipush (v := (-2)) hx hb dX5_unsworn_10 (by decide) ?_
  exact W.iret (v := (-2)) hx hb hr (fun t ht _ => ⟨(-2), rfl, rfl, ht⟩) (fun _ h => by cases h) dX5_unsworn_12

set_option maxHeartbeats 4000000 in
set_option maxRecDepth 100000 in
theorem kx_rings (l : Launch) (D : va_G) (cI cZ cB cJ cR : ClassId) (h : Nat) (x n q : Nat → Nat)  : Met l yX5_rings wsX5_rings ({ frames := 1, cells := 0, slots := 0, locals := 20 }) (va_Pc [.ref h] (pS D cI cZ cB cJ cR [(h, .inr (5, [.ref (x 0), .ref (x 1), .ref (x 2), .ref (x 3), .ref (x 4), .ref (x 5), .ref (x 6), .ref (x 7)])), (x 6, .inr (0, [.ref (n 0), .int 0, .int 0, .int 0, .ref (n 4), .ref (n 5), .ref (n 6), .ref (n 7), .ref (n 8), .int 0, .ref (n 10), .ref (n 11), .ref (n 12), .ref (n 13)])), (n 0, .inl (cI, 7, .inl (fun _ => 0))), (x 1, .inr (3, [.ref (q 0), .ref (q 1), .ref (q 2), .ref (q 3)]))])) (vp_Si (fun r => r = (-2))) 0 0 (fun _ => False) := by
  refine Met.ofW (cc := cX5_rings) (maxL := 4) (ret := (some .int)) (by decide) rfl ?_
  intro p e s m args below meth c s₁ B hml hv
  obtain ⟨rfl, hP, hk⟩ := hv
  have hK := hk.1
  have hz := hk.2.1
  have hx := B.exec
  have hb := B.bytes
  have hr := B.returns
  have hts := atoms_spec (ws := wsX5_rings) B.pre
  have hown : s.vm.findClass RX5 = some m.cls := findClass_of_methodNamed B.named
  have hlocks := B.notSynchronized
  have hi5 : ∀ w ∈ wsX50, w ∈ wsX5_rings := by decide +kernel
  have hl := lv_entry ([.ref h]) (n := 4) (Nat.le_of_ble_eq_true rfl)
  rw [lg_entry_eq]
  generalize (lg_sl ([.ref h]) ++ List.replicate (4 - (lg_sl ([.ref h])).length) Slot.unset).toArray = ls at hl ⊢
  have hl : lv_has ls 4 [(0, .ref h)] := hl
  refine lv_aload_n hx hb dX5_rings_0 rfl (lv_at hl 0 rfl) ?_
  refine va_get (D := D) (ci := 5) (v := .ref (x 6)) (C := RX5) (T := TX5) (N := 8) hx hb hts hi5 hown hK hP 0 rfl rfl 6 (by decide) (hts (.fieldLink RX5 48 "AlibiRota" "now" "LAlibiRota$City;") (by decide +kernel)) (fun _ h9 => h9) rfl dX5_rings_1 ?_
  have hPc := hP.sub (ws' := [(x 6, .inr (0, [.ref (n 0), .int 0, .int 0, .int 0, .ref (n 4), .ref (n 5), .ref (n 6), .ref (n 7), .ref (n 8), .int 0, .ref (n 10), .ref (n 11), .ref (n 12), .ref (n 13)]))]) [1] rfl
  refine vp_callSi (va_Run.run (va_runVN (As := []) (rest := []) ⟨hx, hb, hml, hown, hts⟩ (k_exists l D cI cZ cB cJ cR (x 6) n ) ⟨va_cnB 0 hts ggX5_rings_X0_exists rfl rfl rfl (hz _ zw_RX5_115) (hts (.initialized RX0) (by decide +kernel)) (by decide +kernel) ⟨Nat.le_of_ble_eq_true rfl, Nat.le_of_ble_eq_true rfl⟩, hts (.instanceMethod yX0_exists) (by decide +kernel), hts (.selects RX0 yX0_exists yX0_exists) (by decide +kernel)⟩ ⟨fbS, va_recv hK hPc (ci := 0) (q0 := 0) rfl rfl, pS_at hPc hk⟩ rfl rfl hl.1 rfl (lv_room (Nat.le_of_ble_eq_true rfl)) dX5_rings_4 ⟨show 0 ≤ 0 by decide, show 0 ≤ 0 by decide⟩)) (fun r1 hr1 => ?_)
  obtain rfl : r1 = 0 := hr1
  refine lv_if_ne (tgt := 13) hx hb dX5_rings_7 (by decide) (fun c9 => absurd (by decide) c9) (fun _ => ?_)
  refine lv_bipush (v := (-2)) hx hb dX5_rings_10 (by decide) ?_
  exact W.iret (v := (-2)) hx hb hr (fun t ht _ => ⟨(-2), rfl, rfl, ht⟩) (fun _ h => by cases h) dX5_rings_12

set_option maxHeartbeats 4000000 in
set_option maxRecDepth 100000 in
theorem kx_ring (l : Launch) (D : va_G) (cI cZ cB cJ cR : ClassId) (h : Nat) (x n q : Nat → Nat) (p0 : Int32) : Met l yX5_ring wsX5_ring ({ frames := 1, cells := 0, slots := 0, locals := 22 }) (va_Pc [.ref h, .int p0] (pS D cI cZ cB cJ cR [(h, .inr (5, [.ref (x 0), .ref (x 1), .ref (x 2), .ref (x 3), .ref (x 4), .ref (x 5), .ref (x 6), .ref (x 7)])), (x 6, .inr (0, [.ref (n 0), .int 0, .int 0, .int 0, .ref (n 4), .ref (n 5), .ref (n 6), .ref (n 7), .ref (n 8), .int 0, .ref (n 10), .ref (n 11), .ref (n 12), .ref (n 13)])), (n 0, .inl (cI, 7, .inl (fun _ => 0))), (x 1, .inr (3, [.ref (q 0), .ref (q 1), .ref (q 2), .ref (q 3)]))])) (vp_Si (fun r => r = (-2))) 0 0 (fun _ => False) := by
  refine Met.ofW (cc := cX5_ring) (maxL := 2) (ret := (some .int)) (by decide) rfl ?_
  intro p e s m args below meth c s₁ B hml hv
  obtain ⟨rfl, hP, hk⟩ := hv
  have hK := hk.1
  have hz := hk.2.1
  have hx := B.exec
  have hb := B.bytes
  have hr := B.returns
  have hts := atoms_spec (ws := wsX5_ring) B.pre
  have hown : s.vm.findClass RX5 = some m.cls := findClass_of_methodNamed B.named
  have hlocks := B.notSynchronized
  have hi5 : ∀ w ∈ wsX50, w ∈ wsX5_ring := by decide +kernel
  have hl := lv_entry ([.ref h, .int p0]) (n := 2) (Nat.le_of_ble_eq_true rfl)
  rw [lg_entry_eq]
  generalize (lg_sl ([.ref h, .int p0]) ++ List.replicate (2 - (lg_sl ([.ref h, .int p0])).length) Slot.unset).toArray = ls at hl ⊢
  have hl : lv_has ls 2 [(0, .ref h), (1, .int p0)] := hl
  refine lv_aload_n hx hb dX5_ring_0 rfl (lv_at hl 0 rfl) ?_
  refine va_get (D := D) (ci := 5) (v := .ref (x 6)) (C := RX5) (T := TX5) (N := 8) hx hb hts hi5 hown hK hP 0 rfl rfl 6 (by decide) (hts (.fieldLink RX5 48 "AlibiRota" "now" "LAlibiRota$City;") (by decide +kernel)) (fun _ h9 => h9) rfl dX5_ring_1 ?_
  refine lv_iload_n hx hb dX5_ring_4 rfl (lv_at hl 1 rfl) ?_
  refine lv_i2l (v := p0.toInt64) hx hb dX5_ring_5 rfl ?_
  have hPc := hP.sub (ws' := [(x 6, .inr (0, [.ref (n 0), .int 0, .int 0, .int 0, .ref (n 4), .ref (n 5), .ref (n 6), .ref (n 7), .ref (n 8), .int 0, .ref (n 10), .ref (n 11), .ref (n 12), .ref (n 13)]))]) [1] rfl
  refine vp_callSi (va_Run.run (va_runVN (As := [.long p0.toInt64]) (rest := []) ⟨hx, hb, hml, hown, hts⟩ (k_isPerson l D cI cZ cB cJ cR (x 6) n p0.toInt64) ⟨va_cnB 1 hts ggX5_ring_X0_isPerson rfl rfl rfl (hz _ zw_RX5_83) (hts (.initialized RX0) (by decide +kernel)) (by decide +kernel) ⟨Nat.le_of_ble_eq_true rfl, Nat.le_of_ble_eq_true rfl⟩, hts (.instanceMethod yX0_isPerson) (by decide +kernel), hts (.selects RX0 yX0_isPerson yX0_isPerson) (by decide +kernel)⟩ ⟨fbS, va_recv hK hPc (ci := 0) (q0 := 0) rfl rfl, pS_at hPc hk⟩ rfl rfl hl.1 rfl (lv_room (Nat.le_of_ble_eq_true rfl)) dX5_ring_6 ⟨show 0 ≤ 0 by decide, show 0 ≤ 0 by decide⟩)) (fun r1 hr1 => ?_)
  obtain rfl : r1 = 0 := hr1
  refine lv_if_eq (tgt := 23) hx hb dX5_ring_9 (by decide) (fun _ => ?_) (fun c9 => absurd (by decide) c9)
  refine lv_bipush (v := (-2)) hx hb dX5_ring_23 (by decide) ?_
  exact W.iret (v := (-2)) hx hb hr (fun t ht _ => ⟨(-2), rfl, rfl, ht⟩) (fun _ h => by cases h) dX5_ring_25

set_option maxHeartbeats 4000000 in
set_option maxRecDepth 100000 in
theorem kx_chain (l : Launch) (D : va_G) (cI cZ cB cJ cR : ClassId) (h : Nat) (x n q : Nat → Nat) (p0 : Int32) : Met l yX5_chain wsX5_chain ({ frames := 1, cells := 0, slots := 0, locals := 22 }) (va_Pc [.ref h, .int p0] (pS D cI cZ cB cJ cR [(h, .inr (5, [.ref (x 0), .ref (x 1), .ref (x 2), .ref (x 3), .ref (x 4), .ref (x 5), .ref (x 6), .ref (x 7)])), (x 6, .inr (0, [.ref (n 0), .int 0, .int 0, .int 0, .ref (n 4), .ref (n 5), .ref (n 6), .ref (n 7), .ref (n 8), .int 0, .ref (n 10), .ref (n 11), .ref (n 12), .ref (n 13)])), (n 0, .inl (cI, 7, .inl (fun _ => 0))), (x 1, .inr (3, [.ref (q 0), .ref (q 1), .ref (q 2), .ref (q 3)]))])) (vp_Si (fun r => r = (-2))) 0 0 (fun _ => False) := by
  refine Met.ofW (cc := cX5_chain) (maxL := 2) (ret := (some .int)) (by decide) rfl ?_
  intro p e s m args below meth c s₁ B hml hv
  obtain ⟨rfl, hP, hk⟩ := hv
  have hK := hk.1
  have hz := hk.2.1
  have hx := B.exec
  have hb := B.bytes
  have hr := B.returns
  have hts := atoms_spec (ws := wsX5_chain) B.pre
  have hown : s.vm.findClass RX5 = some m.cls := findClass_of_methodNamed B.named
  have hlocks := B.notSynchronized
  have hi5 : ∀ w ∈ wsX50, w ∈ wsX5_chain := by decide +kernel
  have hl := lv_entry ([.ref h, .int p0]) (n := 2) (Nat.le_of_ble_eq_true rfl)
  rw [lg_entry_eq]
  generalize (lg_sl ([.ref h, .int p0]) ++ List.replicate (2 - (lg_sl ([.ref h, .int p0])).length) Slot.unset).toArray = ls at hl ⊢
  have hl : lv_has ls 2 [(0, .ref h), (1, .int p0)] := hl
  refine lv_aload_n hx hb dX5_chain_0 rfl (lv_at hl 0 rfl) ?_
  refine va_get (D := D) (ci := 5) (v := .ref (x 6)) (C := RX5) (T := TX5) (N := 8) hx hb hts hi5 hown hK hP 0 rfl rfl 6 (by decide) (hts (.fieldLink RX5 48 "AlibiRota" "now" "LAlibiRota$City;") (by decide +kernel)) (fun _ h9 => h9) rfl dX5_chain_1 ?_
  refine lv_iload_n hx hb dX5_chain_4 rfl (lv_at hl 1 rfl) ?_
  refine lv_i2l (v := p0.toInt64) hx hb dX5_chain_5 rfl ?_
  have hPc := hP.sub (ws' := [(x 6, .inr (0, [.ref (n 0), .int 0, .int 0, .int 0, .ref (n 4), .ref (n 5), .ref (n 6), .ref (n 7), .ref (n 8), .int 0, .ref (n 10), .ref (n 11), .ref (n 12), .ref (n 13)]))]) [1] rfl
  refine vp_callSi (va_Run.run (va_runVN (As := [.long p0.toInt64]) (rest := []) ⟨hx, hb, hml, hown, hts⟩ (k_isPerson l D cI cZ cB cJ cR (x 6) n p0.toInt64) ⟨va_cnB 1 hts ggX5_chain_X0_isPerson rfl rfl rfl (hz _ zw_RX5_83) (hts (.initialized RX0) (by decide +kernel)) (by decide +kernel) ⟨Nat.le_of_ble_eq_true rfl, Nat.le_of_ble_eq_true rfl⟩, hts (.instanceMethod yX0_isPerson) (by decide +kernel), hts (.selects RX0 yX0_isPerson yX0_isPerson) (by decide +kernel)⟩ ⟨fbS, va_recv hK hPc (ci := 0) (q0 := 0) rfl rfl, pS_at hPc hk⟩ rfl rfl hl.1 rfl (lv_room (Nat.le_of_ble_eq_true rfl)) dX5_chain_6 ⟨show 0 ≤ 0 by decide, show 0 ≤ 0 by decide⟩)) (fun r1 hr1 => ?_)
  obtain rfl : r1 = 0 := hr1
  refine lv_if_eq (tgt := 26) hx hb dX5_chain_9 (by decide) (fun _ => ?_) (fun c9 => absurd (by decide) c9)
  refine lv_bipush (v := (-2)) hx hb dX5_chain_26 (by decide) ?_
  exact W.iret (v := (-2)) hx hb hr (fun t ht _ => ⟨(-2), rfl, rfl, ht⟩) (fun _ h => by cases h) dX5_chain_28

set_option maxHeartbeats 4000000 in
set_option maxRecDepth 100000 in
theorem kx_best (l : Launch) (D : va_G) (cI cZ cB cJ cR : ClassId) (h : Nat) (x n q : Nat → Nat)  : Met l yX5_best wsX5_best ({ frames := 1, cells := 0, slots := 0, locals := 20 }) (va_Pc [.ref h] (pS D cI cZ cB cJ cR [(h, .inr (5, [.ref (x 0), .ref (x 1), .ref (x 2), .ref (x 3), .ref (x 4), .ref (x 5), .ref (x 6), .ref (x 7)])), (x 6, .inr (0, [.ref (n 0), .int 0, .int 0, .int 0, .ref (n 4), .ref (n 5), .ref (n 6), .ref (n 7), .ref (n 8), .int 0, .ref (n 10), .ref (n 11), .ref (n 12), .ref (n 13)])), (n 0, .inl (cI, 7, .inl (fun _ => 0))), (x 1, .inr (3, [.ref (q 0), .ref (q 1), .ref (q 2), .ref (q 3)]))])) (vp_Si (fun r => r = (-2))) 0 0 (fun _ => False) := by
  refine Met.ofW (cc := cX5_best) (maxL := 1) (ret := (some .int)) (by decide) rfl ?_
  intro p e s m args below meth c s₁ B hml hv
  obtain ⟨rfl, hP, hk⟩ := hv
  have hK := hk.1
  have hz := hk.2.1
  have hx := B.exec
  have hb := B.bytes
  have hr := B.returns
  have hts := atoms_spec (ws := wsX5_best) B.pre
  have hown : s.vm.findClass RX5 = some m.cls := findClass_of_methodNamed B.named
  have hlocks := B.notSynchronized
  have hi5 : ∀ w ∈ wsX50, w ∈ wsX5_best := by decide +kernel
  have hl := lv_entry ([.ref h]) (n := 1) (Nat.le_of_ble_eq_true rfl)
  rw [lg_entry_eq]
  generalize (lg_sl ([.ref h]) ++ List.replicate (1 - (lg_sl ([.ref h])).length) Slot.unset).toArray = ls at hl ⊢
  have hl : lv_has ls 1 [(0, .ref h)] := hl
  refine lv_aload_n hx hb dX5_best_0 rfl (lv_at hl 0 rfl) ?_
  refine va_get (D := D) (ci := 5) (v := .ref (x 6)) (C := RX5) (T := TX5) (N := 8) hx hb hts hi5 hown hK hP 0 rfl rfl 6 (by decide) (hts (.fieldLink RX5 48 "AlibiRota" "now" "LAlibiRota$City;") (by decide +kernel)) (fun _ h9 => h9) rfl dX5_best_1 ?_
  have hPc := hP.sub (ws' := [(x 6, .inr (0, [.ref (n 0), .int 0, .int 0, .int 0, .ref (n 4), .ref (n 5), .ref (n 6), .ref (n 7), .ref (n 8), .int 0, .ref (n 10), .ref (n 11), .ref (n 12), .ref (n 13)]))]) [1] rfl
  refine vp_callSi (va_Run.run (va_runVN (As := []) (rest := []) ⟨hx, hb, hml, hown, hts⟩ (k_exists l D cI cZ cB cJ cR (x 6) n ) ⟨va_cnB 0 hts ggX5_best_X0_exists rfl rfl rfl (hz _ zw_RX5_115) (hts (.initialized RX0) (by decide +kernel)) (by decide +kernel) ⟨Nat.le_of_ble_eq_true rfl, Nat.le_of_ble_eq_true rfl⟩, hts (.instanceMethod yX0_exists) (by decide +kernel), hts (.selects RX0 yX0_exists yX0_exists) (by decide +kernel)⟩ ⟨fbS, va_recv hK hPc (ci := 0) (q0 := 0) rfl rfl, pS_at hPc hk⟩ rfl rfl hl.1 rfl (lv_room (Nat.le_of_ble_eq_true rfl)) dX5_best_4 ⟨show 0 ≤ 0 by decide, show 0 ≤ 0 by decide⟩)) (fun r1 hr1 => ?_)
  obtain rfl : r1 = 0 := hr1
  refine lv_if_eq (tgt := 20) hx hb dX5_best_7 (by decide) (fun _ => ?_) (fun c9 => absurd (by decide) c9)
  refine lv_bipush (v := (-2)) hx hb dX5_best_20 (by decide) ?_
  exact W.iret (v := (-2)) hx hb hr (fun t ht _ => ⟨(-2), rfl, rfl, ht⟩) (fun _ h => by cases h) dX5_best_22

set_option maxHeartbeats 4000000 in
set_option maxRecDepth 100000 in
theorem kx_rota (l : Launch) (D : va_G) (cI cZ cB cJ cR : ClassId) (h : Nat) (x n q : Nat → Nat) (p0 : Int32) : Met l yX5_rota wsX5_rota ({ frames := 1, cells := 0, slots := 0, locals := 22 }) (va_Pc [.ref h, .int p0] (pS D cI cZ cB cJ cR [(h, .inr (5, [.ref (x 0), .ref (x 1), .ref (x 2), .ref (x 3), .ref (x 4), .ref (x 5), .ref (x 6), .ref (x 7)])), (x 6, .inr (0, [.ref (n 0), .int 0, .int 0, .int 0, .ref (n 4), .ref (n 5), .ref (n 6), .ref (n 7), .ref (n 8), .int 0, .ref (n 10), .ref (n 11), .ref (n 12), .ref (n 13)])), (n 0, .inl (cI, 7, .inl (fun _ => 0))), (x 1, .inr (3, [.ref (q 0), .ref (q 1), .ref (q 2), .ref (q 3)]))])) (vp_Si (fun r => r = (-2))) 0 0 (fun _ => False) := by
  refine Met.ofW (cc := cX5_rota) (maxL := 2) (ret := (some .int)) (by decide) rfl ?_
  intro p e s m args below meth c s₁ B hml hv
  obtain ⟨rfl, hP, hk⟩ := hv
  have hK := hk.1
  have hz := hk.2.1
  have hx := B.exec
  have hb := B.bytes
  have hr := B.returns
  have hts := atoms_spec (ws := wsX5_rota) B.pre
  have hown : s.vm.findClass RX5 = some m.cls := findClass_of_methodNamed B.named
  have hlocks := B.notSynchronized
  have hi5 : ∀ w ∈ wsX50, w ∈ wsX5_rota := by decide +kernel
  have hl := lv_entry ([.ref h, .int p0]) (n := 2) (Nat.le_of_ble_eq_true rfl)
  rw [lg_entry_eq]
  generalize (lg_sl ([.ref h, .int p0]) ++ List.replicate (2 - (lg_sl ([.ref h, .int p0])).length) Slot.unset).toArray = ls at hl ⊢
  have hl : lv_has ls 2 [(0, .ref h), (1, .int p0)] := hl
  refine lv_aload_n hx hb dX5_rota_0 rfl (lv_at hl 0 rfl) ?_
  refine va_get (D := D) (ci := 5) (v := .ref (x 6)) (C := RX5) (T := TX5) (N := 8) hx hb hts hi5 hown hK hP 0 rfl rfl 6 (by decide) (hts (.fieldLink RX5 48 "AlibiRota" "now" "LAlibiRota$City;") (by decide +kernel)) (fun _ h9 => h9) rfl dX5_rota_1 ?_
  refine lv_iload_n hx hb dX5_rota_4 rfl (lv_at hl 1 rfl) ?_
  refine lv_i2l (v := p0.toInt64) hx hb dX5_rota_5 rfl ?_
  have hPc := hP.sub (ws' := [(x 6, .inr (0, [.ref (n 0), .int 0, .int 0, .int 0, .ref (n 4), .ref (n 5), .ref (n 6), .ref (n 7), .ref (n 8), .int 0, .ref (n 10), .ref (n 11), .ref (n 12), .ref (n 13)]))]) [1] rfl
  refine vp_callSi (va_Run.run (va_runVN (As := [.long p0.toInt64]) (rest := []) ⟨hx, hb, hml, hown, hts⟩ (k_isPerson l D cI cZ cB cJ cR (x 6) n p0.toInt64) ⟨va_cnB 1 hts ggX5_rota_X0_isPerson rfl rfl rfl (hz _ zw_RX5_83) (hts (.initialized RX0) (by decide +kernel)) (by decide +kernel) ⟨Nat.le_of_ble_eq_true rfl, Nat.le_of_ble_eq_true rfl⟩, hts (.instanceMethod yX0_isPerson) (by decide +kernel), hts (.selects RX0 yX0_isPerson yX0_isPerson) (by decide +kernel)⟩ ⟨fbS, va_recv hK hPc (ci := 0) (q0 := 0) rfl rfl, pS_at hPc hk⟩ rfl rfl hl.1 rfl (lv_room (Nat.le_of_ble_eq_true rfl)) dX5_rota_6 ⟨show 0 ≤ 0 by decide, show 0 ≤ 0 by decide⟩)) (fun r1 hr1 => ?_)
  obtain rfl : r1 = 0 := hr1
  refine lv_if_eq (tgt := 24) hx hb dX5_rota_9 (by decide) (fun _ => ?_) (fun c9 => absurd (by decide) c9)
  refine lv_bipush (v := (-2)) hx hb dX5_rota_24 (by decide) ?_
  exact W.iret (v := (-2)) hx hb hr (fun t ht _ => ⟨(-2), rfl, rfl, ht⟩) (fun _ h => by cases h) dX5_rota_26

set_option maxHeartbeats 4000000 in
set_option maxRecDepth 100000 in
theorem kx_ways (l : Launch) (D : va_G) (cI cZ cB cJ cR : ClassId) (h : Nat) (x n q : Nat → Nat)  : Met l yX5_ways wsX5_ways ({ frames := 1, cells := 0, slots := 0, locals := 20 }) (va_Pc [.ref h] (pS D cI cZ cB cJ cR [(h, .inr (5, [.ref (x 0), .ref (x 1), .ref (x 2), .ref (x 3), .ref (x 4), .ref (x 5), .ref (x 6), .ref (x 7)])), (x 6, .inr (0, [.ref (n 0), .int 0, .int 0, .int 0, .ref (n 4), .ref (n 5), .ref (n 6), .ref (n 7), .ref (n 8), .int 0, .ref (n 10), .ref (n 11), .ref (n 12), .ref (n 13)])), (n 0, .inl (cI, 7, .inl (fun _ => 0))), (x 1, .inr (3, [.ref (q 0), .ref (q 1), .ref (q 2), .ref (q 3)]))])) (vp_Si (fun r => r = (-2))) 0 0 (fun _ => False) := by
  refine Met.ofW (cc := cX5_ways) (maxL := 1) (ret := (some .int)) (by decide) rfl ?_
  intro p e s m args below meth c s₁ B hml hv
  obtain ⟨rfl, hP, hk⟩ := hv
  have hK := hk.1
  have hz := hk.2.1
  have hx := B.exec
  have hb := B.bytes
  have hr := B.returns
  have hts := atoms_spec (ws := wsX5_ways) B.pre
  have hown : s.vm.findClass RX5 = some m.cls := findClass_of_methodNamed B.named
  have hlocks := B.notSynchronized
  have hi5 : ∀ w ∈ wsX50, w ∈ wsX5_ways := by decide +kernel
  have hl := lv_entry ([.ref h]) (n := 1) (Nat.le_of_ble_eq_true rfl)
  rw [lg_entry_eq]
  generalize (lg_sl ([.ref h]) ++ List.replicate (1 - (lg_sl ([.ref h])).length) Slot.unset).toArray = ls at hl ⊢
  have hl : lv_has ls 1 [(0, .ref h)] := hl
  refine lv_aload_n hx hb dX5_ways_0 rfl (lv_at hl 0 rfl) ?_
  refine va_get (D := D) (ci := 5) (v := .ref (x 6)) (C := RX5) (T := TX5) (N := 8) hx hb hts hi5 hown hK hP 0 rfl rfl 6 (by decide) (hts (.fieldLink RX5 48 "AlibiRota" "now" "LAlibiRota$City;") (by decide +kernel)) (fun _ h9 => h9) rfl dX5_ways_1 ?_
  have hPc := hP.sub (ws' := [(x 6, .inr (0, [.ref (n 0), .int 0, .int 0, .int 0, .ref (n 4), .ref (n 5), .ref (n 6), .ref (n 7), .ref (n 8), .int 0, .ref (n 10), .ref (n 11), .ref (n 12), .ref (n 13)]))]) [1] rfl
  refine vp_callSi (va_Run.run (va_runVN (As := []) (rest := []) ⟨hx, hb, hml, hown, hts⟩ (k_exists l D cI cZ cB cJ cR (x 6) n ) ⟨va_cnB 0 hts ggX5_ways_X0_exists rfl rfl rfl (hz _ zw_RX5_115) (hts (.initialized RX0) (by decide +kernel)) (by decide +kernel) ⟨Nat.le_of_ble_eq_true rfl, Nat.le_of_ble_eq_true rfl⟩, hts (.instanceMethod yX0_exists) (by decide +kernel), hts (.selects RX0 yX0_exists yX0_exists) (by decide +kernel)⟩ ⟨fbS, va_recv hK hPc (ci := 0) (q0 := 0) rfl rfl, pS_at hPc hk⟩ rfl rfl hl.1 rfl (lv_room (Nat.le_of_ble_eq_true rfl)) dX5_ways_4 ⟨show 0 ≤ 0 by decide, show 0 ≤ 0 by decide⟩)) (fun r1 hr1 => ?_)
  obtain rfl : r1 = 0 := hr1
  refine lv_if_eq (tgt := 20) hx hb dX5_ways_7 (by decide) (fun _ => ?_) (fun c9 => absurd (by decide) c9)
  refine lv_bipush (v := (-2)) hx hb dX5_ways_20 (by decide) ?_
  exact W.iret (v := (-2)) hx hb hr (fun t ht _ => ⟨(-2), rfl, rfl, ht⟩) (fun _ h => by cases h) dX5_ways_22

set_option maxHeartbeats 4000000 in
set_option maxRecDepth 100000 in
theorem kx_fair (l : Launch) (D : va_G) (cI cZ cB cJ cR : ClassId) (h : Nat) (x n q : Nat → Nat)  : Met l yX5_fair wsX5_fair ({ frames := 1, cells := 0, slots := 0, locals := 20 }) (va_Pc [.ref h] (pS D cI cZ cB cJ cR [(h, .inr (5, [.ref (x 0), .ref (x 1), .ref (x 2), .ref (x 3), .ref (x 4), .ref (x 5), .ref (x 6), .ref (x 7)])), (x 6, .inr (0, [.ref (n 0), .int 0, .int 0, .int 0, .ref (n 4), .ref (n 5), .ref (n 6), .ref (n 7), .ref (n 8), .int 0, .ref (n 10), .ref (n 11), .ref (n 12), .ref (n 13)])), (n 0, .inl (cI, 7, .inl (fun _ => 0))), (x 1, .inr (3, [.ref (q 0), .ref (q 1), .ref (q 2), .ref (q 3)]))])) (vp_Si (fun r => r = (-2))) 0 0 (fun _ => False) := by
  refine Met.ofW (cc := cX5_fair) (maxL := 1) (ret := (some .int)) (by decide) rfl ?_
  intro p e s m args below meth c s₁ B hml hv
  obtain ⟨rfl, hP, hk⟩ := hv
  have hK := hk.1
  have hz := hk.2.1
  have hx := B.exec
  have hb := B.bytes
  have hr := B.returns
  have hts := atoms_spec (ws := wsX5_fair) B.pre
  have hown : s.vm.findClass RX5 = some m.cls := findClass_of_methodNamed B.named
  have hlocks := B.notSynchronized
  have hi5 : ∀ w ∈ wsX50, w ∈ wsX5_fair := by decide +kernel
  have hl := lv_entry ([.ref h]) (n := 1) (Nat.le_of_ble_eq_true rfl)
  rw [lg_entry_eq]
  generalize (lg_sl ([.ref h]) ++ List.replicate (1 - (lg_sl ([.ref h])).length) Slot.unset).toArray = ls at hl ⊢
  have hl : lv_has ls 1 [(0, .ref h)] := hl
  refine lv_aload_n hx hb dX5_fair_0 rfl (lv_at hl 0 rfl) ?_
  refine va_get (D := D) (ci := 5) (v := .ref (x 6)) (C := RX5) (T := TX5) (N := 8) hx hb hts hi5 hown hK hP 0 rfl rfl 6 (by decide) (hts (.fieldLink RX5 48 "AlibiRota" "now" "LAlibiRota$City;") (by decide +kernel)) (fun _ h9 => h9) rfl dX5_fair_1 ?_
  have hPc := hP.sub (ws' := [(x 6, .inr (0, [.ref (n 0), .int 0, .int 0, .int 0, .ref (n 4), .ref (n 5), .ref (n 6), .ref (n 7), .ref (n 8), .int 0, .ref (n 10), .ref (n 11), .ref (n 12), .ref (n 13)]))]) [1] rfl
  refine vp_callSi (va_Run.run (va_runVN (As := []) (rest := []) ⟨hx, hb, hml, hown, hts⟩ (k_exists l D cI cZ cB cJ cR (x 6) n ) ⟨va_cnB 0 hts ggX5_fair_X0_exists rfl rfl rfl (hz _ zw_RX5_115) (hts (.initialized RX0) (by decide +kernel)) (by decide +kernel) ⟨Nat.le_of_ble_eq_true rfl, Nat.le_of_ble_eq_true rfl⟩, hts (.instanceMethod yX0_exists) (by decide +kernel), hts (.selects RX0 yX0_exists yX0_exists) (by decide +kernel)⟩ ⟨fbS, va_recv hK hPc (ci := 0) (q0 := 0) rfl rfl, pS_at hPc hk⟩ rfl rfl hl.1 rfl (lv_room (Nat.le_of_ble_eq_true rfl)) dX5_fair_4 ⟨show 0 ≤ 0 by decide, show 0 ≤ 0 by decide⟩)) (fun r1 hr1 => ?_)
  obtain rfl : r1 = 0 := hr1
  refine lv_if_eq (tgt := 20) hx hb dX5_fair_7 (by decide) (fun _ => ?_) (fun c9 => absurd (by decide) c9)
  refine lv_bipush (v := (-2)) hx hb dX5_fair_20 (by decide) ?_
  exact W.iret (v := (-2)) hx hb hr (fun t ht _ => ⟨(-2), rfl, rfl, ht⟩) (fun _ h => by cases h) dX5_fair_22

set_option maxHeartbeats 4000000 in
set_option maxRecDepth 100000 in
theorem kx_clean (l : Launch) (D : va_G) (cI cZ cB cJ cR : ClassId) (h : Nat) (x n q : Nat → Nat)  : Met l yX5_clean wsX5_clean ({ frames := 1, cells := 0, slots := 0, locals := 20 }) (va_Pc [.ref h] (pS D cI cZ cB cJ cR [(h, .inr (5, [.ref (x 0), .ref (x 1), .ref (x 2), .ref (x 3), .ref (x 4), .ref (x 5), .ref (x 6), .ref (x 7)])), (x 6, .inr (0, [.ref (n 0), .int 0, .int 0, .int 0, .ref (n 4), .ref (n 5), .ref (n 6), .ref (n 7), .ref (n 8), .int 0, .ref (n 10), .ref (n 11), .ref (n 12), .ref (n 13)])), (n 0, .inl (cI, 7, .inl (fun _ => 0))), (x 1, .inr (3, [.ref (q 0), .ref (q 1), .ref (q 2), .ref (q 3)]))])) (vp_Si (fun r => r = (-2))) 0 0 (fun _ => False) := by
  refine Met.ofW (cc := cX5_clean) (maxL := 1) (ret := (some .int)) (by decide) rfl ?_
  intro p e s m args below meth c s₁ B hml hv
  obtain ⟨rfl, hP, hk⟩ := hv
  have hK := hk.1
  have hz := hk.2.1
  have hx := B.exec
  have hb := B.bytes
  have hr := B.returns
  have hts := atoms_spec (ws := wsX5_clean) B.pre
  have hown : s.vm.findClass RX5 = some m.cls := findClass_of_methodNamed B.named
  have hlocks := B.notSynchronized
  have hi5 : ∀ w ∈ wsX50, w ∈ wsX5_clean := by decide +kernel
  have hl := lv_entry ([.ref h]) (n := 1) (Nat.le_of_ble_eq_true rfl)
  rw [lg_entry_eq]
  generalize (lg_sl ([.ref h]) ++ List.replicate (1 - (lg_sl ([.ref h])).length) Slot.unset).toArray = ls at hl ⊢
  have hl : lv_has ls 1 [(0, .ref h)] := hl
  refine lv_aload_n hx hb dX5_clean_0 rfl (lv_at hl 0 rfl) ?_
  refine va_get (D := D) (ci := 5) (v := .ref (x 6)) (C := RX5) (T := TX5) (N := 8) hx hb hts hi5 hown hK hP 0 rfl rfl 6 (by decide) (hts (.fieldLink RX5 48 "AlibiRota" "now" "LAlibiRota$City;") (by decide +kernel)) (fun _ h9 => h9) rfl dX5_clean_1 ?_
  have hPc := hP.sub (ws' := [(x 6, .inr (0, [.ref (n 0), .int 0, .int 0, .int 0, .ref (n 4), .ref (n 5), .ref (n 6), .ref (n 7), .ref (n 8), .int 0, .ref (n 10), .ref (n 11), .ref (n 12), .ref (n 13)]))]) [1] rfl
  refine vp_callSi (va_Run.run (va_runVN (As := []) (rest := []) ⟨hx, hb, hml, hown, hts⟩ (k_exists l D cI cZ cB cJ cR (x 6) n ) ⟨va_cnB 0 hts ggX5_clean_X0_exists rfl rfl rfl (hz _ zw_RX5_115) (hts (.initialized RX0) (by decide +kernel)) (by decide +kernel) ⟨Nat.le_of_ble_eq_true rfl, Nat.le_of_ble_eq_true rfl⟩, hts (.instanceMethod yX0_exists) (by decide +kernel), hts (.selects RX0 yX0_exists yX0_exists) (by decide +kernel)⟩ ⟨fbS, va_recv hK hPc (ci := 0) (q0 := 0) rfl rfl, pS_at hPc hk⟩ rfl rfl hl.1 rfl (lv_room (Nat.le_of_ble_eq_true rfl)) dX5_clean_4 ⟨show 0 ≤ 0 by decide, show 0 ≤ 0 by decide⟩)) (fun r1 hr1 => ?_)
  obtain rfl : r1 = 0 := hr1
  refine lv_if_eq (tgt := 20) hx hb dX5_clean_7 (by decide) (fun _ => ?_) (fun c9 => absurd (by decide) c9)
  refine lv_bipush (v := (-2)) hx hb dX5_clean_20 (by decide) ?_
  exact W.iret (v := (-2)) hx hb hr (fun t ht _ => ⟨(-2), rfl, rfl, ht⟩) (fun _ h => by cases h) dX5_clean_22

set_option maxHeartbeats 4000000 in
set_option maxRecDepth 100000 in
theorem kx_trade (l : Launch) (D : va_G) (cI cZ cB cJ cR : ClassId) (h : Nat) (x n q : Nat → Nat)  : Met l yX5_trade wsX5_trade ({ frames := 1, cells := 0, slots := 0, locals := 20 }) (va_Pc [.ref h] (pS D cI cZ cB cJ cR [(h, .inr (5, [.ref (x 0), .ref (x 1), .ref (x 2), .ref (x 3), .ref (x 4), .ref (x 5), .ref (x 6), .ref (x 7)])), (x 6, .inr (0, [.ref (n 0), .int 0, .int 0, .int 0, .ref (n 4), .ref (n 5), .ref (n 6), .ref (n 7), .ref (n 8), .int 0, .ref (n 10), .ref (n 11), .ref (n 12), .ref (n 13)])), (n 0, .inl (cI, 7, .inl (fun _ => 0))), (x 1, .inr (3, [.ref (q 0), .ref (q 1), .ref (q 2), .ref (q 3)]))])) (vp_Si (fun r => r = (-2))) 0 0 (fun _ => False) := by
  refine Met.ofW (cc := cX5_trade) (maxL := 6) (ret := (some .int)) (by decide) rfl ?_
  intro p e s m args below meth c s₁ B hml hv
  obtain ⟨rfl, hP, hk⟩ := hv
  have hK := hk.1
  have hz := hk.2.1
  have hx := B.exec
  have hb := B.bytes
  have hr := B.returns
  have hts := atoms_spec (ws := wsX5_trade) B.pre
  have hown : s.vm.findClass RX5 = some m.cls := findClass_of_methodNamed B.named
  have hlocks := B.notSynchronized
  have hi5 : ∀ w ∈ wsX50, w ∈ wsX5_trade := by decide +kernel
  have hl := lv_entry ([.ref h]) (n := 6) (Nat.le_of_ble_eq_true rfl)
  rw [lg_entry_eq]
  generalize (lg_sl ([.ref h]) ++ List.replicate (6 - (lg_sl ([.ref h])).length) Slot.unset).toArray = ls at hl ⊢
  have hl : lv_has ls 6 [(0, .ref h)] := hl
  refine lv_aload_n hx hb dX5_trade_0 rfl (lv_at hl 0 rfl) ?_
  refine va_get (D := D) (ci := 5) (v := .ref (x 6)) (C := RX5) (T := TX5) (N := 8) hx hb hts hi5 hown hK hP 0 rfl rfl 6 (by decide) (hts (.fieldLink RX5 48 "AlibiRota" "now" "LAlibiRota$City;") (by decide +kernel)) (fun _ h9 => h9) rfl dX5_trade_1 ?_
  have hPc := hP.sub (ws' := [(x 6, .inr (0, [.ref (n 0), .int 0, .int 0, .int 0, .ref (n 4), .ref (n 5), .ref (n 6), .ref (n 7), .ref (n 8), .int 0, .ref (n 10), .ref (n 11), .ref (n 12), .ref (n 13)]))]) [1] rfl
  refine vp_callSi (va_Run.run (va_runVN (As := []) (rest := []) ⟨hx, hb, hml, hown, hts⟩ (k_exists l D cI cZ cB cJ cR (x 6) n ) ⟨va_cnB 0 hts ggX5_trade_X0_exists rfl rfl rfl (hz _ zw_RX5_115) (hts (.initialized RX0) (by decide +kernel)) (by decide +kernel) ⟨Nat.le_of_ble_eq_true rfl, Nat.le_of_ble_eq_true rfl⟩, hts (.instanceMethod yX0_exists) (by decide +kernel), hts (.selects RX0 yX0_exists yX0_exists) (by decide +kernel)⟩ ⟨fbS, va_recv hK hPc (ci := 0) (q0 := 0) rfl rfl, pS_at hPc hk⟩ rfl rfl hl.1 rfl (lv_room (Nat.le_of_ble_eq_true rfl)) dX5_trade_4 ⟨show 0 ≤ 0 by decide, show 0 ≤ 0 by decide⟩)) (fun r1 hr1 => ?_)
  obtain rfl : r1 = 0 := hr1
  refine lv_if_ne (tgt := 13) hx hb dX5_trade_7 (by decide) (fun c9 => absurd (by decide) c9) (fun _ => ?_)
  refine lv_bipush (v := (-2)) hx hb dX5_trade_10 (by decide) ?_
  exact W.iret (v := (-2)) hx hb hr (fun t ht _ => ⟨(-2), rfl, rfl, ht⟩) (fun _ h => by cases h) dX5_trade_12

set_option maxHeartbeats 4000000 in
set_option maxRecDepth 100000 in
theorem kx_envy (l : Launch) (D : va_G) (cI cZ cB cJ cR : ClassId) (h : Nat) (x n q : Nat → Nat)  : Met l yX5_envy wsX5_envy ({ frames := 1, cells := 0, slots := 0, locals := 20 }) (va_Pc [.ref h] (pS D cI cZ cB cJ cR [(h, .inr (5, [.ref (x 0), .ref (x 1), .ref (x 2), .ref (x 3), .ref (x 4), .ref (x 5), .ref (x 6), .ref (x 7)])), (x 6, .inr (0, [.ref (n 0), .int 0, .int 0, .int 0, .ref (n 4), .ref (n 5), .ref (n 6), .ref (n 7), .ref (n 8), .int 0, .ref (n 10), .ref (n 11), .ref (n 12), .ref (n 13)])), (n 0, .inl (cI, 7, .inl (fun _ => 0))), (x 1, .inr (3, [.ref (q 0), .ref (q 1), .ref (q 2), .ref (q 3)]))])) (vp_Si (fun r => r = (-2))) 0 0 (fun _ => False) := by
  refine Met.ofW (cc := cX5_envy) (maxL := 4) (ret := (some .int)) (by decide) rfl ?_
  intro p e s m args below meth c s₁ B hml hv
  obtain ⟨rfl, hP, hk⟩ := hv
  have hK := hk.1
  have hz := hk.2.1
  have hx := B.exec
  have hb := B.bytes
  have hr := B.returns
  have hts := atoms_spec (ws := wsX5_envy) B.pre
  have hown : s.vm.findClass RX5 = some m.cls := findClass_of_methodNamed B.named
  have hlocks := B.notSynchronized
  have hi5 : ∀ w ∈ wsX50, w ∈ wsX5_envy := by decide +kernel
  have hl := lv_entry ([.ref h]) (n := 4) (Nat.le_of_ble_eq_true rfl)
  rw [lg_entry_eq]
  generalize (lg_sl ([.ref h]) ++ List.replicate (4 - (lg_sl ([.ref h])).length) Slot.unset).toArray = ls at hl ⊢
  have hl : lv_has ls 4 [(0, .ref h)] := hl
  refine lv_aload_n hx hb dX5_envy_0 rfl (lv_at hl 0 rfl) ?_
  refine va_get (D := D) (ci := 5) (v := .ref (x 6)) (C := RX5) (T := TX5) (N := 8) hx hb hts hi5 hown hK hP 0 rfl rfl 6 (by decide) (hts (.fieldLink RX5 48 "AlibiRota" "now" "LAlibiRota$City;") (by decide +kernel)) (fun _ h9 => h9) rfl dX5_envy_1 ?_
  have hPc := hP.sub (ws' := [(x 6, .inr (0, [.ref (n 0), .int 0, .int 0, .int 0, .ref (n 4), .ref (n 5), .ref (n 6), .ref (n 7), .ref (n 8), .int 0, .ref (n 10), .ref (n 11), .ref (n 12), .ref (n 13)]))]) [1] rfl
  refine vp_callSi (va_Run.run (va_runVN (As := []) (rest := []) ⟨hx, hb, hml, hown, hts⟩ (k_exists l D cI cZ cB cJ cR (x 6) n ) ⟨va_cnB 0 hts ggX5_envy_X0_exists rfl rfl rfl (hz _ zw_RX5_115) (hts (.initialized RX0) (by decide +kernel)) (by decide +kernel) ⟨Nat.le_of_ble_eq_true rfl, Nat.le_of_ble_eq_true rfl⟩, hts (.instanceMethod yX0_exists) (by decide +kernel), hts (.selects RX0 yX0_exists yX0_exists) (by decide +kernel)⟩ ⟨fbS, va_recv hK hPc (ci := 0) (q0 := 0) rfl rfl, pS_at hPc hk⟩ rfl rfl hl.1 rfl (lv_room (Nat.le_of_ble_eq_true rfl)) dX5_envy_4 ⟨show 0 ≤ 0 by decide, show 0 ≤ 0 by decide⟩)) (fun r1 hr1 => ?_)
  obtain rfl : r1 = 0 := hr1
  refine lv_if_ne (tgt := 13) hx hb dX5_envy_7 (by decide) (fun c9 => absurd (by decide) c9) (fun _ => ?_)
  refine lv_bipush (v := (-2)) hx hb dX5_envy_10 (by decide) ?_
  exact W.iret (v := (-2)) hx hb hr (fun t ht _ => ⟨(-2), rfl, rfl, ht⟩) (fun _ h => by cases h) dX5_envy_12

set_option maxHeartbeats 4000000 in
set_option maxRecDepth 100000 in
theorem kx_often (l : Launch) (D : va_G) (cI cZ cB cJ cR : ClassId) (h : Nat) (x n q : Nat → Nat) (p0 : Int32) (p1 : Int32) : Met l yX5_often wsX5_often ({ frames := 2, cells := 0, slots := 0, locals := 46 }) (va_Pc [.ref h, .int p0, .int p1] (pS D cI cZ cB cJ cR [(h, .inr (5, [.ref (x 0), .ref (x 1), .ref (x 2), .ref (x 3), .ref (x 4), .ref (x 5), .ref (x 6), .ref (x 7)])), (x 6, .inr (0, [.ref (n 0), .int 0, .int 0, .int 0, .ref (n 4), .ref (n 5), .ref (n 6), .ref (n 7), .ref (n 8), .int 0, .ref (n 10), .ref (n 11), .ref (n 12), .ref (n 13)])), (n 0, .inl (cI, 7, .inl (fun _ => 0))), (x 1, .inr (3, [.ref (q 0), .ref (q 1), .ref (q 2), .ref (q 3)]))])) (vp_Si (fun r => r = (-2))) 0 0 (fun _ => False) := by
  refine Met.ofW (cc := cX5_often) (maxL := 3) (ret := (some .int)) (by decide) rfl ?_
  intro p e s m args below meth c s₁ B hml hv
  obtain ⟨rfl, hP, hk⟩ := hv
  have hK := hk.1
  have hz := hk.2.1
  have hx := B.exec
  have hb := B.bytes
  have hr := B.returns
  have hts := atoms_spec (ws := wsX5_often) B.pre
  have hown : s.vm.findClass RX5 = some m.cls := findClass_of_methodNamed B.named
  have hlocks := B.notSynchronized
  have hi5 : ∀ w ∈ wsX50, w ∈ wsX5_often := by decide +kernel
  have hl := lv_entry ([.ref h, .int p0, .int p1]) (n := 3) (Nat.le_of_ble_eq_true rfl)
  rw [lg_entry_eq]
  generalize (lg_sl ([.ref h, .int p0, .int p1]) ++ List.replicate (3 - (lg_sl ([.ref h, .int p0, .int p1])).length) Slot.unset).toArray = ls at hl ⊢
  have hl : lv_has ls 3 [(0, .ref h), (1, .int p0), (2, .int p1)] := hl
  refine lv_aload_n hx hb dX5_often_0 rfl (lv_at hl 0 rfl) ?_
  refine va_get (D := D) (ci := 5) (v := .ref (x 6)) (C := RX5) (T := TX5) (N := 8) hx hb hts hi5 hown hK hP 0 rfl rfl 6 (by decide) (hts (.fieldLink RX5 48 "AlibiRota" "now" "LAlibiRota$City;") (by decide +kernel)) (fun _ h9 => h9) rfl dX5_often_1 ?_
  refine lv_iload_n hx hb dX5_often_4 rfl (lv_at hl 1 rfl) ?_
  refine lv_i2l (v := p0.toInt64) hx hb dX5_often_5 rfl ?_
  refine lv_iload_n hx hb dX5_often_6 rfl (lv_at hl 2 rfl) ?_
  refine lv_i2l (v := p1.toInt64) hx hb dX5_often_7 rfl ?_
  have hPc := hP.sub (ws' := [(x 6, .inr (0, [.ref (n 0), .int 0, .int 0, .int 0, .ref (n 4), .ref (n 5), .ref (n 6), .ref (n 7), .ref (n 8), .int 0, .ref (n 10), .ref (n 11), .ref (n 12), .ref (n 13)]))]) [1] rfl
  refine vp_callSi (va_Run.run (va_runVN (As := [.long p0.toInt64, .long p1.toInt64]) (rest := []) ⟨hx, hb, hml, hown, hts⟩ (k_isPair l D cI cZ cB cJ cR (x 6) n p0.toInt64 p1.toInt64) ⟨va_cnB 2 hts ggX5_often_X0_isPair rfl rfl rfl (hz _ zw_RX5_179) (hts (.initialized RX0) (by decide +kernel)) (by decide +kernel) ⟨Nat.le_of_ble_eq_true rfl, Nat.le_of_ble_eq_true rfl⟩, hts (.instanceMethod yX0_isPair) (by decide +kernel), hts (.selects RX0 yX0_isPair yX0_isPair) (by decide +kernel)⟩ ⟨fbS, va_recv hK hPc (ci := 0) (q0 := 0) rfl rfl, pS_at hPc hk⟩ rfl rfl hl.1 rfl (lv_room (Nat.le_of_ble_eq_true rfl)) dX5_often_8 ⟨show 0 ≤ 0 by decide, show 0 ≤ 0 by decide⟩)) (fun r1 hr1 => ?_)
  obtain rfl : r1 = 0 := hr1
  refine lv_if_eq (tgt := 26) hx hb dX5_often_11 (by decide) (fun _ => ?_) (fun c9 => absurd (by decide) c9)
  refine lv_bipush (v := (-2)) hx hb dX5_often_26 (by decide) ?_
  exact W.iret (v := (-2)) hx hb hr (fun t ht _ => ⟨(-2), rfl, rfl, ht⟩) (fun _ h => by cases h) dX5_often_28

set_option maxHeartbeats 4000000 in
set_option maxRecDepth 100000 in
theorem kx_friend (l : Launch) (D : va_G) (cI cZ cB cJ cR : ClassId) (h : Nat) (x n q : Nat → Nat) (p0 : Int32) : Met l yX5_friend wsX5_friend ({ frames := 1, cells := 0, slots := 0, locals := 22 }) (va_Pc [.ref h, .int p0] (pS D cI cZ cB cJ cR [(h, .inr (5, [.ref (x 0), .ref (x 1), .ref (x 2), .ref (x 3), .ref (x 4), .ref (x 5), .ref (x 6), .ref (x 7)])), (x 6, .inr (0, [.ref (n 0), .int 0, .int 0, .int 0, .ref (n 4), .ref (n 5), .ref (n 6), .ref (n 7), .ref (n 8), .int 0, .ref (n 10), .ref (n 11), .ref (n 12), .ref (n 13)])), (n 0, .inl (cI, 7, .inl (fun _ => 0))), (x 1, .inr (3, [.ref (q 0), .ref (q 1), .ref (q 2), .ref (q 3)]))])) (vp_Si (fun r => r = (-2))) 0 0 (fun _ => False) := by
  refine Met.ofW (cc := cX5_friend) (maxL := 5) (ret := (some .int)) (by decide) rfl ?_
  intro p e s m args below meth c s₁ B hml hv
  obtain ⟨rfl, hP, hk⟩ := hv
  have hK := hk.1
  have hz := hk.2.1
  have hx := B.exec
  have hb := B.bytes
  have hr := B.returns
  have hts := atoms_spec (ws := wsX5_friend) B.pre
  have hown : s.vm.findClass RX5 = some m.cls := findClass_of_methodNamed B.named
  have hlocks := B.notSynchronized
  have hi5 : ∀ w ∈ wsX50, w ∈ wsX5_friend := by decide +kernel
  have hl := lv_entry ([.ref h, .int p0]) (n := 5) (Nat.le_of_ble_eq_true rfl)
  rw [lg_entry_eq]
  generalize (lg_sl ([.ref h, .int p0]) ++ List.replicate (5 - (lg_sl ([.ref h, .int p0])).length) Slot.unset).toArray = ls at hl ⊢
  have hl : lv_has ls 5 [(0, .ref h), (1, .int p0)] := hl
  refine lv_aload_n hx hb dX5_friend_0 rfl (lv_at hl 0 rfl) ?_
  refine va_get (D := D) (ci := 5) (v := .ref (x 6)) (C := RX5) (T := TX5) (N := 8) hx hb hts hi5 hown hK hP 0 rfl rfl 6 (by decide) (hts (.fieldLink RX5 48 "AlibiRota" "now" "LAlibiRota$City;") (by decide +kernel)) (fun _ h9 => h9) rfl dX5_friend_1 ?_
  refine lv_iload_n hx hb dX5_friend_4 rfl (lv_at hl 1 rfl) ?_
  refine lv_i2l (v := p0.toInt64) hx hb dX5_friend_5 rfl ?_
  have hPc := hP.sub (ws' := [(x 6, .inr (0, [.ref (n 0), .int 0, .int 0, .int 0, .ref (n 4), .ref (n 5), .ref (n 6), .ref (n 7), .ref (n 8), .int 0, .ref (n 10), .ref (n 11), .ref (n 12), .ref (n 13)]))]) [1] rfl
  refine vp_callSi (va_Run.run (va_runVN (As := [.long p0.toInt64]) (rest := []) ⟨hx, hb, hml, hown, hts⟩ (k_isPerson l D cI cZ cB cJ cR (x 6) n p0.toInt64) ⟨va_cnB 1 hts ggX5_friend_X0_isPerson rfl rfl rfl (hz _ zw_RX5_83) (hts (.initialized RX0) (by decide +kernel)) (by decide +kernel) ⟨Nat.le_of_ble_eq_true rfl, Nat.le_of_ble_eq_true rfl⟩, hts (.instanceMethod yX0_isPerson) (by decide +kernel), hts (.selects RX0 yX0_isPerson yX0_isPerson) (by decide +kernel)⟩ ⟨fbS, va_recv hK hPc (ci := 0) (q0 := 0) rfl rfl, pS_at hPc hk⟩ rfl rfl hl.1 rfl (lv_room (Nat.le_of_ble_eq_true rfl)) dX5_friend_6 ⟨show 0 ≤ 0 by decide, show 0 ≤ 0 by decide⟩)) (fun r1 hr1 => ?_)
  obtain rfl : r1 = 0 := hr1
  refine lv_if_ne (tgt := 15) hx hb dX5_friend_9 (by decide) (fun c9 => absurd (by decide) c9) (fun _ => ?_)
  refine lv_bipush (v := (-2)) hx hb dX5_friend_12 (by decide) ?_
  exact W.iret (v := (-2)) hx hb hr (fun t ht _ => ⟨(-2), rfl, rfl, ht⟩) (fun _ h => by cases h) dX5_friend_14

set_option maxHeartbeats 4000000 in
set_option maxRecDepth 100000 in
theorem kx_witness (l : Launch) (D : va_G) (cI cZ cB cJ cR : ClassId) (h : Nat) (x n q : Nat → Nat) (p0 : Int32) (p1 : Int32) : Met l yX5_witness wsX5_witness ({ frames := 2, cells := 0, slots := 0, locals := 42 }) (va_Pc [.ref h, .int p0, .int p1] (pS D cI cZ cB cJ cR [(h, .inr (5, [.ref (x 0), .ref (x 1), .ref (x 2), .ref (x 3), .ref (x 4), .ref (x 5), .ref (x 6), .ref (x 7)])), (x 6, .inr (0, [.ref (n 0), .int 0, .int 0, .int 0, .ref (n 4), .ref (n 5), .ref (n 6), .ref (n 7), .ref (n 8), .int 0, .ref (n 10), .ref (n 11), .ref (n 12), .ref (n 13)])), (n 0, .inl (cI, 7, .inl (fun _ => 0))), (x 1, .inr (3, [.ref (q 0), .ref (q 1), .ref (q 2), .ref (q 3)]))])) (vp_Si (fun r => r = (-2))) 0 0 (fun _ => False) := by
  refine Met.ofW (cc := cX5_witness) (maxL := 3) (ret := (some .int)) (by decide) rfl ?_
  intro p e s m args below meth c s₁ B hml hv
  obtain ⟨rfl, hP, hk⟩ := hv
  have hK := hk.1
  have hz := hk.2.1
  have hx := B.exec
  have hb := B.bytes
  have hr := B.returns
  have hts := atoms_spec (ws := wsX5_witness) B.pre
  have hown : s.vm.findClass RX5 = some m.cls := findClass_of_methodNamed B.named
  have hlocks := B.notSynchronized
  have hi5 : ∀ w ∈ wsX50, w ∈ wsX5_witness := by decide +kernel
  have hl := lv_entry ([.ref h, .int p0, .int p1]) (n := 3) (Nat.le_of_ble_eq_true rfl)
  rw [lg_entry_eq]
  generalize (lg_sl ([.ref h, .int p0, .int p1]) ++ List.replicate (3 - (lg_sl ([.ref h, .int p0, .int p1])).length) Slot.unset).toArray = ls at hl ⊢
  have hl : lv_has ls 3 [(0, .ref h), (1, .int p0), (2, .int p1)] := hl
  refine lv_aload_n hx hb dX5_witness_0 rfl (lv_at hl 0 rfl) ?_
  refine va_get (D := D) (ci := 5) (v := .ref (x 6)) (C := RX5) (T := TX5) (N := 8) hx hb hts hi5 hown hK hP 0 rfl rfl 6 (by decide) (hts (.fieldLink RX5 48 "AlibiRota" "now" "LAlibiRota$City;") (by decide +kernel)) (fun _ h9 => h9) rfl dX5_witness_1 ?_
  refine lv_iload_n hx hb dX5_witness_4 rfl (lv_at hl 1 rfl) ?_
  refine lv_i2l (v := p0.toInt64) hx hb dX5_witness_5 rfl ?_
  have hPc := hP.sub (ws' := [(x 6, .inr (0, [.ref (n 0), .int 0, .int 0, .int 0, .ref (n 4), .ref (n 5), .ref (n 6), .ref (n 7), .ref (n 8), .int 0, .ref (n 10), .ref (n 11), .ref (n 12), .ref (n 13)])), (n 0, .inl (cI, 7, .inl (fun _ => 0)))]) [1, 2] rfl
  refine vp_callSi (va_Run.run (va_runVN (As := [.long p0.toInt64]) (rest := []) ⟨hx, hb, hml, hown, hts⟩ (k_isPlace l D cI cZ cB cJ cR (x 6) n p0.toInt64) ⟨va_cnB 1 hts ggX5_witness_X0_isPlace rfl rfl rfl (hz _ zw_RX5_186) (hts (.initialized RX0) (by decide +kernel)) (by decide +kernel) ⟨Nat.le_of_ble_eq_true rfl, Nat.le_of_ble_eq_true rfl⟩, hts (.instanceMethod yX0_isPlace) (by decide +kernel), hts (.selects RX0 yX0_isPlace yX0_isPlace) (by decide +kernel)⟩ ⟨fbS, va_recv hK hPc (ci := 0) (q0 := 0) rfl rfl, pS_at hPc hk⟩ rfl rfl hl.1 rfl (lv_room (Nat.le_of_ble_eq_true rfl)) dX5_witness_6 ⟨show 0 ≤ 0 by decide, show 0 ≤ 0 by decide⟩)) (fun r1 hr1 => ?_)
  obtain rfl : r1 = 0 := hr1
  refine lv_if_eq (tgt := 36) hx hb dX5_witness_9 (by decide) (fun _ => ?_) (fun c9 => absurd (by decide) c9)
  refine lv_bipush (v := (-2)) hx hb dX5_witness_36 (by decide) ?_
  exact W.iret (v := (-2)) hx hb hr (fun t ht _ => ⟨(-2), rfl, rfl, ht⟩) (fun _ h => by cases h) dX5_witness_38

set_option maxHeartbeats 4000000 in
set_option maxRecDepth 100000 in
theorem kx_dark (l : Launch) (D : va_G) (cI cZ cB cJ cR : ClassId) (h : Nat) (x n q : Nat → Nat) (p0 : Int32) : Met l yX5_dark wsX5_dark ({ frames := 2, cells := 0, slots := 0, locals := 42 }) (va_Pc [.ref h, .int p0] (pS D cI cZ cB cJ cR [(h, .inr (5, [.ref (x 0), .ref (x 1), .ref (x 2), .ref (x 3), .ref (x 4), .ref (x 5), .ref (x 6), .ref (x 7)])), (x 6, .inr (0, [.ref (n 0), .int 0, .int 0, .int 0, .ref (n 4), .ref (n 5), .ref (n 6), .ref (n 7), .ref (n 8), .int 0, .ref (n 10), .ref (n 11), .ref (n 12), .ref (n 13)])), (n 0, .inl (cI, 7, .inl (fun _ => 0))), (x 1, .inr (3, [.ref (q 0), .ref (q 1), .ref (q 2), .ref (q 3)]))])) (vp_Si (fun r => r = (-2))) 0 0 (fun _ => False) := by
  refine Met.ofW (cc := cX5_dark) (maxL := 4) (ret := (some .int)) (by decide) rfl ?_
  intro p e s m args below meth c s₁ B hml hv
  obtain ⟨rfl, hP, hk⟩ := hv
  have hK := hk.1
  have hz := hk.2.1
  have hx := B.exec
  have hb := B.bytes
  have hr := B.returns
  have hts := atoms_spec (ws := wsX5_dark) B.pre
  have hown : s.vm.findClass RX5 = some m.cls := findClass_of_methodNamed B.named
  have hlocks := B.notSynchronized
  have hi5 : ∀ w ∈ wsX50, w ∈ wsX5_dark := by decide +kernel
  have hl := lv_entry ([.ref h, .int p0]) (n := 4) (Nat.le_of_ble_eq_true rfl)
  rw [lg_entry_eq]
  generalize (lg_sl ([.ref h, .int p0]) ++ List.replicate (4 - (lg_sl ([.ref h, .int p0])).length) Slot.unset).toArray = ls at hl ⊢
  have hl : lv_has ls 4 [(0, .ref h), (1, .int p0)] := hl
  refine lv_aload_n hx hb dX5_dark_0 rfl (lv_at hl 0 rfl) ?_
  refine va_get (D := D) (ci := 5) (v := .ref (x 6)) (C := RX5) (T := TX5) (N := 8) hx hb hts hi5 hown hK hP 0 rfl rfl 6 (by decide) (hts (.fieldLink RX5 48 "AlibiRota" "now" "LAlibiRota$City;") (by decide +kernel)) (fun _ h9 => h9) rfl dX5_dark_1 ?_
  refine lv_iload_n hx hb dX5_dark_4 rfl (lv_at hl 1 rfl) ?_
  refine lv_i2l (v := p0.toInt64) hx hb dX5_dark_5 rfl ?_
  have hPc := hP.sub (ws' := [(x 6, .inr (0, [.ref (n 0), .int 0, .int 0, .int 0, .ref (n 4), .ref (n 5), .ref (n 6), .ref (n 7), .ref (n 8), .int 0, .ref (n 10), .ref (n 11), .ref (n 12), .ref (n 13)])), (n 0, .inl (cI, 7, .inl (fun _ => 0)))]) [1, 2] rfl
  refine vp_callSi (va_Run.run (va_runVN (As := [.long p0.toInt64]) (rest := []) ⟨hx, hb, hml, hown, hts⟩ (k_isHour l D cI cZ cB cJ cR (x 6) n p0.toInt64) ⟨va_cnB 1 hts ggX5_dark_X0_isHour rfl rfl rfl (hz _ zw_RX5_87) (hts (.initialized RX0) (by decide +kernel)) (by decide +kernel) ⟨Nat.le_of_ble_eq_true rfl, Nat.le_of_ble_eq_true rfl⟩, hts (.instanceMethod yX0_isHour) (by decide +kernel), hts (.selects RX0 yX0_isHour yX0_isHour) (by decide +kernel)⟩ ⟨fbS, va_recv hK hPc (ci := 0) (q0 := 0) rfl rfl, pS_at hPc hk⟩ rfl rfl hl.1 rfl (lv_room (Nat.le_of_ble_eq_true rfl)) dX5_dark_6 ⟨show 0 ≤ 0 by decide, show 0 ≤ 0 by decide⟩)) (fun r1 hr1 => ?_)
  obtain rfl : r1 = 0 := hr1
  refine lv_if_ne (tgt := 15) hx hb dX5_dark_9 (by decide) (fun c9 => absurd (by decide) c9) (fun _ => ?_)
  refine lv_bipush (v := (-2)) hx hb dX5_dark_12 (by decide) ?_
  exact W.iret (v := (-2)) hx hb hr (fun t ht _ => ⟨(-2), rfl, rfl, ht⟩) (fun _ h => by cases h) dX5_dark_14
