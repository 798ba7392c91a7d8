set_option maxHeartbeats 4000000 in
set_option maxRecDepth 100000 in
theorem k_X5_at (l : Launch) (D : va_G) (cI cZ cB cJ cR : ClassId) (h : Nat) (x n : Nat → Nat) (p0 p1 : Int32) : Met l yX5_at wsX5_at ({ frames := 1, cells := 0, slots := 0, locals := 22 }) (va_Pc [.ref h, .int p0, .int p1] (pS D cI cZ cB cJ cR [(h, .inr (5, [.ref (x 0), .ref (x 1), .ref (x 2), .ref (x 3), .ref (x 4), .ref (x 5), .ref (x 6), .ref (x 7)])), (x 6, .inr (0, [.ref (n 0), .int 0, .int 0, .int 0, .ref (n 4), .ref (n 5), .ref (n 6), .ref (n 7), .ref (n 8), .int 0, .ref (n 10), .ref (n 11), .ref (n 12), .ref (n 13)])), (n 0, .inl (cI, 7, .inl (fun _ => 0)))])) (vp_Si (fun r => r = (-2))) 0 0 (fun _ => False) := by
  refine Met.ofW (cc := cX5_at) (maxL := 3) (ret := (some .int)) (by decide) rfl ?_
  intro p e s m args below meth c s₁ B hml hv
  obtain ⟨rfl, hP, hk⟩ := hv
  have hK := hk.1
  have hz := hk.2.1
  have hx := B.exec
  have hb := B.bytes
  have hr := B.returns
  have hts := atoms_spec (ws := wsX5_at) B.pre
  have hown : s.vm.findClass RX5 = some m.cls := findClass_of_methodNamed B.named
  have hlocks := B.notSynchronized
  have hi5 : ∀ w ∈ wsX50, w ∈ wsX5_at := by decide +kernel
  have hl := lv_entry ([.ref h, .int p0, .int p1]) (n := 3) (Nat.le_of_ble_eq_true rfl)
  rw [lg_entry_eq]
  generalize (lg_sl ([.ref h, .int p0, .int p1]) ++ List.replicate (3 - (lg_sl ([.ref h, .int p0, .int p1])).length) Slot.unset).toArray = ls at hl ⊢
  have hl : lv_has ls 3 [(0, .ref h), (1, .int p0), (2, .int p1)] := hl
  refine lv_aload_n hx hb dX5_at_0 rfl (lv_at hl 0 rfl) ?_
  refine va_get (D := D) (ci := 5) (v := .ref (x 6)) (C := RX5) (T := TX5) (N := 8) hx hb hts hi5 hown hK hP 0 rfl rfl 6 (by decide) (hts (.fieldLink RX5 48 "AlibiRota" "now" "LAlibiRota$City;") (by decide +kernel)) (fun _ h9 => h9) rfl dX5_at_1 ?_
  refine lv_iload_n hx hb dX5_at_4 rfl (lv_at hl 1 rfl) ?_
  refine lv_i2l (v := p0.toInt64) hx hb dX5_at_5 rfl ?_
  have hPc := hP.sub (ws' := [(x 6, .inr (0, [.ref (n 0), .int 0, .int 0, .int 0, .ref (n 4), .ref (n 5), .ref (n 6), .ref (n 7), .ref (n 8), .int 0, .ref (n 10), .ref (n 11), .ref (n 12), .ref (n 13)]))]) [1] rfl
  refine vp_callSi (va_Run.run (va_runVN (As := [.long p0.toInt64]) (rest := []) ⟨hx, hb, hml, hown, hts⟩ (k_isPerson l D cI cZ cB cJ cR (x 6) n p0.toInt64) ⟨va_cnB 1 hts ggX5_at_X0_isPerson rfl rfl rfl (hz _ zw_RX5_83) (hts (.initialized RX0) (by decide +kernel)) (by decide +kernel) ⟨Nat.le_of_ble_eq_true rfl, Nat.le_of_ble_eq_true rfl⟩, hts (.instanceMethod yX0_isPerson) (by decide +kernel), hts (.selects RX0 yX0_isPerson yX0_isPerson) (by decide +kernel)⟩ ⟨fbS, va_recv hK hPc (ci := 0) (q0 := 0) rfl rfl, pS_at hPc hk⟩ rfl rfl hl.1 rfl (lv_room (Nat.le_of_ble_eq_true rfl)) dX5_at_6 ⟨by decide, by decide⟩)) (fun r1 hr1 => ?_)
  obtain rfl : r1 = 0 := hr1
  refine lv_if_eq (tgt := 24) hx hb dX5_at_9 (by decide) (fun _ => ?_) (fun c9 => absurd (by decide) c9)
  refine lv_bipush (v := (-2)) hx hb dX5_at_24 (by decide) ?_
  exact W.iret (v := (-2)) hx hb hr (fun t ht _ => ⟨(-2), rfl, rfl, ht⟩) (fun _ h => by cases h) dX5_at_26

set_option maxHeartbeats 4000000 in
set_option maxRecDepth 100000 in
theorem k_X5_all (l : Launch) (D : va_G) (cI cZ cB cJ cR : ClassId) (h : Nat) (x n : Nat → Nat) : Met l yX5_all wsX5_all ({ frames := 1, cells := 0, slots := 0, locals := 20 }) (va_Pc [.ref h] (pS D cI cZ cB cJ cR [(h, .inr (5, [.ref (x 0), .ref (x 1), .ref (x 2), .ref (x 3), .ref (x 4), .ref (x 5), .ref (x 6), .ref (x 7)])), (x 6, .inr (0, [.ref (n 0), .int 0, .int 0, .int 0, .ref (n 4), .ref (n 5), .ref (n 6), .ref (n 7), .ref (n 8), .int 0, .ref (n 10), .ref (n 11), .ref (n 12), .ref (n 13)])), (n 0, .inl (cI, 7, .inl (fun _ => 0)))])) (vp_Si (fun r => r = (-2))) 0 0 (fun _ => False) := by
  refine Met.ofW (cc := cX5_all) (maxL := 1) (ret := (some .int)) (by decide) rfl ?_
  intro p e s m args below meth c s₁ B hml hv
  obtain ⟨rfl, hP, hk⟩ := hv
  have hK := hk.1
  have hz := hk.2.1
  have hx := B.exec
  have hb := B.bytes
  have hr := B.returns
  have hts := atoms_spec (ws := wsX5_all) B.pre
  have hown : s.vm.findClass RX5 = some m.cls := findClass_of_methodNamed B.named
  have hlocks := B.notSynchronized
  have hi5 : ∀ w ∈ wsX50, w ∈ wsX5_all := by decide +kernel
  have hl := lv_entry ([.ref h]) (n := 1) (Nat.le_of_ble_eq_true rfl)
  rw [lg_entry_eq]
  generalize (lg_sl ([.ref h]) ++ List.replicate (1 - (lg_sl ([.ref h])).length) Slot.unset).toArray = ls at hl ⊢
  have hl : lv_has ls 1 [(0, .ref h)] := hl
  refine lv_aload_n hx hb dX5_all_0 rfl (lv_at hl 0 rfl) ?_
  refine va_get (D := D) (ci := 5) (v := .ref (x 6)) (C := RX5) (T := TX5) (N := 8) hx hb hts hi5 hown hK hP 0 rfl rfl 6 (by decide) (hts (.fieldLink RX5 48 "AlibiRota" "now" "LAlibiRota$City;") (by decide +kernel)) (fun _ h9 => h9) rfl dX5_all_1 ?_
  have hPc := hP.sub (ws' := [(x 6, .inr (0, [.ref (n 0), .int 0, .int 0, .int 0, .ref (n 4), .ref (n 5), .ref (n 6), .ref (n 7), .ref (n 8), .int 0, .ref (n 10), .ref (n 11), .ref (n 12), .ref (n 13)]))]) [1] rfl
  refine vp_callSi (va_Run.run (va_runVN (As := []) (rest := []) ⟨hx, hb, hml, hown, hts⟩ (k_exists l D cI cZ cB cJ cR (x 6) n ) ⟨va_cnB 0 hts ggX5_all_X0_exists rfl rfl rfl (hz _ zw_RX5_115) (hts (.initialized RX0) (by decide +kernel)) (by decide +kernel) ⟨Nat.le_of_ble_eq_true rfl, Nat.le_of_ble_eq_true rfl⟩, hts (.instanceMethod yX0_exists) (by decide +kernel), hts (.selects RX0 yX0_exists yX0_exists) (by decide +kernel)⟩ ⟨fbS, va_recv hK hPc (ci := 0) (q0 := 0) rfl rfl, pS_at hPc hk⟩ rfl rfl hl.1 rfl (lv_room (Nat.le_of_ble_eq_true rfl)) dX5_all_4 ⟨by decide, by decide⟩)) (fun r1 hr1 => ?_)
  obtain rfl : r1 = 0 := hr1
  refine lv_if_eq (tgt := 27) hx hb dX5_all_7 (by decide) (fun _ => ?_) (fun c9 => absurd (by decide) c9)
  refine lv_bipush (v := (-2)) hx hb dX5_all_27 (by decide) ?_
  exact W.iret (v := (-2)) hx hb hr (fun t ht _ => ⟨(-2), rfl, rfl, ht⟩) (fun _ h => by cases h) dX5_all_29
