set_option maxHeartbeats 4000000 in
set_option maxRecDepth 100000 in
theorem kx_fault (l : Launch) (D : va_G) (cI cZ cB cJ cR : ClassId) (h : Nat) (x : Nat → Nat) (b : Nat) (p0 : Int32) : Met l yX5_fault wsX5_fault ({ frames := 0, cells := 0, slots := 0, locals := 0 }) (va_Pc [.ref h, .int p0] (pS D cI cZ cB cJ cR [(h, .inr (5, [.ref (x 0), .ref (x 1), .ref (x 2), .ref (x 3), .ref (x 4), .ref (x 5), .ref (x 6), .ref (x 7)])), (x 0, .inr (4, [.ref b, .int 0, .int 0, .int (-1), .int 0, .int 0, .int 0, .int 0]))])) (vp_Si (fun r => r = aFault p0)) 0 0 (fun _ => False) := by
  refine Met.ofW (cc := cX5_fault) (maxL := 2) (ret := (some .int)) (by decide) rfl ?_
  intro p e s m args below meth c s₁ B hml hv
  obtain ⟨rfl, hP, hk⟩ := hv
  have hK := hk.1
  have hz := hk.2.1
  have hx := B.exec
  have hb := B.bytes
  have hr := B.returns
  have hts := atoms_spec (ws := wsX5_fault) B.pre
  have hown : s.vm.findClass RX5 = some m.cls := findClass_of_methodNamed B.named
  have hlocks := B.notSynchronized
  have hi4 : ∀ w ∈ wsX40, w ∈ wsX5_fault := by decide +kernel
  have hi5 : ∀ w ∈ wsX50, w ∈ wsX5_fault := by decide +kernel
  have hl := lv_entry ([.ref h, .int p0]) (n := 2) (Nat.le_of_ble_eq_true rfl)
  rw [lg_entry_eq]
  generalize (lg_sl ([.ref h, .int p0]) ++ List.replicate (2 - (lg_sl ([.ref h, .int p0])).length) Slot.unset).toArray = ls at hl ⊢
  have hl : lv_has ls 2 [(0, .ref h), (1, .int p0)] := hl
  refine lv_iload_n hx hb dX5_fault_0 rfl (lv_at hl 1 rfl) ?_
  refine lv_if_ne (tgt := 12) hx hb dX5_fault_1 (by decide) (fun c1 => ?_) (fun c1 => ?_)
  · skip
    refine lv_iload_n hx hb dX5_fault_12 rfl (lv_at hl 1 rfl) ?_
    refine lv_iconst (v := 1) hx hb dX5_fault_13 (by decide) ?_
    refine lv_icmp_ne (tgt := 27) hx hb dX5_fault_14 (by decide) (fun c2 => ?_) (fun c2 => ?_)
    · skip
      refine lv_iconst (v := (-1)) hx hb dX5_fault_27 (by decide) ?_
      exact W.iret (v := (-1)) hx hb hr (fun t ht _ => ⟨(-1), rfl, (by (try simp only [lg_cmp_lt, lg_cmp_ge, lg_cmp_gt, lg_cmp_le, lg_cmp_eq, Int64.lt_iff_toInt_lt, Int64.le_iff_toInt_le, Int32.lt_iff_toInt_lt, Int32.le_iff_toInt_le, eqT32, eqT64, Int32.toInt_toInt64, Int64.reduceToInt, Int32.reduceToInt] at c1); (try simp only [lg_cmp_lt, lg_cmp_ge, lg_cmp_gt, lg_cmp_le, lg_cmp_eq, Int64.lt_iff_toInt_lt, Int64.le_iff_toInt_le, Int32.lt_iff_toInt_lt, Int32.le_iff_toInt_le, eqT32, eqT64, Int32.toInt_toInt64, Int64.reduceToInt, Int32.reduceToInt] at c2); (try unfold aFault); (try simp only [lg_cmp_lt, lg_cmp_ge, lg_cmp_gt, lg_cmp_le, lg_cmp_eq, Int64.lt_iff_toInt_lt, Int64.le_iff_toInt_le, Int32.lt_iff_toInt_lt, Int32.le_iff_toInt_le, eqT32, eqT64, Int32.toInt_toInt64, Int64.reduceToInt, Int32.reduceToInt]); (repeat' split) <;> first | rfl | (exfalso; omega) | omega | simp_all), ht⟩) (fun _ h => by cases h) dX5_fault_28
    · skip
      refine lv_aload_n hx hb dX5_fault_17 rfl (lv_at hl 0 rfl) ?_
      refine va_get (D := D) (ci := 5) (v := .ref (x 0)) (C := RX5) (T := TX5) (N := 8) hx hb hts hi5 hown hK hP 0 rfl rfl 0 (by decide) (hts (.fieldLink RX5 10 "AlibiRota" "tape" "LAlibiRota$Tape;") (by decide +kernel)) (fun _ h9 => h9) rfl dX5_fault_18 ?_
      refine va_getN (D := D) (ci := 4) (v := .int (-1)) (C := RX4) (T := TX4) (N := 8) hx hb hts hi4 hown hK hP 1 rfl rfl 3 (by decide) (va_Nw.use rfl (hz _ zw_RX5_80)) (fun _ h9 => h9) rfl dX5_fault_21 ?_
      refine lv_goto (tgt := 28) hx hb dX5_fault_24 (by decide) ?_
      exact W.iret (v := (-1)) hx hb hr (fun t ht _ => ⟨(-1), rfl, (by (try simp only [lg_cmp_lt, lg_cmp_ge, lg_cmp_gt, lg_cmp_le, lg_cmp_eq, Int64.lt_iff_toInt_lt, Int64.le_iff_toInt_le, Int32.lt_iff_toInt_lt, Int32.le_iff_toInt_le, eqT32, eqT64, Int32.toInt_toInt64, Int64.reduceToInt, Int32.reduceToInt] at c1); (try simp only [lg_cmp_lt, lg_cmp_ge, lg_cmp_gt, lg_cmp_le, lg_cmp_eq, Int64.lt_iff_toInt_lt, Int64.le_iff_toInt_le, Int32.lt_iff_toInt_lt, Int32.le_iff_toInt_le, eqT32, eqT64, Int32.toInt_toInt64, Int64.reduceToInt, Int32.reduceToInt] at c2); (try unfold aFault); (try simp only [lg_cmp_lt, lg_cmp_ge, lg_cmp_gt, lg_cmp_le, lg_cmp_eq, Int64.lt_iff_toInt_lt, Int64.le_iff_toInt_le, Int32.lt_iff_toInt_lt, Int32.le_iff_toInt_le, eqT32, eqT64, Int32.toInt_toInt64, Int64.reduceToInt, Int32.reduceToInt]); (repeat' split) <;> first | rfl | (exfalso; omega) | omega | simp_all), ht⟩) (fun _ h => by cases h) dX5_fault_28
  · skip
    refine lv_aload_n hx hb dX5_fault_4 rfl (lv_at hl 0 rfl) ?_
    refine va_get (D := D) (ci := 5) (v := .ref (x 0)) (C := RX5) (T := TX5) (N := 8) hx hb hts hi5 hown hK hP 0 rfl rfl 0 (by decide) (hts (.fieldLink RX5 10 "AlibiRota" "tape" "LAlibiRota$Tape;") (by decide +kernel)) (fun _ h9 => h9) rfl dX5_fault_5 ?_
    refine va_getN (D := D) (ci := 4) (v := .int 0) (C := RX4) (T := TX4) (N := 8) hx hb hts hi4 hown hK hP 1 rfl rfl 2 (by decide) (va_Nw.use rfl (hz _ zw_RX5_77)) (fun _ h9 => h9) rfl dX5_fault_8 ?_
    exact W.iret (v := 0) hx hb hr (fun t ht _ => ⟨0, rfl, (by (try simp only [lg_cmp_lt, lg_cmp_ge, lg_cmp_gt, lg_cmp_le, lg_cmp_eq, Int64.lt_iff_toInt_lt, Int64.le_iff_toInt_le, Int32.lt_iff_toInt_lt, Int32.le_iff_toInt_le, eqT32, eqT64, Int32.toInt_toInt64, Int64.reduceToInt, Int32.reduceToInt] at c1); (try unfold aFault); (try simp only [lg_cmp_lt, lg_cmp_ge, lg_cmp_gt, lg_cmp_le, lg_cmp_eq, Int64.lt_iff_toInt_lt, Int64.le_iff_toInt_le, Int32.lt_iff_toInt_lt, Int32.le_iff_toInt_le, eqT32, eqT64, Int32.toInt_toInt64, Int64.reduceToInt, Int32.reduceToInt]); (repeat' split) <;> first | rfl | (exfalso; omega) | omega | simp_all), ht⟩) (fun _ h => by cases h) dX5_fault_11

set_option maxHeartbeats 4000000 in
set_option maxRecDepth 100000 in
theorem kx_back (l : Launch) (D : va_G) (cI cZ cB cJ cR : ClassId) (h : Nat) (x : Nat → Nat) (p0 : Int32) : Met l yX5_back wsX5_back ({ frames := 0, cells := 0, slots := 0, locals := 0 }) (va_Pc [.ref h, .int p0] (pS D cI cZ cB cJ cR [(h, .inr (5, [.ref (x 0), .ref (x 1), .ref (x 2), .ref (x 3), .ref (x 4), .ref (x 5), .ref (x 6), .ref (x 7)])), (x 5, .inl (cZ, 3, .inl (fun _ => 0)))])) (vp_Si (fun r => r = aBack p0)) 0 0 (fun _ => False) := by
  refine Met.ofW (cc := cX5_back) (maxL := 2) (ret := (some .int)) (by decide) rfl ?_
  intro p e s m args below meth c s₁ B hml hv
  obtain ⟨rfl, hP, hk⟩ := hv
  have hK := hk.1
  have hz := hk.2.1
  have hx := B.exec
  have hb := B.bytes
  have hr := B.returns
  have hts := atoms_spec (ws := wsX5_back) B.pre
  have hown : s.vm.findClass RX5 = some m.cls := findClass_of_methodNamed B.named
  have hlocks := B.notSynchronized
  have hi5 : ∀ w ∈ wsX50, w ∈ wsX5_back := by decide +kernel
  have hl := lv_entry ([.ref h, .int p0]) (n := 2) (Nat.le_of_ble_eq_true rfl)
  rw [lg_entry_eq]
  generalize (lg_sl ([.ref h, .int p0]) ++ List.replicate (2 - (lg_sl ([.ref h, .int p0])).length) Slot.unset).toArray = ls at hl ⊢
  have hl : lv_has ls 2 [(0, .ref h), (1, .int p0)] := hl
  refine lv_iload_n hx hb dX5_back_0 rfl (lv_at hl 1 rfl) ?_
  refine lv_if_lt (tgt := 9) hx hb dX5_back_1 (by decide) (fun c1 => ?_) (fun c1 => ?_)
  · skip
    refine lv_bipush (v := (-2)) hx hb dX5_back_9 (by decide) ?_
    exact W.iret (v := (-2)) hx hb hr (fun t ht _ => ⟨(-2), rfl, (by (try simp only [lg_cmp_lt, lg_cmp_ge, lg_cmp_gt, lg_cmp_le, lg_cmp_eq, Int64.lt_iff_toInt_lt, Int64.le_iff_toInt_le, Int32.lt_iff_toInt_lt, Int32.le_iff_toInt_le, eqT32, eqT64, Int32.toInt_toInt64, Int64.reduceToInt, Int32.reduceToInt] at c1); (try unfold aBack); (try simp only [lg_cmp_lt, lg_cmp_ge, lg_cmp_gt, lg_cmp_le, lg_cmp_eq, Int64.lt_iff_toInt_lt, Int64.le_iff_toInt_le, Int32.lt_iff_toInt_lt, Int32.le_iff_toInt_le, eqT32, eqT64, Int32.toInt_toInt64, Int64.reduceToInt, Int32.reduceToInt]); (repeat' split) <;> first | rfl | (exfalso; omega) | omega | simp_all), ht⟩) (fun _ h => by cases h) dX5_back_11
  · skip
    refine lv_iload_n hx hb dX5_back_4 rfl (lv_at hl 1 rfl) ?_
    refine lv_iconst (v := 3) hx hb dX5_back_5 (by decide) ?_
    refine lv_icmp_lt (tgt := 12) hx hb dX5_back_6 (by decide) (fun c2 => ?_) (fun c2 => ?_)
    · skip
      rcases sp3 p0 (by simp only [lg_cmp_lt, lg_cmp_ge, lg_cmp_gt, lg_cmp_le, lg_cmp_eq, Int64.lt_iff_toInt_lt, Int64.le_iff_toInt_le, Int32.lt_iff_toInt_lt, Int32.le_iff_toInt_le, eqT32, eqT64, Int32.toInt_toInt64, Int64.reduceToInt, Int32.reduceToInt] at c1 c2; omega) with rfl | rfl | rfl
      · skip
        refine lv_aload_n hx hb dX5_back_12 rfl (lv_at hl 0 rfl) ?_
        refine va_get (D := D) (ci := 5) (v := .ref (x 5)) (C := RX5) (T := TX5) (N := 8) hx hb hts hi5 hown hK hP 0 rfl rfl 5 (by decide) (hts (.fieldLink RX5 43 "AlibiRota" "kept" "[Z") (by decide +kernel)) (fun _ h9 => h9) rfl dX5_back_13 ?_
        refine lv_iload_n hx hb dX5_back_16 rfl (lv_at hl 1 rfl) ?_
        refine va_zald hx hb hK hP 1 1 rfl rfl (inC 0 3 (by decide)) dX5_back_17 ?_
        refine lv_topi (fun v3 ev3 => ?_)
        obtain rfl : v3 = 0 := ev3
        refine lv_if_ne (tgt := 24) hx hb dX5_back_18 (by decide) (fun c9 => absurd (by decide) c9) (fun _ => ?_)
        refine lv_bipush (v := (-6)) hx hb dX5_back_21 (by decide) ?_
        exact W.iret (v := (-6)) hx hb hr (fun t ht _ => ⟨(-6), rfl, (by (try unfold aBack); (try simp only [lg_cmp_lt, lg_cmp_ge, lg_cmp_gt, lg_cmp_le, lg_cmp_eq, Int64.lt_iff_toInt_lt, Int64.le_iff_toInt_le, Int32.lt_iff_toInt_lt, Int32.le_iff_toInt_le, eqT32, eqT64, Int32.toInt_toInt64, Int64.reduceToInt, Int32.reduceToInt]); (repeat' split) <;> first | rfl | (exfalso; omega) | omega | simp_all), ht⟩) (fun _ h => by cases h) dX5_back_23
      · skip
        refine lv_aload_n hx hb dX5_back_12 rfl (lv_at hl 0 rfl) ?_
        refine va_get (D := D) (ci := 5) (v := .ref (x 5)) (C := RX5) (T := TX5) (N := 8) hx hb hts hi5 hown hK hP 0 rfl rfl 5 (by decide) (hts (.fieldLink RX5 43 "AlibiRota" "kept" "[Z") (by decide +kernel)) (fun _ h9 => h9) rfl dX5_back_13 ?_
        refine lv_iload_n hx hb dX5_back_16 rfl (lv_at hl 1 rfl) ?_
        refine va_zald hx hb hK hP 1 1 rfl rfl (inC 1 3 (by decide)) dX5_back_17 ?_
        refine lv_topi (fun v4 ev4 => ?_)
        obtain rfl : v4 = 0 := ev4
        refine lv_if_ne (tgt := 24) hx hb dX5_back_18 (by decide) (fun c9 => absurd (by decide) c9) (fun _ => ?_)
        refine lv_bipush (v := (-6)) hx hb dX5_back_21 (by decide) ?_
        exact W.iret (v := (-6)) hx hb hr (fun t ht _ => ⟨(-6), rfl, (by (try unfold aBack); (try simp only [lg_cmp_lt, lg_cmp_ge, lg_cmp_gt, lg_cmp_le, lg_cmp_eq, Int64.lt_iff_toInt_lt, Int64.le_iff_toInt_le, Int32.lt_iff_toInt_lt, Int32.le_iff_toInt_le, eqT32, eqT64, Int32.toInt_toInt64, Int64.reduceToInt, Int32.reduceToInt]); (repeat' split) <;> first | rfl | (exfalso; omega) | omega | simp_all), ht⟩) (fun _ h => by cases h) dX5_back_23
      · skip
        refine lv_aload_n hx hb dX5_back_12 rfl (lv_at hl 0 rfl) ?_
        refine va_get (D := D) (ci := 5) (v := .ref (x 5)) (C := RX5) (T := TX5) (N := 8) hx hb hts hi5 hown hK hP 0 rfl rfl 5 (by decide) (hts (.fieldLink RX5 43 "AlibiRota" "kept" "[Z") (by decide +kernel)) (fun _ h9 => h9) rfl dX5_back_13 ?_
        refine lv_iload_n hx hb dX5_back_16 rfl (lv_at hl 1 rfl) ?_
        refine va_zald hx hb hK hP 1 1 rfl rfl (inC 2 3 (by decide)) dX5_back_17 ?_
        refine lv_topi (fun v5 ev5 => ?_)
        obtain rfl : v5 = 0 := ev5
        refine lv_if_ne (tgt := 24) hx hb dX5_back_18 (by decide) (fun c9 => absurd (by decide) c9) (fun _ => ?_)
        refine lv_bipush (v := (-6)) hx hb dX5_back_21 (by decide) ?_
        exact W.iret (v := (-6)) hx hb hr (fun t ht _ => ⟨(-6), rfl, (by (try unfold aBack); (try simp only [lg_cmp_lt, lg_cmp_ge, lg_cmp_gt, lg_cmp_le, lg_cmp_eq, Int64.lt_iff_toInt_lt, Int64.le_iff_toInt_le, Int32.lt_iff_toInt_lt, Int32.le_iff_toInt_le, eqT32, eqT64, Int32.toInt_toInt64, Int64.reduceToInt, Int32.reduceToInt]); (repeat' split) <;> first | rfl | (exfalso; omega) | omega | simp_all), ht⟩) (fun _ h => by cases h) dX5_back_23
    · skip
      refine lv_bipush (v := (-2)) hx hb dX5_back_9 (by decide) ?_
      exact W.iret (v := (-2)) hx hb hr (fun t ht _ => ⟨(-2), rfl, (by (try simp only [lg_cmp_lt, lg_cmp_ge, lg_cmp_gt, lg_cmp_le, lg_cmp_eq, Int64.lt_iff_toInt_lt, Int64.le_iff_toInt_le, Int32.lt_iff_toInt_lt, Int32.le_iff_toInt_le, eqT32, eqT64, Int32.toInt_toInt64, Int64.reduceToInt, Int32.reduceToInt] at c1); (try simp only [lg_cmp_lt, lg_cmp_ge, lg_cmp_gt, lg_cmp_le, lg_cmp_eq, Int64.lt_iff_toInt_lt, Int64.le_iff_toInt_le, Int32.lt_iff_toInt_lt, Int32.le_iff_toInt_le, eqT32, eqT64, Int32.toInt_toInt64, Int64.reduceToInt, Int32.reduceToInt] at c2); (try unfold aBack); (try simp only [lg_cmp_lt, lg_cmp_ge, lg_cmp_gt, lg_cmp_le, lg_cmp_eq, Int64.lt_iff_toInt_lt, Int64.le_iff_toInt_le, Int32.lt_iff_toInt_lt, Int32.le_iff_toInt_le, eqT32, eqT64, Int32.toInt_toInt64, Int64.reduceToInt, Int32.reduceToInt]); (repeat' split) <;> first | rfl | (exfalso; omega) | omega | simp_all), ht⟩) (fun _ h => by cases h) dX5_back_11

set_option maxHeartbeats 4000000 in
set_option maxRecDepth 100000 in
theorem kx_write (l : Launch) (D : va_G) (cI cZ cB cJ cR : ClassId) (h : Nat) (x : Nat → Nat) (q : Nat → Nat) (p0 p1 : Int32) (p2 : Int64) : Met l yX5_write wsX5_write ({ frames := 1, cells := 0, slots := 0, locals := 21 }) (va_Pc [.ref h, .int p0, .int p1, .long p2] (pS D cI cZ cB cJ cR [(h, .inr (5, [.ref (x 0), .ref (x 1), .ref (x 2), .ref (x 3), .ref (x 4), .ref (x 5), .ref (x 6), .ref (x 7)])), (x 1, .inr (3, [.ref (q 0), .ref (q 1), .ref (q 2), .ref (q 3)])), (q 0, .inl (cZ, 4, .inl (fun _ => 0))), (q 1, .inl (cI, 4, .inl (fun _ => 0))), (q 2, .inl (cI, 4, .inl (fun _ => 0))), (q 3, .inl (cJ, 240, .inr (.inl (fun _ => 0))))])) (vp_Si (fun r => r = aWrite p0)) 0 0 (fun _ => False) := by
  refine Met.ofW (cc := cX5_write) (maxL := 5) (ret := (some .int)) (by decide) rfl ?_
  intro p e s m args below meth c s₁ B hml hv
  obtain ⟨rfl, hP, hk⟩ := hv
  have hK := hk.1
  have hz := hk.2.1
  have hx := B.exec
  have hb := B.bytes
  have hr := B.returns
  have hts := atoms_spec (ws := wsX5_write) B.pre
  have hown : s.vm.findClass RX5 = some m.cls := findClass_of_methodNamed B.named
  have hlocks := B.notSynchronized
  have hi5 : ∀ w ∈ wsX50, w ∈ wsX5_write := by decide +kernel
  have hl := lv_entry ([.ref h, .int p0, .int p1, .long p2]) (n := 5) (Nat.le_of_ble_eq_true rfl)
  rw [lg_entry_eq]
  generalize (lg_sl ([.ref h, .int p0, .int p1, .long p2]) ++ List.replicate (5 - (lg_sl ([.ref h, .int p0, .int p1, .long p2])).length) Slot.unset).toArray = ls at hl ⊢
  have hl : lv_has ls 5 [(0, .ref h), (1, .int p0), (2, .int p1), (3, .long p2)] := hl
  refine lv_aload_n hx hb dX5_write_0 rfl (lv_at hl 0 rfl) ?_
  refine va_get (D := D) (ci := 5) (v := .ref (x 1)) (C := RX5) (T := TX5) (N := 8) hx hb hts hi5 hown hK hP 0 rfl rfl 1 (by decide) (hts (.fieldLink RX5 19 "AlibiRota" "slots" "LAlibiRota$Slots;") (by decide +kernel)) (fun _ h9 => h9) rfl dX5_write_1 ?_
  refine lv_iload_n hx hb dX5_write_4 rfl (lv_at hl 1 rfl) ?_
  have hPc := hP.sub (ws' := [(x 1, .inr (3, [.ref (q 0), .ref (q 1), .ref (q 2), .ref (q 3)]))]) [1] rfl
  refine vp_callSi (va_Run.run (va_runVN (As := [.int p0]) (rest := []) ⟨hx, hb, hml, hown, hts⟩ (k_isSlot l D cI cZ cB cJ cR (x 1) q p0) ⟨va_cnB 1 hts ggX5_write_X3_isSlot rfl rfl rfl (hz _ zw_RX5_321) (hts (.initialized RX3) (by decide +kernel)) (by decide +kernel) ⟨Nat.le_of_ble_eq_true rfl, Nat.le_of_ble_eq_true rfl⟩, hts (.instanceMethod yX3_isSlot) (by decide +kernel), hts (.selects RX3 yX3_isSlot yX3_isSlot) (by decide +kernel)⟩ ⟨fbS, va_recv hK hPc (ci := 3) (q0 := 0) rfl rfl, pS_at hPc hk⟩ rfl rfl hl.1 rfl (lv_room (Nat.le_of_ble_eq_true rfl)) dX5_write_5 ⟨show 0 ≤ 0 by decide, show 0 ≤ 0 by decide⟩)) (fun r1 hr1 => ?_)
  rcases hr1 with ⟨rfl, g2, g3⟩ | ⟨rfl, g4⟩
  · skip
    refine lv_if_ne (tgt := 14) hx hb dX5_write_8 (by decide) (fun _ => ?_) (fun c9 => absurd c9 (by decide))
    rcases sp4 p0 (by simp only [lg_cmp_lt, lg_cmp_ge, lg_cmp_gt, lg_cmp_le, lg_cmp_eq, Int64.lt_iff_toInt_lt, Int64.le_iff_toInt_le, Int32.lt_iff_toInt_lt, Int32.le_iff_toInt_le, eqT32, eqT64, Int32.toInt_toInt64, Int64.reduceToInt, Int32.reduceToInt] at g2 g3; omega) with rfl | rfl | rfl | rfl
    · skip
      refine lv_aload_n hx hb dX5_write_14 rfl (lv_at hl 0 rfl) ?_
      refine va_get (D := D) (ci := 5) (v := .ref (x 1)) (C := RX5) (T := TX5) (N := 8) hx hb hts hi5 hown hK hP 0 rfl rfl 1 (by decide) (hts (.fieldLink RX5 19 "AlibiRota" "slots" "LAlibiRota$Slots;") (by decide +kernel)) (fun _ h9 => h9) rfl dX5_write_15 ?_
      refine lv_iload_n hx hb dX5_write_18 rfl (lv_at hl 1 rfl) ?_
      have hPc := hP.sub (ws' := [(x 1, .inr (3, [.ref (q 0), .ref (q 1), .ref (q 2), .ref (q 3)])), (q 0, .inl (cZ, 4, .inl (fun _ => 0)))]) [1, 2] rfl
      refine vp_callSi (va_Run.run (va_runVN (As := [.int 0]) (rest := []) ⟨hx, hb, hml, hown, hts⟩ (k_hasRow0 l D cI cZ cB cJ cR (x 1) q) ⟨va_cnB 1 hts ggX5_write_X3_hasRow rfl rfl rfl (hz _ zw_RX5_328) (hts (.initialized RX3) (by decide +kernel)) (by decide +kernel) ⟨Nat.le_of_ble_eq_true rfl, Nat.le_of_ble_eq_true rfl⟩, hts (.instanceMethod yX3_hasRow) (by decide +kernel), hts (.selects RX3 yX3_hasRow yX3_hasRow) (by decide +kernel)⟩ ⟨fbS, va_recv hK hPc (ci := 3) (q0 := 0) rfl rfl, pS_at hPc hk⟩ rfl rfl hl.1 rfl (lv_room (Nat.le_of_ble_eq_true rfl)) dX5_write_19 ⟨show 0 ≤ 0 by decide, show 0 ≤ 0 by decide⟩)) (fun r5 hr5 => ?_)
      obtain rfl : r5 = 0 := hr5
      refine lv_if_ne (tgt := 28) hx hb dX5_write_22 (by decide) (fun c9 => absurd (by decide) c9) (fun _ => ?_)
      refine lv_bipush (v := (-6)) hx hb dX5_write_25 (by decide) ?_
      exact W.iret (v := (-6)) hx hb hr (fun t ht _ => ⟨(-6), rfl, (by (try unfold aWrite); (try simp only [lg_cmp_lt, lg_cmp_ge, lg_cmp_gt, lg_cmp_le, lg_cmp_eq, Int64.lt_iff_toInt_lt, Int64.le_iff_toInt_le, Int32.lt_iff_toInt_lt, Int32.le_iff_toInt_le, eqT32, eqT64, Int32.toInt_toInt64, Int64.reduceToInt, Int32.reduceToInt]); (repeat' split) <;> first | rfl | (exfalso; omega) | omega | simp_all), ht⟩) (fun _ h => by cases h) dX5_write_27
    · skip
      refine lv_aload_n hx hb dX5_write_14 rfl (lv_at hl 0 rfl) ?_
      refine va_get (D := D) (ci := 5) (v := .ref (x 1)) (C := RX5) (T := TX5) (N := 8) hx hb hts hi5 hown hK hP 0 rfl rfl 1 (by decide) (hts (.fieldLink RX5 19 "AlibiRota" "slots" "LAlibiRota$Slots;") (by decide +kernel)) (fun _ h9 => h9) rfl dX5_write_15 ?_
      refine lv_iload_n hx hb dX5_write_18 rfl (lv_at hl 1 rfl) ?_
      have hPc := hP.sub (ws' := [(x 1, .inr (3, [.ref (q 0), .ref (q 1), .ref (q 2), .ref (q 3)])), (q 0, .inl (cZ, 4, .inl (fun _ => 0)))]) [1, 2] rfl
      refine vp_callSi (va_Run.run (va_runVN (As := [.int 1]) (rest := []) ⟨hx, hb, hml, hown, hts⟩ (k_hasRow1 l D cI cZ cB cJ cR (x 1) q) ⟨va_cnB 1 hts ggX5_write_X3_hasRow rfl rfl rfl (hz _ zw_RX5_328) (hts (.initialized RX3) (by decide +kernel)) (by decide +kernel) ⟨Nat.le_of_ble_eq_true rfl, Nat.le_of_ble_eq_true rfl⟩, hts (.instanceMethod yX3_hasRow) (by decide +kernel), hts (.selects RX3 yX3_hasRow yX3_hasRow) (by decide +kernel)⟩ ⟨fbS, va_recv hK hPc (ci := 3) (q0 := 0) rfl rfl, pS_at hPc hk⟩ rfl rfl hl.1 rfl (lv_room (Nat.le_of_ble_eq_true rfl)) dX5_write_19 ⟨show 0 ≤ 0 by decide, show 0 ≤ 0 by decide⟩)) (fun r6 hr6 => ?_)
      obtain rfl : r6 = 0 := hr6
      refine lv_if_ne (tgt := 28) hx hb dX5_write_22 (by decide) (fun c9 => absurd (by decide) c9) (fun _ => ?_)
      refine lv_bipush (v := (-6)) hx hb dX5_write_25 (by decide) ?_
      exact W.iret (v := (-6)) hx hb hr (fun t ht _ => ⟨(-6), rfl, (by (try unfold aWrite); (try simp only [lg_cmp_lt, lg_cmp_ge, lg_cmp_gt, lg_cmp_le, lg_cmp_eq, Int64.lt_iff_toInt_lt, Int64.le_iff_toInt_le, Int32.lt_iff_toInt_lt, Int32.le_iff_toInt_le, eqT32, eqT64, Int32.toInt_toInt64, Int64.reduceToInt, Int32.reduceToInt]); (repeat' split) <;> first | rfl | (exfalso; omega) | omega | simp_all), ht⟩) (fun _ h => by cases h) dX5_write_27
    · skip
      refine lv_aload_n hx hb dX5_write_14 rfl (lv_at hl 0 rfl) ?_
      refine va_get (D := D) (ci := 5) (v := .ref (x 1)) (C := RX5) (T := TX5) (N := 8) hx hb hts hi5 hown hK hP 0 rfl rfl 1 (by decide) (hts (.fieldLink RX5 19 "AlibiRota" "slots" "LAlibiRota$Slots;") (by decide +kernel)) (fun _ h9 => h9) rfl dX5_write_15 ?_
      refine lv_iload_n hx hb dX5_write_18 rfl (lv_at hl 1 rfl) ?_
      have hPc := hP.sub (ws' := [(x 1, .inr (3, [.ref (q 0), .ref (q 1), .ref (q 2), .ref (q 3)])), (q 0, .inl (cZ, 4, .inl (fun _ => 0)))]) [1, 2] rfl
      refine vp_callSi (va_Run.run (va_runVN (As := [.int 2]) (rest := []) ⟨hx, hb, hml, hown, hts⟩ (k_hasRow2 l D cI cZ cB cJ cR (x 1) q) ⟨va_cnB 1 hts ggX5_write_X3_hasRow rfl rfl rfl (hz _ zw_RX5_328) (hts (.initialized RX3) (by decide +kernel)) (by decide +kernel) ⟨Nat.le_of_ble_eq_true rfl, Nat.le_of_ble_eq_true rfl⟩, hts (.instanceMethod yX3_hasRow) (by decide +kernel), hts (.selects RX3 yX3_hasRow yX3_hasRow) (by decide +kernel)⟩ ⟨fbS, va_recv hK hPc (ci := 3) (q0 := 0) rfl rfl, pS_at hPc hk⟩ rfl rfl hl.1 rfl (lv_room (Nat.le_of_ble_eq_true rfl)) dX5_write_19 ⟨show 0 ≤ 0 by decide, show 0 ≤ 0 by decide⟩)) (fun r7 hr7 => ?_)
      obtain rfl : r7 = 0 := hr7
      refine lv_if_ne (tgt := 28) hx hb dX5_write_22 (by decide) (fun c9 => absurd (by decide) c9) (fun _ => ?_)
      refine lv_bipush (v := (-6)) hx hb dX5_write_25 (by decide) ?_
      exact W.iret (v := (-6)) hx hb hr (fun t ht _ => ⟨(-6), rfl, (by (try unfold aWrite); (try simp only [lg_cmp_lt, lg_cmp_ge, lg_cmp_gt, lg_cmp_le, lg_cmp_eq, Int64.lt_iff_toInt_lt, Int64.le_iff_toInt_le, Int32.lt_iff_toInt_lt, Int32.le_iff_toInt_le, eqT32, eqT64, Int32.toInt_toInt64, Int64.reduceToInt, Int32.reduceToInt]); (repeat' split) <;> first | rfl | (exfalso; omega) | omega | simp_all), ht⟩) (fun _ h => by cases h) dX5_write_27
    · skip
      refine lv_aload_n hx hb dX5_write_14 rfl (lv_at hl 0 rfl) ?_
      refine va_get (D := D) (ci := 5) (v := .ref (x 1)) (C := RX5) (T := TX5) (N := 8) hx hb hts hi5 hown hK hP 0 rfl rfl 1 (by decide) (hts (.fieldLink RX5 19 "AlibiRota" "slots" "LAlibiRota$Slots;") (by decide +kernel)) (fun _ h9 => h9) rfl dX5_write_15 ?_
      refine lv_iload_n hx hb dX5_write_18 rfl (lv_at hl 1 rfl) ?_
      have hPc := hP.sub (ws' := [(x 1, .inr (3, [.ref (q 0), .ref (q 1), .ref (q 2), .ref (q 3)])), (q 0, .inl (cZ, 4, .inl (fun _ => 0)))]) [1, 2] rfl
      refine vp_callSi (va_Run.run (va_runVN (As := [.int 3]) (rest := []) ⟨hx, hb, hml, hown, hts⟩ (k_hasRow3 l D cI cZ cB cJ cR (x 1) q) ⟨va_cnB 1 hts ggX5_write_X3_hasRow rfl rfl rfl (hz _ zw_RX5_328) (hts (.initialized RX3) (by decide +kernel)) (by decide +kernel) ⟨Nat.le_of_ble_eq_true rfl, Nat.le_of_ble_eq_true rfl⟩, hts (.instanceMethod yX3_hasRow) (by decide +kernel), hts (.selects RX3 yX3_hasRow yX3_hasRow) (by decide +kernel)⟩ ⟨fbS, va_recv hK hPc (ci := 3) (q0 := 0) rfl rfl, pS_at hPc hk⟩ rfl rfl hl.1 rfl (lv_room (Nat.le_of_ble_eq_true rfl)) dX5_write_19 ⟨show 0 ≤ 0 by decide, show 0 ≤ 0 by decide⟩)) (fun r8 hr8 => ?_)
      obtain rfl : r8 = 0 := hr8
      refine lv_if_ne (tgt := 28) hx hb dX5_write_22 (by decide) (fun c9 => absurd (by decide) c9) (fun _ => ?_)
      refine lv_bipush (v := (-6)) hx hb dX5_write_25 (by decide) ?_
      exact W.iret (v := (-6)) hx hb hr (fun t ht _ => ⟨(-6), rfl, (by (try unfold aWrite); (try simp only [lg_cmp_lt, lg_cmp_ge, lg_cmp_gt, lg_cmp_le, lg_cmp_eq, Int64.lt_iff_toInt_lt, Int64.le_iff_toInt_le, Int32.lt_iff_toInt_lt, Int32.le_iff_toInt_le, eqT32, eqT64, Int32.toInt_toInt64, Int64.reduceToInt, Int32.reduceToInt]); (repeat' split) <;> first | rfl | (exfalso; omega) | omega | simp_all), ht⟩) (fun _ h => by cases h) dX5_write_27
  · skip
    refine lv_if_ne (tgt := 14) hx hb dX5_write_8 (by decide) (fun c9 => absurd (by decide) c9) (fun _ => ?_)
    refine lv_bipush (v := (-2)) hx hb dX5_write_11 (by decide) ?_
    exact W.iret (v := (-2)) hx hb hr (fun t ht _ => ⟨(-2), rfl, (by (try simp only [lg_cmp_lt, lg_cmp_ge, lg_cmp_gt, lg_cmp_le, lg_cmp_eq, Int64.lt_iff_toInt_lt, Int64.le_iff_toInt_le, Int32.lt_iff_toInt_lt, Int32.le_iff_toInt_le, eqT32, eqT64, Int32.toInt_toInt64, Int64.reduceToInt, Int32.reduceToInt] at g4); (try unfold aWrite); (try simp only [lg_cmp_lt, lg_cmp_ge, lg_cmp_gt, lg_cmp_le, lg_cmp_eq, Int64.lt_iff_toInt_lt, Int64.le_iff_toInt_le, Int32.lt_iff_toInt_lt, Int32.le_iff_toInt_le, eqT32, eqT64, Int32.toInt_toInt64, Int64.reduceToInt, Int32.reduceToInt]); (repeat' split) <;> first | rfl | (exfalso; omega) | omega | simp_all), ht⟩) (fun _ h => by cases h) dX5_write_13

set_option maxHeartbeats 4000000 in
set_option maxRecDepth 100000 in
theorem kx_paste (l : Launch) (D : va_G) (cI cZ cB cJ cR : ClassId) (h : Nat) (x : Nat → Nat) (q : Nat → Nat) (p0 p1 p2 p3 p4 : Int32) : Met l yX5_paste wsX5_paste ({ frames := 1, cells := 0, slots := 0, locals := 21 }) (va_Pc [.ref h, .int p0, .int p1, .int p2, .int p3, .int p4] (pS D cI cZ cB cJ cR [(h, .inr (5, [.ref (x 0), .ref (x 1), .ref (x 2), .ref (x 3), .ref (x 4), .ref (x 5), .ref (x 6), .ref (x 7)])), (x 1, .inr (3, [.ref (q 0), .ref (q 1), .ref (q 2), .ref (q 3)])), (q 0, .inl (cZ, 4, .inl (fun _ => 0))), (q 1, .inl (cI, 4, .inl (fun _ => 0))), (q 2, .inl (cI, 4, .inl (fun _ => 0))), (q 3, .inl (cJ, 240, .inr (.inl (fun _ => 0))))])) (vp_Si (fun r => r = aPaste p0 p2)) 0 0 (fun _ => False) := by
  refine Met.ofW (cc := cX5_paste) (maxL := 6) (ret := (some .int)) (by decide) rfl ?_
  intro p e s m args below meth c s₁ B hml hv
  obtain ⟨rfl, hP, hk⟩ := hv
  have hK := hk.1
  have hz := hk.2.1
  have hx := B.exec
  have hb := B.bytes
  have hr := B.returns
  have hts := atoms_spec (ws := wsX5_paste) B.pre
  have hown : s.vm.findClass RX5 = some m.cls := findClass_of_methodNamed B.named
  have hlocks := B.notSynchronized
  have hi5 : ∀ w ∈ wsX50, w ∈ wsX5_paste := by decide +kernel
  have hl := lv_entry ([.ref h, .int p0, .int p1, .int p2, .int p3, .int p4]) (n := 6) (Nat.le_of_ble_eq_true rfl)
  rw [lg_entry_eq]
  generalize (lg_sl ([.ref h, .int p0, .int p1, .int p2, .int p3, .int p4]) ++ List.replicate (6 - (lg_sl ([.ref h, .int p0, .int p1, .int p2, .int p3, .int p4])).length) Slot.unset).toArray = ls at hl ⊢
  have hl : lv_has ls 6 [(0, .ref h), (1, .int p0), (2, .int p1), (3, .int p2), (4, .int p3), (5, .int p4)] := hl
  refine lv_aload_n hx hb dX5_paste_0 rfl (lv_at hl 0 rfl) ?_
  refine va_get (D := D) (ci := 5) (v := .ref (x 1)) (C := RX5) (T := TX5) (N := 8) hx hb hts hi5 hown hK hP 0 rfl rfl 1 (by decide) (hts (.fieldLink RX5 19 "AlibiRota" "slots" "LAlibiRota$Slots;") (by decide +kernel)) (fun _ h9 => h9) rfl dX5_paste_1 ?_
  refine lv_iload_n hx hb dX5_paste_4 rfl (lv_at hl 1 rfl) ?_
  have hPc := hP.sub (ws' := [(x 1, .inr (3, [.ref (q 0), .ref (q 1), .ref (q 2), .ref (q 3)]))]) [1] rfl
  refine vp_callSi (va_Run.run (va_runVN (As := [.int p0]) (rest := []) ⟨hx, hb, hml, hown, hts⟩ (k_isSlot l D cI cZ cB cJ cR (x 1) q p0) ⟨va_cnB 1 hts ggX5_paste_X3_isSlot rfl rfl rfl (hz _ zw_RX5_321) (hts (.initialized RX3) (by decide +kernel)) (by decide +kernel) ⟨Nat.le_of_ble_eq_true rfl, Nat.le_of_ble_eq_true rfl⟩, hts (.instanceMethod yX3_isSlot) (by decide +kernel), hts (.selects RX3 yX3_isSlot yX3_isSlot) (by decide +kernel)⟩ ⟨fbS, va_recv hK hPc (ci := 3) (q0 := 0) rfl rfl, pS_at hPc hk⟩ rfl rfl hl.1 rfl (lv_room (Nat.le_of_ble_eq_true rfl)) dX5_paste_5 ⟨show 0 ≤ 0 by decide, show 0 ≤ 0 by decide⟩)) (fun r1 hr1 => ?_)
  rcases hr1 with ⟨rfl, g2, g3⟩ | ⟨rfl, g4⟩
  · skip
    refine lv_if_eq (tgt := 22) hx hb dX5_paste_8 (by decide) (fun c9 => absurd c9 (by decide)) (fun _ => ?_)
    refine lv_aload_n hx hb dX5_paste_11 rfl (lv_at hl 0 rfl) ?_
    refine va_get (D := D) (ci := 5) (v := .ref (x 1)) (C := RX5) (T := TX5) (N := 8) hx hb hts hi5 hown hK hP 0 rfl rfl 1 (by decide) (hts (.fieldLink RX5 19 "AlibiRota" "slots" "LAlibiRota$Slots;") (by decide +kernel)) (fun _ h9 => h9) rfl dX5_paste_12 ?_
    refine lv_iload_n hx hb dX5_paste_15 rfl (lv_at hl 3 rfl) ?_
    have hPc := hP.sub (ws' := [(x 1, .inr (3, [.ref (q 0), .ref (q 1), .ref (q 2), .ref (q 3)]))]) [1] rfl
    refine vp_callSi (va_Run.run (va_runVN (As := [.int p2]) (rest := []) ⟨hx, hb, hml, hown, hts⟩ (k_isSlot l D cI cZ cB cJ cR (x 1) q p2) ⟨va_cnB 1 hts ggX5_paste_X3_isSlot rfl rfl rfl (hz _ zw_RX5_321) (hts (.initialized RX3) (by decide +kernel)) (by decide +kernel) ⟨Nat.le_of_ble_eq_true rfl, Nat.le_of_ble_eq_true rfl⟩, hts (.instanceMethod yX3_isSlot) (by decide +kernel), hts (.selects RX3 yX3_isSlot yX3_isSlot) (by decide +kernel)⟩ ⟨fbS, va_recv hK hPc (ci := 3) (q0 := 0) rfl rfl, pS_at hPc hk⟩ rfl rfl hl.1 rfl (lv_room (Nat.le_of_ble_eq_true rfl)) dX5_paste_16 ⟨show 0 ≤ 0 by decide, show 0 ≤ 0 by decide⟩)) (fun r5 hr5 => ?_)
    rcases hr5 with ⟨rfl, g6, g7⟩ | ⟨rfl, g8⟩
    · skip
      refine lv_if_ne (tgt := 25) hx hb dX5_paste_19 (by decide) (fun _ => ?_) (fun c9 => absurd c9 (by decide))
      rcases sp4 p0 (by simp only [lg_cmp_lt, lg_cmp_ge, lg_cmp_gt, lg_cmp_le, lg_cmp_eq, Int64.lt_iff_toInt_lt, Int64.le_iff_toInt_le, Int32.lt_iff_toInt_lt, Int32.le_iff_toInt_le, eqT32, eqT64, Int32.toInt_toInt64, Int64.reduceToInt, Int32.reduceToInt] at g2 g3; omega) with rfl | rfl | rfl | rfl
      · skip
        refine lv_aload_n hx hb dX5_paste_25 rfl (lv_at hl 0 rfl) ?_
        refine va_get (D := D) (ci := 5) (v := .ref (x 1)) (C := RX5) (T := TX5) (N := 8) hx hb hts hi5 hown hK hP 0 rfl rfl 1 (by decide) (hts (.fieldLink RX5 19 "AlibiRota" "slots" "LAlibiRota$Slots;") (by decide +kernel)) (fun _ h9 => h9) rfl dX5_paste_26 ?_
        refine lv_iload_n hx hb dX5_paste_29 rfl (lv_at hl 1 rfl) ?_
        have hPc := hP.sub (ws' := [(x 1, .inr (3, [.ref (q 0), .ref (q 1), .ref (q 2), .ref (q 3)])), (q 0, .inl (cZ, 4, .inl (fun _ => 0)))]) [1, 2] rfl
        refine vp_callSi (va_Run.run (va_runVN (As := [.int 0]) (rest := []) ⟨hx, hb, hml, hown, hts⟩ (k_hasRow0 l D cI cZ cB cJ cR (x 1) q) ⟨va_cnB 1 hts ggX5_paste_X3_hasRow rfl rfl rfl (hz _ zw_RX5_328) (hts (.initialized RX3) (by decide +kernel)) (by decide +kernel) ⟨Nat.le_of_ble_eq_true rfl, Nat.le_of_ble_eq_true rfl⟩, hts (.instanceMethod yX3_hasRow) (by decide +kernel), hts (.selects RX3 yX3_hasRow yX3_hasRow) (by decide +kernel)⟩ ⟨fbS, va_recv hK hPc (ci := 3) (q0 := 0) rfl rfl, pS_at hPc hk⟩ rfl rfl hl.1 rfl (lv_room (Nat.le_of_ble_eq_true rfl)) dX5_paste_30 ⟨show 0 ≤ 0 by decide, show 0 ≤ 0 by decide⟩)) (fun r9 hr9 => ?_)
        obtain rfl : r9 = 0 := hr9
        refine lv_if_eq (tgt := 47) hx hb dX5_paste_33 (by decide) (fun _ => ?_) (fun c9 => absurd (by decide) c9)
        refine lv_bipush (v := (-6)) hx hb dX5_paste_47 (by decide) ?_
        exact W.iret (v := (-6)) hx hb hr (fun t ht _ => ⟨(-6), rfl, (by (try simp only [lg_cmp_lt, lg_cmp_ge, lg_cmp_gt, lg_cmp_le, lg_cmp_eq, Int64.lt_iff_toInt_lt, Int64.le_iff_toInt_le, Int32.lt_iff_toInt_lt, Int32.le_iff_toInt_le, eqT32, eqT64, Int32.toInt_toInt64, Int64.reduceToInt, Int32.reduceToInt] at g6); (try simp only [lg_cmp_lt, lg_cmp_ge, lg_cmp_gt, lg_cmp_le, lg_cmp_eq, Int64.lt_iff_toInt_lt, Int64.le_iff_toInt_le, Int32.lt_iff_toInt_lt, Int32.le_iff_toInt_le, eqT32, eqT64, Int32.toInt_toInt64, Int64.reduceToInt, Int32.reduceToInt] at g7); (try unfold aPaste); (try simp only [lg_cmp_lt, lg_cmp_ge, lg_cmp_gt, lg_cmp_le, lg_cmp_eq, Int64.lt_iff_toInt_lt, Int64.le_iff_toInt_le, Int32.lt_iff_toInt_lt, Int32.le_iff_toInt_le, eqT32, eqT64, Int32.toInt_toInt64, Int64.reduceToInt, Int32.reduceToInt]); (repeat' split) <;> first | rfl | (exfalso; omega) | omega | simp_all), ht⟩) (fun _ h => by cases h) dX5_paste_49
      · skip
        refine lv_aload_n hx hb dX5_paste_25 rfl (lv_at hl 0 rfl) ?_
        refine va_get (D := D) (ci := 5) (v := .ref (x 1)) (C := RX5) (T := TX5) (N := 8) hx hb hts hi5 hown hK hP 0 rfl rfl 1 (by decide) (hts (.fieldLink RX5 19 "AlibiRota" "slots" "LAlibiRota$Slots;") (by decide +kernel)) (fun _ h9 => h9) rfl dX5_paste_26 ?_
        refine lv_iload_n hx hb dX5_paste_29 rfl (lv_at hl 1 rfl) ?_
        have hPc := hP.sub (ws' := [(x 1, .inr (3, [.ref (q 0), .ref (q 1), .ref (q 2), .ref (q 3)])), (q 0, .inl (cZ, 4, .inl (fun _ => 0)))]) [1, 2] rfl
        refine vp_callSi (va_Run.run (va_runVN (As := [.int 1]) (rest := []) ⟨hx, hb, hml, hown, hts⟩ (k_hasRow1 l D cI cZ cB cJ cR (x 1) q) ⟨va_cnB 1 hts ggX5_paste_X3_hasRow rfl rfl rfl (hz _ zw_RX5_328) (hts (.initialized RX3) (by decide +kernel)) (by decide +kernel) ⟨Nat.le_of_ble_eq_true rfl, Nat.le_of_ble_eq_true rfl⟩, hts (.instanceMethod yX3_hasRow) (by decide +kernel), hts (.selects RX3 yX3_hasRow yX3_hasRow) (by decide +kernel)⟩ ⟨fbS, va_recv hK hPc (ci := 3) (q0 := 0) rfl rfl, pS_at hPc hk⟩ rfl rfl hl.1 rfl (lv_room (Nat.le_of_ble_eq_true rfl)) dX5_paste_30 ⟨show 0 ≤ 0 by decide, show 0 ≤ 0 by decide⟩)) (fun r10 hr10 => ?_)
        obtain rfl : r10 = 0 := hr10
        refine lv_if_eq (tgt := 47) hx hb dX5_paste_33 (by decide) (fun _ => ?_) (fun c9 => absurd (by decide) c9)
        refine lv_bipush (v := (-6)) hx hb dX5_paste_47 (by decide) ?_
        exact W.iret (v := (-6)) hx hb hr (fun t ht _ => ⟨(-6), rfl, (by (try simp only [lg_cmp_lt, lg_cmp_ge, lg_cmp_gt, lg_cmp_le, lg_cmp_eq, Int64.lt_iff_toInt_lt, Int64.le_iff_toInt_le, Int32.lt_iff_toInt_lt, Int32.le_iff_toInt_le, eqT32, eqT64, Int32.toInt_toInt64, Int64.reduceToInt, Int32.reduceToInt] at g6); (try simp only [lg_cmp_lt, lg_cmp_ge, lg_cmp_gt, lg_cmp_le, lg_cmp_eq, Int64.lt_iff_toInt_lt, Int64.le_iff_toInt_le, Int32.lt_iff_toInt_lt, Int32.le_iff_toInt_le, eqT32, eqT64, Int32.toInt_toInt64, Int64.reduceToInt, Int32.reduceToInt] at g7); (try unfold aPaste); (try simp only [lg_cmp_lt, lg_cmp_ge, lg_cmp_gt, lg_cmp_le, lg_cmp_eq, Int64.lt_iff_toInt_lt, Int64.le_iff_toInt_le, Int32.lt_iff_toInt_lt, Int32.le_iff_toInt_le, eqT32, eqT64, Int32.toInt_toInt64, Int64.reduceToInt, Int32.reduceToInt]); (repeat' split) <;> first | rfl | (exfalso; omega) | omega | simp_all), ht⟩) (fun _ h => by cases h) dX5_paste_49
      · skip
        refine lv_aload_n hx hb dX5_paste_25 rfl (lv_at hl 0 rfl) ?_
        refine va_get (D := D) (ci := 5) (v := .ref (x 1)) (C := RX5) (T := TX5) (N := 8) hx hb hts hi5 hown hK hP 0 rfl rfl 1 (by decide) (hts (.fieldLink RX5 19 "AlibiRota" "slots" "LAlibiRota$Slots;") (by decide +kernel)) (fun _ h9 => h9) rfl dX5_paste_26 ?_
        refine lv_iload_n hx hb dX5_paste_29 rfl (lv_at hl 1 rfl) ?_
        have hPc := hP.sub (ws' := [(x 1, .inr (3, [.ref (q 0), .ref (q 1), .ref (q 2), .ref (q 3)])), (q 0, .inl (cZ, 4, .inl (fun _ => 0)))]) [1, 2] rfl
        refine vp_callSi (va_Run.run (va_runVN (As := [.int 2]) (rest := []) ⟨hx, hb, hml, hown, hts⟩ (k_hasRow2 l D cI cZ cB cJ cR (x 1) q) ⟨va_cnB 1 hts ggX5_paste_X3_hasRow rfl rfl rfl (hz _ zw_RX5_328) (hts (.initialized RX3) (by decide +kernel)) (by decide +kernel) ⟨Nat.le_of_ble_eq_true rfl, Nat.le_of_ble_eq_true rfl⟩, hts (.instanceMethod yX3_hasRow) (by decide +kernel), hts (.selects RX3 yX3_hasRow yX3_hasRow) (by decide +kernel)⟩ ⟨fbS, va_recv hK hPc (ci := 3) (q0 := 0) rfl rfl, pS_at hPc hk⟩ rfl rfl hl.1 rfl (lv_room (Nat.le_of_ble_eq_true rfl)) dX5_paste_30 ⟨show 0 ≤ 0 by decide, show 0 ≤ 0 by decide⟩)) (fun r11 hr11 => ?_)
        obtain rfl : r11 = 0 := hr11
        refine lv_if_eq (tgt := 47) hx hb dX5_paste_33 (by decide) (fun _ => ?_) (fun c9 => absurd (by decide) c9)
        refine lv_bipush (v := (-6)) hx hb dX5_paste_47 (by decide) ?_
        exact W.iret (v := (-6)) hx hb hr (fun t ht _ => ⟨(-6), rfl, (by (try simp only [lg_cmp_lt, lg_cmp_ge, lg_cmp_gt, lg_cmp_le, lg_cmp_eq, Int64.lt_iff_toInt_lt, Int64.le_iff_toInt_le, Int32.lt_iff_toInt_lt, Int32.le_iff_toInt_le, eqT32, eqT64, Int32.toInt_toInt64, Int64.reduceToInt, Int32.reduceToInt] at g6); (try simp only [lg_cmp_lt, lg_cmp_ge, lg_cmp_gt, lg_cmp_le, lg_cmp_eq, Int64.lt_iff_toInt_lt, Int64.le_iff_toInt_le, Int32.lt_iff_toInt_lt, Int32.le_iff_toInt_le, eqT32, eqT64, Int32.toInt_toInt64, Int64.reduceToInt, Int32.reduceToInt] at g7); (try unfold aPaste); (try simp only [lg_cmp_lt, lg_cmp_ge, lg_cmp_gt, lg_cmp_le, lg_cmp_eq, Int64.lt_iff_toInt_lt, Int64.le_iff_toInt_le, Int32.lt_iff_toInt_lt, Int32.le_iff_toInt_le, eqT32, eqT64, Int32.toInt_toInt64, Int64.reduceToInt, Int32.reduceToInt]); (repeat' split) <;> first | rfl | (exfalso; omega) | omega | simp_all), ht⟩) (fun _ h => by cases h) dX5_paste_49
      · skip
        refine lv_aload_n hx hb dX5_paste_25 rfl (lv_at hl 0 rfl) ?_
        refine va_get (D := D) (ci := 5) (v := .ref (x 1)) (C := RX5) (T := TX5) (N := 8) hx hb hts hi5 hown hK hP 0 rfl rfl 1 (by decide) (hts (.fieldLink RX5 19 "AlibiRota" "slots" "LAlibiRota$Slots;") (by decide +kernel)) (fun _ h9 => h9) rfl dX5_paste_26 ?_
        refine lv_iload_n hx hb dX5_paste_29 rfl (lv_at hl 1 rfl) ?_
        have hPc := hP.sub (ws' := [(x 1, .inr (3, [.ref (q 0), .ref (q 1), .ref (q 2), .ref (q 3)])), (q 0, .inl (cZ, 4, .inl (fun _ => 0)))]) [1, 2] rfl
        refine vp_callSi (va_Run.run (va_runVN (As := [.int 3]) (rest := []) ⟨hx, hb, hml, hown, hts⟩ (k_hasRow3 l D cI cZ cB cJ cR (x 1) q) ⟨va_cnB 1 hts ggX5_paste_X3_hasRow rfl rfl rfl (hz _ zw_RX5_328) (hts (.initialized RX3) (by decide +kernel)) (by decide +kernel) ⟨Nat.le_of_ble_eq_true rfl, Nat.le_of_ble_eq_true rfl⟩, hts (.instanceMethod yX3_hasRow) (by decide +kernel), hts (.selects RX3 yX3_hasRow yX3_hasRow) (by decide +kernel)⟩ ⟨fbS, va_recv hK hPc (ci := 3) (q0 := 0) rfl rfl, pS_at hPc hk⟩ rfl rfl hl.1 rfl (lv_room (Nat.le_of_ble_eq_true rfl)) dX5_paste_30 ⟨show 0 ≤ 0 by decide, show 0 ≤ 0 by decide⟩)) (fun r12 hr12 => ?_)
        obtain rfl : r12 = 0 := hr12
        refine lv_if_eq (tgt := 47) hx hb dX5_paste_33 (by decide) (fun _ => ?_) (fun c9 => absurd (by decide) c9)
        refine lv_bipush (v := (-6)) hx hb dX5_paste_47 (by decide) ?_
        exact W.iret (v := (-6)) hx hb hr (fun t ht _ => ⟨(-6), rfl, (by (try simp only [lg_cmp_lt, lg_cmp_ge, lg_cmp_gt, lg_cmp_le, lg_cmp_eq, Int64.lt_iff_toInt_lt, Int64.le_iff_toInt_le, Int32.lt_iff_toInt_lt, Int32.le_iff_toInt_le, eqT32, eqT64, Int32.toInt_toInt64, Int64.reduceToInt, Int32.reduceToInt] at g6); (try simp only [lg_cmp_lt, lg_cmp_ge, lg_cmp_gt, lg_cmp_le, lg_cmp_eq, Int64.lt_iff_toInt_lt, Int64.le_iff_toInt_le, Int32.lt_iff_toInt_lt, Int32.le_iff_toInt_le, eqT32, eqT64, Int32.toInt_toInt64, Int64.reduceToInt, Int32.reduceToInt] at g7); (try unfold aPaste); (try simp only [lg_cmp_lt, lg_cmp_ge, lg_cmp_gt, lg_cmp_le, lg_cmp_eq, Int64.lt_iff_toInt_lt, Int64.le_iff_toInt_le, Int32.lt_iff_toInt_lt, Int32.le_iff_toInt_le, eqT32, eqT64, Int32.toInt_toInt64, Int64.reduceToInt, Int32.reduceToInt]); (repeat' split) <;> first | rfl | (exfalso; omega) | omega | simp_all), ht⟩) (fun _ h => by cases h) dX5_paste_49
    · skip
      refine lv_if_ne (tgt := 25) hx hb dX5_paste_19 (by decide) (fun c9 => absurd (by decide) c9) (fun _ => ?_)
      refine lv_bipush (v := (-2)) hx hb dX5_paste_22 (by decide) ?_
      exact W.iret (v := (-2)) hx hb hr (fun t ht _ => ⟨(-2), rfl, (by (try simp only [lg_cmp_lt, lg_cmp_ge, lg_cmp_gt, lg_cmp_le, lg_cmp_eq, Int64.lt_iff_toInt_lt, Int64.le_iff_toInt_le, Int32.lt_iff_toInt_lt, Int32.le_iff_toInt_le, eqT32, eqT64, Int32.toInt_toInt64, Int64.reduceToInt, Int32.reduceToInt] at g2); (try simp only [lg_cmp_lt, lg_cmp_ge, lg_cmp_gt, lg_cmp_le, lg_cmp_eq, Int64.lt_iff_toInt_lt, Int64.le_iff_toInt_le, Int32.lt_iff_toInt_lt, Int32.le_iff_toInt_le, eqT32, eqT64, Int32.toInt_toInt64, Int64.reduceToInt, Int32.reduceToInt] at g3); (try simp only [lg_cmp_lt, lg_cmp_ge, lg_cmp_gt, lg_cmp_le, lg_cmp_eq, Int64.lt_iff_toInt_lt, Int64.le_iff_toInt_le, Int32.lt_iff_toInt_lt, Int32.le_iff_toInt_le, eqT32, eqT64, Int32.toInt_toInt64, Int64.reduceToInt, Int32.reduceToInt] at g8); (try unfold aPaste); (try simp only [lg_cmp_lt, lg_cmp_ge, lg_cmp_gt, lg_cmp_le, lg_cmp_eq, Int64.lt_iff_toInt_lt, Int64.le_iff_toInt_le, Int32.lt_iff_toInt_lt, Int32.le_iff_toInt_le, eqT32, eqT64, Int32.toInt_toInt64, Int64.reduceToInt, Int32.reduceToInt]); (repeat' split) <;> first | rfl | (exfalso; omega) | omega | simp_all), ht⟩) (fun _ h => by cases h) dX5_paste_24
  · skip
    refine lv_if_eq (tgt := 22) hx hb dX5_paste_8 (by decide) (fun _ => ?_) (fun c9 => absurd (by decide) c9)
    refine lv_bipush (v := (-2)) hx hb dX5_paste_22 (by decide) ?_
    exact W.iret (v := (-2)) hx hb hr (fun t ht _ => ⟨(-2), rfl, (by (try simp only [lg_cmp_lt, lg_cmp_ge, lg_cmp_gt, lg_cmp_le, lg_cmp_eq, Int64.lt_iff_toInt_lt, Int64.le_iff_toInt_le, Int32.lt_iff_toInt_lt, Int32.le_iff_toInt_le, eqT32, eqT64, Int32.toInt_toInt64, Int64.reduceToInt, Int32.reduceToInt] at g4); (try unfold aPaste); (try simp only [lg_cmp_lt, lg_cmp_ge, lg_cmp_gt, lg_cmp_le, lg_cmp_eq, Int64.lt_iff_toInt_lt, Int64.le_iff_toInt_le, Int32.lt_iff_toInt_lt, Int32.le_iff_toInt_le, eqT32, eqT64, Int32.toInt_toInt64, Int64.reduceToInt, Int32.reduceToInt]); (repeat' split) <;> first | rfl | (exfalso; omega) | omega | simp_all), ht⟩) (fun _ h => by cases h) dX5_paste_24

set_option maxHeartbeats 4000000 in
set_option maxRecDepth 100000 in
theorem kx_count (l : Launch) (D : va_G) (cI cZ cB cJ cR : ClassId) (h : Nat) (x : Nat → Nat) (n q : Nat → Nat) (b : Nat) (p0 : Int32) : Met l yX5_count wsX5_count ({ frames := 1, cells := 0, slots := 0, locals := 22 }) (va_Pc [.ref h, .int p0] (pS D cI cZ cB cJ cR [(h, .inr (5, [.ref (x 0), .ref (x 1), .ref (x 2), .ref (x 3), .ref (x 4), .ref (x 5), .ref (x 6), .ref (x 7)])), (x 6, .inr (0, [.ref (n 0), .int 0, .int 0, .int 0, .ref (n 4), .ref (n 5), .ref (n 6), .ref (n 7), .ref (n 8), .int 0, .ref (n 10), .ref (n 11), .ref (n 12), .ref (n 13)])), (n 0, .inl (cI, 7, .inl (fun _ => 0))), (x 0, .inr (4, [.ref b, .int 0, .int 0, .int (-1), .int 0, .int 0, .int 0, .int 0])), (x 1, .inr (3, [.ref (q 0), .ref (q 1), .ref (q 2), .ref (q 3)])), (q 0, .inl (cZ, 4, .inl (fun _ => 0)))])) (vp_Si (fun r => r = aCount p0)) 0 0 (fun _ => False) := by
  refine Met.ofW (cc := cX5_count) (maxL := 2) (ret := (some .int)) (by decide) rfl ?_
  intro p e s m args below meth c s₁ B hml hv
  obtain ⟨rfl, hP, hk⟩ := hv
  have hK := hk.1
  have hz := hk.2.1
  have hx := B.exec
  have hb := B.bytes
  have hr := B.returns
  have hts := atoms_spec (ws := wsX5_count) B.pre
  have hown : s.vm.findClass RX5 = some m.cls := findClass_of_methodNamed B.named
  have hlocks := B.notSynchronized
  have hi0 : ∀ w ∈ wsX00, w ∈ wsX5_count := by decide +kernel
  have hi4 : ∀ w ∈ wsX40, w ∈ wsX5_count := by decide +kernel
  have hi5 : ∀ w ∈ wsX50, w ∈ wsX5_count := by decide +kernel
  have hl := lv_entry ([.ref h, .int p0]) (n := 2) (Nat.le_of_ble_eq_true rfl)
  rw [lg_entry_eq]
  generalize (lg_sl ([.ref h, .int p0]) ++ List.replicate (2 - (lg_sl ([.ref h, .int p0])).length) Slot.unset).toArray = ls at hl ⊢
  have hl : lv_has ls 2 [(0, .ref h), (1, .int p0)] := hl
  rcases out12 p0 with g1 | g2 | g3
  · skip
    refine lv_iload_n hx hb dX5_count_0 rfl (lv_at hl 1 rfl) ?_
    refine lv_if_lt (tgt := 20) hx hb dX5_count_1 (by decide) (fun _ => ?_) (fun c9 => absurd (by simp only [lg_cmp_lt, lg_cmp_ge, lg_cmp_gt, lg_cmp_le, lg_cmp_eq, Int64.lt_iff_toInt_lt, Int64.le_iff_toInt_le, Int32.lt_iff_toInt_lt, Int32.le_iff_toInt_le, eqT32, eqT64, Int32.toInt_toInt64, Int64.reduceToInt, Int32.reduceToInt] at g1 ⊢; omega) c9)
    refine lv_iload_n hx hb dX5_count_20 rfl (lv_at hl 1 rfl) ?_
    refine lv_tableOut (tgt := 96) hx hb dX5_count_21 (by simp only [lg_cmp_lt, lg_cmp_ge, lg_cmp_gt, lg_cmp_le, lg_cmp_eq, Int64.lt_iff_toInt_lt, Int64.le_iff_toInt_le, Int32.lt_iff_toInt_lt, Int32.le_iff_toInt_le, eqT32, eqT64, Int32.toInt_toInt64, Int64.reduceToInt, Int32.reduceToInt] at g1; omega) (by decide) ?_
    refine lv_iconst (v := (-1)) hx hb dX5_count_96 (by decide) ?_
    exact W.iret (v := (-1)) hx hb hr (fun t ht _ => ⟨(-1), rfl, (by (try simp only [lg_cmp_lt, lg_cmp_ge, lg_cmp_gt, lg_cmp_le, lg_cmp_eq, Int64.lt_iff_toInt_lt, Int64.le_iff_toInt_le, Int32.lt_iff_toInt_lt, Int32.le_iff_toInt_le, eqT32, eqT64, Int32.toInt_toInt64, Int64.reduceToInt, Int32.reduceToInt] at g1); (try unfold aCount); (try simp only [lg_cmp_lt, lg_cmp_ge, lg_cmp_gt, lg_cmp_le, lg_cmp_eq, Int64.lt_iff_toInt_lt, Int64.le_iff_toInt_le, Int32.lt_iff_toInt_lt, Int32.le_iff_toInt_le, eqT32, eqT64, Int32.toInt_toInt64, Int64.reduceToInt, Int32.reduceToInt]); (repeat' split) <;> first | rfl | (exfalso; omega) | omega | simp_all), ht⟩) (fun _ h => by cases h) dX5_count_97
  · skip
    refine lv_iload_n hx hb dX5_count_0 rfl (lv_at hl 1 rfl) ?_
    refine lv_if_lt (tgt := 20) hx hb dX5_count_1 (by decide) (fun c9 => absurd c9 (by simp only [lg_cmp_lt, lg_cmp_ge, lg_cmp_gt, lg_cmp_le, lg_cmp_eq, Int64.lt_iff_toInt_lt, Int64.le_iff_toInt_le, Int32.lt_iff_toInt_lt, Int32.le_iff_toInt_le, eqT32, eqT64, Int32.toInt_toInt64, Int64.reduceToInt, Int32.reduceToInt] at g2 ⊢; omega)) (fun _ => ?_)
    refine lv_iload_n hx hb dX5_count_4 rfl (lv_at hl 1 rfl) ?_
    refine lv_bipush (v := 7) hx hb dX5_count_5 (by decide) ?_
    refine lv_icmp_ge (tgt := 20) hx hb dX5_count_7 (by decide) (fun _ => ?_) (fun c9 => absurd (by simp only [lg_cmp_lt, lg_cmp_ge, lg_cmp_gt, lg_cmp_le, lg_cmp_eq, Int64.lt_iff_toInt_lt, Int64.le_iff_toInt_le, Int32.lt_iff_toInt_lt, Int32.le_iff_toInt_le, eqT32, eqT64, Int32.toInt_toInt64, Int64.reduceToInt, Int32.reduceToInt] at g2 ⊢; omega) c9)
    refine lv_iload_n hx hb dX5_count_20 rfl (lv_at hl 1 rfl) ?_
    refine lv_tableOut (tgt := 96) hx hb dX5_count_21 (by simp only [lg_cmp_lt, lg_cmp_ge, lg_cmp_gt, lg_cmp_le, lg_cmp_eq, Int64.lt_iff_toInt_lt, Int64.le_iff_toInt_le, Int32.lt_iff_toInt_lt, Int32.le_iff_toInt_le, eqT32, eqT64, Int32.toInt_toInt64, Int64.reduceToInt, Int32.reduceToInt] at g2; omega) (by decide) ?_
    refine lv_iconst (v := (-1)) hx hb dX5_count_96 (by decide) ?_
    exact W.iret (v := (-1)) hx hb hr (fun t ht _ => ⟨(-1), rfl, (by (try simp only [lg_cmp_lt, lg_cmp_ge, lg_cmp_gt, lg_cmp_le, lg_cmp_eq, Int64.lt_iff_toInt_lt, Int64.le_iff_toInt_le, Int32.lt_iff_toInt_lt, Int32.le_iff_toInt_le, eqT32, eqT64, Int32.toInt_toInt64, Int64.reduceToInt, Int32.reduceToInt] at g2); (try unfold aCount); (try simp only [lg_cmp_lt, lg_cmp_ge, lg_cmp_gt, lg_cmp_le, lg_cmp_eq, Int64.lt_iff_toInt_lt, Int64.le_iff_toInt_le, Int32.lt_iff_toInt_lt, Int32.le_iff_toInt_le, eqT32, eqT64, Int32.toInt_toInt64, Int64.reduceToInt, Int32.reduceToInt]); (repeat' split) <;> first | rfl | (exfalso; omega) | omega | simp_all), ht⟩) (fun _ h => by cases h) dX5_count_97
  · skip
    rcases sp12 p0 g3 with rfl | rfl | rfl | rfl | rfl | rfl | rfl | rfl | rfl | rfl | rfl | rfl
    · skip
      refine lv_iload_n hx hb dX5_count_0 rfl (lv_at hl 1 rfl) ?_
      refine lv_if_lt (tgt := 20) hx hb dX5_count_1 (by decide) (fun c9 => absurd c9 (by decide)) (fun _ => ?_)
      refine lv_iload_n hx hb dX5_count_4 rfl (lv_at hl 1 rfl) ?_
      refine lv_bipush (v := 7) hx hb dX5_count_5 (by decide) ?_
      refine lv_icmp_ge (tgt := 20) hx hb dX5_count_7 (by decide) (fun c9 => absurd c9 (by decide)) (fun _ => ?_)
      refine lv_aload_n hx hb dX5_count_10 rfl (lv_at hl 0 rfl) ?_
      refine va_get (D := D) (ci := 5) (v := .ref (x 6)) (C := RX5) (T := TX5) (N := 8) hx hb hts hi5 hown hK hP 0 rfl rfl 6 (by decide) (hts (.fieldLink RX5 48 "AlibiRota" "now" "LAlibiRota$City;") (by decide +kernel)) (fun _ h9 => h9) rfl dX5_count_11 ?_
      refine va_getN (D := D) (ci := 0) (v := .ref (n 0)) (C := RX0) (T := TX0) (N := 14) hx hb hts hi0 hown hK hP 1 rfl rfl 0 (by decide) (va_Nw.use rfl (hz _ zw_RX5_311)) (fun _ h9 => h9) rfl dX5_count_14 ?_
      refine lv_iload_n hx hb dX5_count_17 rfl (lv_at hl 1 rfl) ?_
      refine va_iald hx hb hK hP 2 0 rfl rfl (inC 0 7 (by decide)) dX5_count_18 ?_
      refine lv_topi (fun v4 ev4 => ?_)
      obtain rfl : v4 = 0 := ev4
      exact W.iret (v := 0) hx hb hr (fun t ht _ => ⟨0, rfl, (by (try unfold aCount); (try simp only [lg_cmp_lt, lg_cmp_ge, lg_cmp_gt, lg_cmp_le, lg_cmp_eq, Int64.lt_iff_toInt_lt, Int64.le_iff_toInt_le, Int32.lt_iff_toInt_lt, Int32.le_iff_toInt_le, eqT32, eqT64, Int32.toInt_toInt64, Int64.reduceToInt, Int32.reduceToInt]); (repeat' split) <;> first | rfl | (exfalso; omega) | omega | simp_all), ht⟩) (fun _ h => by cases h) dX5_count_19
    · skip
      refine lv_iload_n hx hb dX5_count_0 rfl (lv_at hl 1 rfl) ?_
      refine lv_if_lt (tgt := 20) hx hb dX5_count_1 (by decide) (fun c9 => absurd c9 (by decide)) (fun _ => ?_)
      refine lv_iload_n hx hb dX5_count_4 rfl (lv_at hl 1 rfl) ?_
      refine lv_bipush (v := 7) hx hb dX5_count_5 (by decide) ?_
      refine lv_icmp_ge (tgt := 20) hx hb dX5_count_7 (by decide) (fun c9 => absurd c9 (by decide)) (fun _ => ?_)
      refine lv_aload_n hx hb dX5_count_10 rfl (lv_at hl 0 rfl) ?_
      refine va_get (D := D) (ci := 5) (v := .ref (x 6)) (C := RX5) (T := TX5) (N := 8) hx hb hts hi5 hown hK hP 0 rfl rfl 6 (by decide) (hts (.fieldLink RX5 48 "AlibiRota" "now" "LAlibiRota$City;") (by decide +kernel)) (fun _ h9 => h9) rfl dX5_count_11 ?_
      refine va_getN (D := D) (ci := 0) (v := .ref (n 0)) (C := RX0) (T := TX0) (N := 14) hx hb hts hi0 hown hK hP 1 rfl rfl 0 (by decide) (va_Nw.use rfl (hz _ zw_RX5_311)) (fun _ h9 => h9) rfl dX5_count_14 ?_
      refine lv_iload_n hx hb dX5_count_17 rfl (lv_at hl 1 rfl) ?_
      refine va_iald hx hb hK hP 2 0 rfl rfl (inC 1 7 (by decide)) dX5_count_18 ?_
      refine lv_topi (fun v5 ev5 => ?_)
      obtain rfl : v5 = 0 := ev5
      exact W.iret (v := 0) hx hb hr (fun t ht _ => ⟨0, rfl, (by (try unfold aCount); (try simp only [lg_cmp_lt, lg_cmp_ge, lg_cmp_gt, lg_cmp_le, lg_cmp_eq, Int64.lt_iff_toInt_lt, Int64.le_iff_toInt_le, Int32.lt_iff_toInt_lt, Int32.le_iff_toInt_le, eqT32, eqT64, Int32.toInt_toInt64, Int64.reduceToInt, Int32.reduceToInt]); (repeat' split) <;> first | rfl | (exfalso; omega) | omega | simp_all), ht⟩) (fun _ h => by cases h) dX5_count_19
    · skip
      refine lv_iload_n hx hb dX5_count_0 rfl (lv_at hl 1 rfl) ?_
      refine lv_if_lt (tgt := 20) hx hb dX5_count_1 (by decide) (fun c9 => absurd c9 (by decide)) (fun _ => ?_)
      refine lv_iload_n hx hb dX5_count_4 rfl (lv_at hl 1 rfl) ?_
      refine lv_bipush (v := 7) hx hb dX5_count_5 (by decide) ?_
      refine lv_icmp_ge (tgt := 20) hx hb dX5_count_7 (by decide) (fun c9 => absurd c9 (by decide)) (fun _ => ?_)
      refine lv_aload_n hx hb dX5_count_10 rfl (lv_at hl 0 rfl) ?_
      refine va_get (D := D) (ci := 5) (v := .ref (x 6)) (C := RX5) (T := TX5) (N := 8) hx hb hts hi5 hown hK hP 0 rfl rfl 6 (by decide) (hts (.fieldLink RX5 48 "AlibiRota" "now" "LAlibiRota$City;") (by decide +kernel)) (fun _ h9 => h9) rfl dX5_count_11 ?_
      refine va_getN (D := D) (ci := 0) (v := .ref (n 0)) (C := RX0) (T := TX0) (N := 14) hx hb hts hi0 hown hK hP 1 rfl rfl 0 (by decide) (va_Nw.use rfl (hz _ zw_RX5_311)) (fun _ h9 => h9) rfl dX5_count_14 ?_
      refine lv_iload_n hx hb dX5_count_17 rfl (lv_at hl 1 rfl) ?_
      refine va_iald hx hb hK hP 2 0 rfl rfl (inC 2 7 (by decide)) dX5_count_18 ?_
      refine lv_topi (fun v6 ev6 => ?_)
      obtain rfl : v6 = 0 := ev6
      exact W.iret (v := 0) hx hb hr (fun t ht _ => ⟨0, rfl, (by (try unfold aCount); (try simp only [lg_cmp_lt, lg_cmp_ge, lg_cmp_gt, lg_cmp_le, lg_cmp_eq, Int64.lt_iff_toInt_lt, Int64.le_iff_toInt_le, Int32.lt_iff_toInt_lt, Int32.le_iff_toInt_le, eqT32, eqT64, Int32.toInt_toInt64, Int64.reduceToInt, Int32.reduceToInt]); (repeat' split) <;> first | rfl | (exfalso; omega) | omega | simp_all), ht⟩) (fun _ h => by cases h) dX5_count_19
    · skip
      refine lv_iload_n hx hb dX5_count_0 rfl (lv_at hl 1 rfl) ?_
      refine lv_if_lt (tgt := 20) hx hb dX5_count_1 (by decide) (fun c9 => absurd c9 (by decide)) (fun _ => ?_)
      refine lv_iload_n hx hb dX5_count_4 rfl (lv_at hl 1 rfl) ?_
      refine lv_bipush (v := 7) hx hb dX5_count_5 (by decide) ?_
      refine lv_icmp_ge (tgt := 20) hx hb dX5_count_7 (by decide) (fun c9 => absurd c9 (by decide)) (fun _ => ?_)
      refine lv_aload_n hx hb dX5_count_10 rfl (lv_at hl 0 rfl) ?_
      refine va_get (D := D) (ci := 5) (v := .ref (x 6)) (C := RX5) (T := TX5) (N := 8) hx hb hts hi5 hown hK hP 0 rfl rfl 6 (by decide) (hts (.fieldLink RX5 48 "AlibiRota" "now" "LAlibiRota$City;") (by decide +kernel)) (fun _ h9 => h9) rfl dX5_count_11 ?_
      refine va_getN (D := D) (ci := 0) (v := .ref (n 0)) (C := RX0) (T := TX0) (N := 14) hx hb hts hi0 hown hK hP 1 rfl rfl 0 (by decide) (va_Nw.use rfl (hz _ zw_RX5_311)) (fun _ h9 => h9) rfl dX5_count_14 ?_
      refine lv_iload_n hx hb dX5_count_17 rfl (lv_at hl 1 rfl) ?_
      refine va_iald hx hb hK hP 2 0 rfl rfl (inC 3 7 (by decide)) dX5_count_18 ?_
      refine lv_topi (fun v7 ev7 => ?_)
      obtain rfl : v7 = 0 := ev7
      exact W.iret (v := 0) hx hb hr (fun t ht _ => ⟨0, rfl, (by (try unfold aCount); (try simp only [lg_cmp_lt, lg_cmp_ge, lg_cmp_gt, lg_cmp_le, lg_cmp_eq, Int64.lt_iff_toInt_lt, Int64.le_iff_toInt_le, Int32.lt_iff_toInt_lt, Int32.le_iff_toInt_le, eqT32, eqT64, Int32.toInt_toInt64, Int64.reduceToInt, Int32.reduceToInt]); (repeat' split) <;> first | rfl | (exfalso; omega) | omega | simp_all), ht⟩) (fun _ h => by cases h) dX5_count_19
    · skip
      refine lv_iload_n hx hb dX5_count_0 rfl (lv_at hl 1 rfl) ?_
      refine lv_if_lt (tgt := 20) hx hb dX5_count_1 (by decide) (fun c9 => absurd c9 (by decide)) (fun _ => ?_)
      refine lv_iload_n hx hb dX5_count_4 rfl (lv_at hl 1 rfl) ?_
      refine lv_bipush (v := 7) hx hb dX5_count_5 (by decide) ?_
      refine lv_icmp_ge (tgt := 20) hx hb dX5_count_7 (by decide) (fun c9 => absurd c9 (by decide)) (fun _ => ?_)
      refine lv_aload_n hx hb dX5_count_10 rfl (lv_at hl 0 rfl) ?_
      refine va_get (D := D) (ci := 5) (v := .ref (x 6)) (C := RX5) (T := TX5) (N := 8) hx hb hts hi5 hown hK hP 0 rfl rfl 6 (by decide) (hts (.fieldLink RX5 48 "AlibiRota" "now" "LAlibiRota$City;") (by decide +kernel)) (fun _ h9 => h9) rfl dX5_count_11 ?_
      refine va_getN (D := D) (ci := 0) (v := .ref (n 0)) (C := RX0) (T := TX0) (N := 14) hx hb hts hi0 hown hK hP 1 rfl rfl 0 (by decide) (va_Nw.use rfl (hz _ zw_RX5_311)) (fun _ h9 => h9) rfl dX5_count_14 ?_
      refine lv_iload_n hx hb dX5_count_17 rfl (lv_at hl 1 rfl) ?_
      refine va_iald hx hb hK hP 2 0 rfl rfl (inC 4 7 (by decide)) dX5_count_18 ?_
      refine lv_topi (fun v8 ev8 => ?_)
      obtain rfl : v8 = 0 := ev8
      exact W.iret (v := 0) hx hb hr (fun t ht _ => ⟨0, rfl, (by (try unfold aCount); (try simp only [lg_cmp_lt, lg_cmp_ge, lg_cmp_gt, lg_cmp_le, lg_cmp_eq, Int64.lt_iff_toInt_lt, Int64.le_iff_toInt_le, Int32.lt_iff_toInt_lt, Int32.le_iff_toInt_le, eqT32, eqT64, Int32.toInt_toInt64, Int64.reduceToInt, Int32.reduceToInt]); (repeat' split) <;> first | rfl | (exfalso; omega) | omega | simp_all), ht⟩) (fun _ h => by cases h) dX5_count_19
    · skip
      refine lv_iload_n hx hb dX5_count_0 rfl (lv_at hl 1 rfl) ?_
      refine lv_if_lt (tgt := 20) hx hb dX5_count_1 (by decide) (fun c9 => absurd c9 (by decide)) (fun _ => ?_)
      refine lv_iload_n hx hb dX5_count_4 rfl (lv_at hl 1 rfl) ?_
      refine lv_bipush (v := 7) hx hb dX5_count_5 (by decide) ?_
      refine lv_icmp_ge (tgt := 20) hx hb dX5_count_7 (by decide) (fun c9 => absurd c9 (by decide)) (fun _ => ?_)
      refine lv_aload_n hx hb dX5_count_10 rfl (lv_at hl 0 rfl) ?_
      refine va_get (D := D) (ci := 5) (v := .ref (x 6)) (C := RX5) (T := TX5) (N := 8) hx hb hts hi5 hown hK hP 0 rfl rfl 6 (by decide) (hts (.fieldLink RX5 48 "AlibiRota" "now" "LAlibiRota$City;") (by decide +kernel)) (fun _ h9 => h9) rfl dX5_count_11 ?_
      refine va_getN (D := D) (ci := 0) (v := .ref (n 0)) (C := RX0) (T := TX0) (N := 14) hx hb hts hi0 hown hK hP 1 rfl rfl 0 (by decide) (va_Nw.use rfl (hz _ zw_RX5_311)) (fun _ h9 => h9) rfl dX5_count_14 ?_
      refine lv_iload_n hx hb dX5_count_17 rfl (lv_at hl 1 rfl) ?_
      refine va_iald hx hb hK hP 2 0 rfl rfl (inC 5 7 (by decide)) dX5_count_18 ?_
      refine lv_topi (fun v9 ev9 => ?_)
      obtain rfl : v9 = 0 := ev9
      exact W.iret (v := 0) hx hb hr (fun t ht _ => ⟨0, rfl, (by (try unfold aCount); (try simp only [lg_cmp_lt, lg_cmp_ge, lg_cmp_gt, lg_cmp_le, lg_cmp_eq, Int64.lt_iff_toInt_lt, Int64.le_iff_toInt_le, Int32.lt_iff_toInt_lt, Int32.le_iff_toInt_le, eqT32, eqT64, Int32.toInt_toInt64, Int64.reduceToInt, Int32.reduceToInt]); (repeat' split) <;> first | rfl | (exfalso; omega) | omega | simp_all), ht⟩) (fun _ h => by cases h) dX5_count_19
    · skip
      refine lv_iload_n hx hb dX5_count_0 rfl (lv_at hl 1 rfl) ?_
      refine lv_if_lt (tgt := 20) hx hb dX5_count_1 (by decide) (fun c9 => absurd c9 (by decide)) (fun _ => ?_)
      refine lv_iload_n hx hb dX5_count_4 rfl (lv_at hl 1 rfl) ?_
      refine lv_bipush (v := 7) hx hb dX5_count_5 (by decide) ?_
      refine lv_icmp_ge (tgt := 20) hx hb dX5_count_7 (by decide) (fun c9 => absurd c9 (by decide)) (fun _ => ?_)
      refine lv_aload_n hx hb dX5_count_10 rfl (lv_at hl 0 rfl) ?_
      refine va_get (D := D) (ci := 5) (v := .ref (x 6)) (C := RX5) (T := TX5) (N := 8) hx hb hts hi5 hown hK hP 0 rfl rfl 6 (by decide) (hts (.fieldLink RX5 48 "AlibiRota" "now" "LAlibiRota$City;") (by decide +kernel)) (fun _ h9 => h9) rfl dX5_count_11 ?_
      refine va_getN (D := D) (ci := 0) (v := .ref (n 0)) (C := RX0) (T := TX0) (N := 14) hx hb hts hi0 hown hK hP 1 rfl rfl 0 (by decide) (va_Nw.use rfl (hz _ zw_RX5_311)) (fun _ h9 => h9) rfl dX5_count_14 ?_
      refine lv_iload_n hx hb dX5_count_17 rfl (lv_at hl 1 rfl) ?_
      refine va_iald hx hb hK hP 2 0 rfl rfl (inC 6 7 (by decide)) dX5_count_18 ?_
      refine lv_topi (fun v10 ev10 => ?_)
      obtain rfl : v10 = 0 := ev10
      exact W.iret (v := 0) hx hb hr (fun t ht _ => ⟨0, rfl, (by (try unfold aCount); (try simp only [lg_cmp_lt, lg_cmp_ge, lg_cmp_gt, lg_cmp_le, lg_cmp_eq, Int64.lt_iff_toInt_lt, Int64.le_iff_toInt_le, Int32.lt_iff_toInt_lt, Int32.le_iff_toInt_le, eqT32, eqT64, Int32.toInt_toInt64, Int64.reduceToInt, Int32.reduceToInt]); (repeat' split) <;> first | rfl | (exfalso; omega) | omega | simp_all), ht⟩) (fun _ h => by cases h) dX5_count_19
    · skip
      refine lv_iload_n hx hb dX5_count_0 rfl (lv_at hl 1 rfl) ?_
      refine lv_if_lt (tgt := 20) hx hb dX5_count_1 (by decide) (fun c9 => absurd c9 (by decide)) (fun _ => ?_)
      refine lv_iload_n hx hb dX5_count_4 rfl (lv_at hl 1 rfl) ?_
      refine lv_bipush (v := 7) hx hb dX5_count_5 (by decide) ?_
      refine lv_icmp_ge (tgt := 20) hx hb dX5_count_7 (by decide) (fun _ => ?_) (fun c9 => absurd (by decide) c9)
      refine lv_iload_n hx hb dX5_count_20 rfl (lv_at hl 1 rfl) ?_
      refine lv_tableIn (tgt := 56) hx hb dX5_count_21 (by decide) (by decide) rfl (by decide) ?_
      refine lv_aload_n hx hb dX5_count_56 rfl (lv_at hl 0 rfl) ?_
      refine va_get (D := D) (ci := 5) (v := .ref (x 6)) (C := RX5) (T := TX5) (N := 8) hx hb hts hi5 hown hK hP 0 rfl rfl 6 (by decide) (hts (.fieldLink RX5 48 "AlibiRota" "now" "LAlibiRota$City;") (by decide +kernel)) (fun _ h9 => h9) rfl dX5_count_57 ?_
      refine va_getN (D := D) (ci := 0) (v := .int 0) (C := RX0) (T := TX0) (N := 14) hx hb hts hi0 hown hK hP 1 rfl rfl 2 (by decide) (va_Nw.use rfl (hz _ zw_RX5_140)) (fun _ h9 => h9) rfl dX5_count_60 ?_
      exact W.iret (v := 0) hx hb hr (fun t ht _ => ⟨0, rfl, (by (try unfold aCount); (try simp only [lg_cmp_lt, lg_cmp_ge, lg_cmp_gt, lg_cmp_le, lg_cmp_eq, Int64.lt_iff_toInt_lt, Int64.le_iff_toInt_le, Int32.lt_iff_toInt_lt, Int32.le_iff_toInt_le, eqT32, eqT64, Int32.toInt_toInt64, Int64.reduceToInt, Int32.reduceToInt]); (repeat' split) <;> first | rfl | (exfalso; omega) | omega | simp_all), ht⟩) (fun _ h => by cases h) dX5_count_63
    · skip
      refine lv_iload_n hx hb dX5_count_0 rfl (lv_at hl 1 rfl) ?_
      refine lv_if_lt (tgt := 20) hx hb dX5_count_1 (by decide) (fun c9 => absurd c9 (by decide)) (fun _ => ?_)
      refine lv_iload_n hx hb dX5_count_4 rfl (lv_at hl 1 rfl) ?_
      refine lv_bipush (v := 7) hx hb dX5_count_5 (by decide) ?_
      refine lv_icmp_ge (tgt := 20) hx hb dX5_count_7 (by decide) (fun _ => ?_) (fun c9 => absurd (by decide) c9)
      refine lv_iload_n hx hb dX5_count_20 rfl (lv_at hl 1 rfl) ?_
      refine lv_tableIn (tgt := 64) hx hb dX5_count_21 (by decide) (by decide) rfl (by decide) ?_
      refine lv_aload_n hx hb dX5_count_64 rfl (lv_at hl 0 rfl) ?_
      refine va_get (D := D) (ci := 5) (v := .ref (x 6)) (C := RX5) (T := TX5) (N := 8) hx hb hts hi5 hown hK hP 0 rfl rfl 6 (by decide) (hts (.fieldLink RX5 48 "AlibiRota" "now" "LAlibiRota$City;") (by decide +kernel)) (fun _ h9 => h9) rfl dX5_count_65 ?_
      refine va_getN (D := D) (ci := 0) (v := .int 0) (C := RX0) (T := TX0) (N := 14) hx hb hts hi0 hown hK hP 1 rfl rfl 9 (by decide) (va_Nw.use rfl (hz _ zw_RX5_293)) (fun _ h9 => h9) rfl dX5_count_68 ?_
      exact W.iret (v := 0) hx hb hr (fun t ht _ => ⟨0, rfl, (by (try unfold aCount); (try simp only [lg_cmp_lt, lg_cmp_ge, lg_cmp_gt, lg_cmp_le, lg_cmp_eq, Int64.lt_iff_toInt_lt, Int64.le_iff_toInt_le, Int32.lt_iff_toInt_lt, Int32.le_iff_toInt_le, eqT32, eqT64, Int32.toInt_toInt64, Int64.reduceToInt, Int32.reduceToInt]); (repeat' split) <;> first | rfl | (exfalso; omega) | omega | simp_all), ht⟩) (fun _ h => by cases h) dX5_count_71
    · skip
      refine lv_iload_n hx hb dX5_count_0 rfl (lv_at hl 1 rfl) ?_
      refine lv_if_lt (tgt := 20) hx hb dX5_count_1 (by decide) (fun c9 => absurd c9 (by decide)) (fun _ => ?_)
      refine lv_iload_n hx hb dX5_count_4 rfl (lv_at hl 1 rfl) ?_
      refine lv_bipush (v := 7) hx hb dX5_count_5 (by decide) ?_
      refine lv_icmp_ge (tgt := 20) hx hb dX5_count_7 (by decide) (fun _ => ?_) (fun c9 => absurd (by decide) c9)
      refine lv_iload_n hx hb dX5_count_20 rfl (lv_at hl 1 rfl) ?_
      refine lv_tableIn (tgt := 72) hx hb dX5_count_21 (by decide) (by decide) rfl (by decide) ?_
      refine lv_aload_n hx hb dX5_count_72 rfl (lv_at hl 0 rfl) ?_
      refine va_get (D := D) (ci := 5) (v := .ref (x 6)) (C := RX5) (T := TX5) (N := 8) hx hb hts hi5 hown hK hP 0 rfl rfl 6 (by decide) (hts (.fieldLink RX5 48 "AlibiRota" "now" "LAlibiRota$City;") (by decide +kernel)) (fun _ h9 => h9) rfl dX5_count_73 ?_
      refine va_getN (D := D) (ci := 0) (v := .int 0) (C := RX0) (T := TX0) (N := 14) hx hb hts hi0 hown hK hP 1 rfl rfl 1 (by decide) (va_Nw.use rfl (hz _ zw_RX5_74)) (fun _ h9 => h9) rfl dX5_count_76 ?_
      exact W.iret (v := 0) hx hb hr (fun t ht _ => ⟨0, rfl, (by (try unfold aCount); (try simp only [lg_cmp_lt, lg_cmp_ge, lg_cmp_gt, lg_cmp_le, lg_cmp_eq, Int64.lt_iff_toInt_lt, Int64.le_iff_toInt_le, Int32.lt_iff_toInt_lt, Int32.le_iff_toInt_le, eqT32, eqT64, Int32.toInt_toInt64, Int64.reduceToInt, Int32.reduceToInt]); (repeat' split) <;> first | rfl | (exfalso; omega) | omega | simp_all), ht⟩) (fun _ h => by cases h) dX5_count_79
    · skip
      refine lv_iload_n hx hb dX5_count_0 rfl (lv_at hl 1 rfl) ?_
      refine lv_if_lt (tgt := 20) hx hb dX5_count_1 (by decide) (fun c9 => absurd c9 (by decide)) (fun _ => ?_)
      refine lv_iload_n hx hb dX5_count_4 rfl (lv_at hl 1 rfl) ?_
      refine lv_bipush (v := 7) hx hb dX5_count_5 (by decide) ?_
      refine lv_icmp_ge (tgt := 20) hx hb dX5_count_7 (by decide) (fun _ => ?_) (fun c9 => absurd (by decide) c9)
      refine lv_iload_n hx hb dX5_count_20 rfl (lv_at hl 1 rfl) ?_
      refine lv_tableIn (tgt := 80) hx hb dX5_count_21 (by decide) (by decide) rfl (by decide) ?_
      refine lv_aload_n hx hb dX5_count_80 rfl (lv_at hl 0 rfl) ?_
      refine va_get (D := D) (ci := 5) (v := .ref (x 0)) (C := RX5) (T := TX5) (N := 8) hx hb hts hi5 hown hK hP 0 rfl rfl 0 (by decide) (hts (.fieldLink RX5 10 "AlibiRota" "tape" "LAlibiRota$Tape;") (by decide +kernel)) (fun _ h9 => h9) rfl dX5_count_81 ?_
      refine va_getN (D := D) (ci := 4) (v := .int 0) (C := RX4) (T := TX4) (N := 8) hx hb hts hi4 hown hK hP 3 rfl rfl 1 (by decide) (va_Nw.use rfl (hz _ zw_RX5_63)) (fun _ h9 => h9) rfl dX5_count_84 ?_
      exact W.iret (v := 0) hx hb hr (fun t ht _ => ⟨0, rfl, (by (try unfold aCount); (try simp only [lg_cmp_lt, lg_cmp_ge, lg_cmp_gt, lg_cmp_le, lg_cmp_eq, Int64.lt_iff_toInt_lt, Int64.le_iff_toInt_le, Int32.lt_iff_toInt_lt, Int32.le_iff_toInt_le, eqT32, eqT64, Int32.toInt_toInt64, Int64.reduceToInt, Int32.reduceToInt]); (repeat' split) <;> first | rfl | (exfalso; omega) | omega | simp_all), ht⟩) (fun _ h => by cases h) dX5_count_87
    · skip
      refine lv_iload_n hx hb dX5_count_0 rfl (lv_at hl 1 rfl) ?_
      refine lv_if_lt (tgt := 20) hx hb dX5_count_1 (by decide) (fun c9 => absurd c9 (by decide)) (fun _ => ?_)
      refine lv_iload_n hx hb dX5_count_4 rfl (lv_at hl 1 rfl) ?_
      refine lv_bipush (v := 7) hx hb dX5_count_5 (by decide) ?_
      refine lv_icmp_ge (tgt := 20) hx hb dX5_count_7 (by decide) (fun _ => ?_) (fun c9 => absurd (by decide) c9)
      refine lv_iload_n hx hb dX5_count_20 rfl (lv_at hl 1 rfl) ?_
      refine lv_tableIn (tgt := 88) hx hb dX5_count_21 (by decide) (by decide) rfl (by decide) ?_
      refine lv_aload_n hx hb dX5_count_88 rfl (lv_at hl 0 rfl) ?_
      refine va_get (D := D) (ci := 5) (v := .ref (x 1)) (C := RX5) (T := TX5) (N := 8) hx hb hts hi5 hown hK hP 0 rfl rfl 1 (by decide) (hts (.fieldLink RX5 19 "AlibiRota" "slots" "LAlibiRota$Slots;") (by decide +kernel)) (fun _ h9 => h9) rfl dX5_count_89 ?_
      have hPc := hP.sub (ws' := [(x 1, .inr (3, [.ref (q 0), .ref (q 1), .ref (q 2), .ref (q 3)])), (q 0, .inl (cZ, 4, .inl (fun _ => 0)))]) [4, 5] rfl
      refine vp_callSi (va_Run.run (va_runVN (As := []) (rest := []) ⟨hx, hb, hml, hown, hts⟩ (k_manyRows l D cI cZ cB cJ cR (x 1) q ) ⟨va_cnB 0 hts ggX5_count_X3_manyRows rfl rfl rfl (hz _ zw_RX5_314) (hts (.initialized RX3) (by decide +kernel)) (by decide +kernel) ⟨Nat.le_of_ble_eq_true rfl, Nat.le_of_ble_eq_true rfl⟩, hts (.instanceMethod yX3_manyRows) (by decide +kernel), hts (.selects RX3 yX3_manyRows yX3_manyRows) (by decide +kernel)⟩ ⟨fbS, va_recv hK hPc (ci := 3) (q0 := 0) rfl rfl, pS_at hPc hk⟩ rfl rfl hl.1 rfl (lv_room (Nat.le_of_ble_eq_true rfl)) dX5_count_92 ⟨show 0 ≤ 0 by decide, show 0 ≤ 0 by decide⟩)) (fun r11 hr11 => ?_)
      obtain rfl : r11 = 0 := hr11
      exact W.iret (v := 0) hx hb hr (fun t ht _ => ⟨0, rfl, (by (try unfold aCount); (try simp only [lg_cmp_lt, lg_cmp_ge, lg_cmp_gt, lg_cmp_le, lg_cmp_eq, Int64.lt_iff_toInt_lt, Int64.le_iff_toInt_le, Int32.lt_iff_toInt_lt, Int32.le_iff_toInt_le, eqT32, eqT64, Int32.toInt_toInt64, Int64.reduceToInt, Int32.reduceToInt]); (repeat' split) <;> first | rfl | (exfalso; omega) | omega | simp_all), ht⟩) (fun _ h => by cases h) dX5_count_95
