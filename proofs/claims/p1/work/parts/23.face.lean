set_option maxHeartbeats 4000000 in
set_option maxRecDepth 100000 in
theorem mx_fault (l : Launch) (D : va_G) (cI cZ cB cJ cR : ClassId) (h : Nat) (r : Nat → Nat) (sz : Nat) (p0 : Int32) : Met l yX6_fault wsX6_fault ({ frames := 0, cells := 0, slots := 0, locals := 0 }) (va_Pc [.ref h, .int p0] (pQ D cI cZ cB cJ cR [(h, .inr (6, [.int 0, .ref (r 1), .ref (r 2), .ref (r 3), .ref (r 4), .ref (r 5), .int 0, .int 0, .int 0, .int 0, .int 0, .long 0, .int 0, .int 0, .int 0, .int (-1), .ref (r 16), .ref (r 17), .ref (r 18), .ref (r 19), .ref (r 20), .ref (r 21), .ref (r 22), .ref (r 23), .ref (r 24), .int 0, .int 0, .int 0, .int 0, .int 0, .ref (r 30), .ref (r 31), .ref (r 32), .ref (r 33), .int 0, .int 0]))] sz)) (va_Qi (fun (r : Int32) (_ : Unit) => r = aFault p0) (fun (_ : Unit) _ => True) (va_A [(h, .inr (6, [.int 0, .ref (r 1), .ref (r 2), .ref (r 3), .ref (r 4), .ref (r 5), .int 0, .int 0, .int 0, .int 0, .int 0, .long 0, .int 0, .int 0, .int 0, .int (-1), .ref (r 16), .ref (r 17), .ref (r 18), .ref (r 19), .ref (r 20), .ref (r 21), .ref (r 22), .ref (r 23), .ref (r 24), .int 0, .int 0, .int 0, .int 0, .int 0, .ref (r 30), .ref (r 31), .ref (r 32), .ref (r 33), .int 0, .int 0]))] sz)) 0 0 (va_A [(h, .inr (6, [.int 0, .ref (r 1), .ref (r 2), .ref (r 3), .ref (r 4), .ref (r 5), .int 0, .int 0, .int 0, .int 0, .int 0, .long 0, .int 0, .int 0, .int 0, .int (-1), .ref (r 16), .ref (r 17), .ref (r 18), .ref (r 19), .ref (r 20), .ref (r 21), .ref (r 22), .ref (r 23), .ref (r 24), .int 0, .int 0, .int 0, .int 0, .int 0, .ref (r 30), .ref (r 31), .ref (r 32), .ref (r 33), .int 0, .int 0]))] sz) := by
  refine Met.ofW (cc := cX6_fault) (maxL := 2) (ret := (some .int)) (by decide) rfl ?_
  intro p e s m args below meth c s₁ B hml hv
  obtain ⟨rfl, hsz, hP, hk, hD0⟩ := hv
  have hK := hk.1
  have hz := hk.2.1
  have hx := B.exec
  have hb := B.bytes
  have hr := B.returns
  have hts := atoms_spec (ws := wsX6_fault) B.pre
  have hown : s.vm.findClass RX6 = some m.cls := findClass_of_methodNamed B.named
  have hlocks := B.notSynchronized
  have hi6 : ∀ w ∈ wsX60, w ∈ wsX6_fault := by decide +kernel
  subst hsz
  have hD := hD0.self (sz := s.heap.size)
  generalize hAe : va_A [(h, .inr (6, [.int 0, .ref (r 1), .ref (r 2), .ref (r 3), .ref (r 4), .ref (r 5), .int 0, .int 0, .int 0, .int 0, .int 0, .long 0, .int 0, .int 0, .int 0, .int (-1), .ref (r 16), .ref (r 17), .ref (r 18), .ref (r 19), .ref (r 20), .ref (r 21), .ref (r 22), .ref (r 23), .ref (r 24), .int 0, .int 0, .int 0, .int 0, .int 0, .ref (r 30), .ref (r 31), .ref (r 32), .ref (r 33), .int 0, .int 0]))] s.heap.size = A at hD ⊢
  have hA : ∀ q : Nat, s.heap.size ≤ q → A q := fun q h => by rw [← hAe]; exact Or.inr h
  have hS : va_S A s.heap s.heap [] := va_S.rf
  have hP : va_P D vwCl [(h, .inr (6, [.int 0, .ref (r 1), .ref (r 2), .ref (r 3), .ref (r 4), .ref (r 5), .int 0, .int 0, .int 0, .int 0, .int 0, .long 0, .int 0, .int 0, .int 0, .int (-1), .ref (r 16), .ref (r 17), .ref (r 18), .ref (r 19), .ref (r 20), .ref (r 21), .ref (r 22), .ref (r 23), .ref (r 24), .int 0, .int 0, .int 0, .int 0, .int 0, .ref (r 30), .ref (r 31), .ref (r 32), .ref (r 33), .int 0, .int 0]))] s.heap := hP
  have hl := lv_entry ([.ref h, .int p0]) (n := 2) (Nat.le_of_ble_eq_true rfl)
  rw [lg_entry_eq]
  generalize (lg_sl ([.ref h, .int p0]) ++ List.replicate (2 - (lg_sl ([.ref h, .int p0])).length) Slot.unset).toArray = ls at hl ⊢
  have hl : lv_has ls 2 [(0, .ref h), (1, .int p0)] := hl
  refine lv_aload_n hx hb dX6_fault_0 rfl (lv_at hl 0 rfl) ?_
  refine lv_iconst (v := 0) hx hb dX6_fault_1 (by decide) ?_
  refine va_put (D := D) (ci := 6) (v := .int 0) (ty := .int) (C := RX6) (T := TX6) (N := 36) hx hb hts hi6 tyX6 tyX6_ok nmX6 hown hK hP hD hS 0 rfl rfl 0 (by decide) (hts (.fieldLink RX6 71 "AlibiRotaModel" "thrown" "I") (by decide +kernel)) (fun _ h9 => h9) rfl (by decide +kernel) rfl rfl (Nat.le_of_ble_eq_true rfl) dX6_fault_2 (fun H locs hP hD hS => ?_)
  have hP : va_P D vwCl [(h, .inr (6, [.int 0, .ref (r 1), .ref (r 2), .ref (r 3), .ref (r 4), .ref (r 5), .int 0, .int 0, .int 0, .int 0, .int 0, .long 0, .int 0, .int 0, .int 0, .int (-1), .ref (r 16), .ref (r 17), .ref (r 18), .ref (r 19), .ref (r 20), .ref (r 21), .ref (r 22), .ref (r 23), .ref (r 24), .int 0, .int 0, .int 0, .int 0, .int 0, .ref (r 30), .ref (r 31), .ref (r 32), .ref (r 33), .int 0, .int 0]))] H := hP
  have hD : va_D A [(h, .inr (6, [.int 0, .ref (r 1), .ref (r 2), .ref (r 3), .ref (r 4), .ref (r 5), .int 0, .int 0, .int 0, .int 0, .int 0, .long 0, .int 0, .int 0, .int 0, .int (-1), .ref (r 16), .ref (r 17), .ref (r 18), .ref (r 19), .ref (r 20), .ref (r 21), .ref (r 22), .ref (r 23), .ref (r 24), .int 0, .int 0, .int 0, .int 0, .int 0, .ref (r 30), .ref (r 31), .ref (r 32), .ref (r 33), .int 0, .int 0]))] := hD
  refine lv_iload_n hx hb dX6_fault_5 rfl (lv_at hl 1 rfl) ?_
  refine lv_if_ne (tgt := 16) hx hb dX6_fault_6 (by decide) (fun c1 => ?_) (fun c1 => ?_)
  · skip
    refine lv_iload_n hx hb dX6_fault_16 rfl (lv_at hl 1 rfl) ?_
    refine lv_iconst (v := 1) hx hb dX6_fault_17 (by decide) ?_
    refine lv_icmp_ne (tgt := 28) hx hb dX6_fault_18 (by decide) (fun c2 => ?_) (fun c2 => ?_)
    · skip
      refine lv_iconst (v := (-1)) hx hb dX6_fault_28 (by decide) ?_
      exact W.iret (v := (-1)) hx hb hr (fun t ht _ => ⟨⟨(-1), (), rfl, (by (try simp only [lg_cmp_lt, lg_cmp_ge, lg_cmp_gt, lg_cmp_le, lg_cmp_eq, Int64.lt_iff_toInt_lt, Int64.le_iff_toInt_le, Int32.lt_iff_toInt_lt, Int32.le_iff_toInt_le, eqT32, eqT64, Int32.toInt_toInt64, Int64.reduceToInt, Int32.reduceToInt] at c1); (try simp only [lg_cmp_lt, lg_cmp_ge, lg_cmp_gt, lg_cmp_le, lg_cmp_eq, Int64.lt_iff_toInt_lt, Int64.le_iff_toInt_le, Int32.lt_iff_toInt_lt, Int32.le_iff_toInt_le, eqT32, eqT64, Int32.toInt_toInt64, Int64.reduceToInt, Int32.reduceToInt] at c2); (try unfold aFault); (try simp only [lg_cmp_lt, lg_cmp_ge, lg_cmp_gt, lg_cmp_le, lg_cmp_eq, Int64.lt_iff_toInt_lt, Int64.le_iff_toInt_le, Int32.lt_iff_toInt_lt, Int32.le_iff_toInt_le, eqT32, eqT64, Int32.toInt_toInt64, Int64.reduceToInt, Int32.reduceToInt]); (repeat' split) <;> first | rfl | (exfalso; omega) | omega | simp_all), trivial⟩, hS.F ht⟩) hS.2.2 dX6_fault_29
    · skip
      refine lv_aload_n hx hb dX6_fault_21 rfl (lv_at hl 0 rfl) ?_
      refine va_get (D := D) (ci := 6) (v := .int (-1)) (C := RX6) (T := TX6) (N := 36) hx hb hts hi6 hown hK hP 0 rfl rfl 15 (by decide) (hts (.fieldLink RX6 27 "AlibiRotaModel" "faultPlace" "I") (by decide +kernel)) (fun _ h9 => h9) rfl dX6_fault_22 ?_
      refine lv_goto (tgt := 29) hx hb dX6_fault_25 (by decide) ?_
      exact W.iret (v := (-1)) hx hb hr (fun t ht _ => ⟨⟨(-1), (), rfl, (by (try simp only [lg_cmp_lt, lg_cmp_ge, lg_cmp_gt, lg_cmp_le, lg_cmp_eq, Int64.lt_iff_toInt_lt, Int64.le_iff_toInt_le, Int32.lt_iff_toInt_lt, Int32.le_iff_toInt_le, eqT32, eqT64, Int32.toInt_toInt64, Int64.reduceToInt, Int32.reduceToInt] at c1); (try simp only [lg_cmp_lt, lg_cmp_ge, lg_cmp_gt, lg_cmp_le, lg_cmp_eq, Int64.lt_iff_toInt_lt, Int64.le_iff_toInt_le, Int32.lt_iff_toInt_lt, Int32.le_iff_toInt_le, eqT32, eqT64, Int32.toInt_toInt64, Int64.reduceToInt, Int32.reduceToInt] at c2); (try unfold aFault); (try simp only [lg_cmp_lt, lg_cmp_ge, lg_cmp_gt, lg_cmp_le, lg_cmp_eq, Int64.lt_iff_toInt_lt, Int64.le_iff_toInt_le, Int32.lt_iff_toInt_lt, Int32.le_iff_toInt_le, eqT32, eqT64, Int32.toInt_toInt64, Int64.reduceToInt, Int32.reduceToInt]); (repeat' split) <;> first | rfl | (exfalso; omega) | omega | simp_all), trivial⟩, hS.F ht⟩) hS.2.2 dX6_fault_29
  · skip
    refine lv_aload_n hx hb dX6_fault_9 rfl (lv_at hl 0 rfl) ?_
    refine va_get (D := D) (ci := 6) (v := .int 0) (C := RX6) (T := TX6) (N := 36) hx hb hts hi6 hown hK hP 0 rfl rfl 14 (by decide) (hts (.fieldLink RX6 150 "AlibiRotaModel" "fault" "I") (by decide +kernel)) (fun _ h9 => h9) rfl dX6_fault_10 ?_
    refine lv_goto (tgt := 29) hx hb dX6_fault_13 (by decide) ?_
    exact W.iret (v := 0) hx hb hr (fun t ht _ => ⟨⟨0, (), rfl, (by (try simp only [lg_cmp_lt, lg_cmp_ge, lg_cmp_gt, lg_cmp_le, lg_cmp_eq, Int64.lt_iff_toInt_lt, Int64.le_iff_toInt_le, Int32.lt_iff_toInt_lt, Int32.le_iff_toInt_le, eqT32, eqT64, Int32.toInt_toInt64, Int64.reduceToInt, Int32.reduceToInt] at c1); (try unfold aFault); (try simp only [lg_cmp_lt, lg_cmp_ge, lg_cmp_gt, lg_cmp_le, lg_cmp_eq, Int64.lt_iff_toInt_lt, Int64.le_iff_toInt_le, Int32.lt_iff_toInt_lt, Int32.le_iff_toInt_le, eqT32, eqT64, Int32.toInt_toInt64, Int64.reduceToInt, Int32.reduceToInt]); (repeat' split) <;> first | rfl | (exfalso; omega) | omega | simp_all), trivial⟩, hS.F ht⟩) hS.2.2 dX6_fault_29

set_option maxHeartbeats 4000000 in
set_option maxRecDepth 100000 in
theorem mx_end (l : Launch) (D : va_G) (cI cZ cB cJ cR : ClassId) (h : Nat) (r : Nat → Nat) (sz : Nat) (p0 : Int32) : Met l yX6_end wsX6_end ({ frames := 1, cells := 0, slots := 0, locals := 25 }) (va_Pc [.ref h, .int p0] (pQ D cI cZ cB cJ cR [(h, .inr (6, [.int 0, .ref (r 1), .ref (r 2), .ref (r 3), .ref (r 4), .ref (r 5), .int 0, .int 0, .int 0, .int 0, .int 0, .long 0, .int 0, .int 0, .int 0, .int (-1), .ref (r 16), .ref (r 17), .ref (r 18), .ref (r 19), .ref (r 20), .ref (r 21), .ref (r 22), .ref (r 23), .ref (r 24), .int 0, .int 0, .int 0, .int 0, .int 0, .ref (r 30), .ref (r 31), .ref (r 32), .ref (r 33), .int 0, .int 0]))] sz)) (va_Qi (fun (r : Int32) (_ : Unit) => r = aEnd p0) (fun (_ : Unit) _ => True) (va_A [(h, .inr (6, [.int 0, .ref (r 1), .ref (r 2), .ref (r 3), .ref (r 4), .ref (r 5), .int 0, .int 0, .int 0, .int 0, .int 0, .long 0, .int 0, .int 0, .int 0, .int (-1), .ref (r 16), .ref (r 17), .ref (r 18), .ref (r 19), .ref (r 20), .ref (r 21), .ref (r 22), .ref (r 23), .ref (r 24), .int 0, .int 0, .int 0, .int 0, .int 0, .ref (r 30), .ref (r 31), .ref (r 32), .ref (r 33), .int 0, .int 0]))] sz)) 0 0 (va_A [(h, .inr (6, [.int 0, .ref (r 1), .ref (r 2), .ref (r 3), .ref (r 4), .ref (r 5), .int 0, .int 0, .int 0, .int 0, .int 0, .long 0, .int 0, .int 0, .int 0, .int (-1), .ref (r 16), .ref (r 17), .ref (r 18), .ref (r 19), .ref (r 20), .ref (r 21), .ref (r 22), .ref (r 23), .ref (r 24), .int 0, .int 0, .int 0, .int 0, .int 0, .ref (r 30), .ref (r 31), .ref (r 32), .ref (r 33), .int 0, .int 0]))] sz) := by
  refine Met.ofW (cc := cX6_end) (maxL := 2) (ret := (some .int)) (by decide) rfl ?_
  intro p e s m args below meth c s₁ B hml hv
  obtain ⟨rfl, hsz, hP, hk, hD0⟩ := hv
  have hK := hk.1
  have hz := hk.2.1
  have hx := B.exec
  have hb := B.bytes
  have hr := B.returns
  have hts := atoms_spec (ws := wsX6_end) B.pre
  have hown : s.vm.findClass RX6 = some m.cls := findClass_of_methodNamed B.named
  have hlocks := B.notSynchronized
  have hi6 : ∀ w ∈ wsX60, w ∈ wsX6_end := by decide +kernel
  subst hsz
  have hD := hD0.self (sz := s.heap.size)
  generalize hAe : va_A [(h, .inr (6, [.int 0, .ref (r 1), .ref (r 2), .ref (r 3), .ref (r 4), .ref (r 5), .int 0, .int 0, .int 0, .int 0, .int 0, .long 0, .int 0, .int 0, .int 0, .int (-1), .ref (r 16), .ref (r 17), .ref (r 18), .ref (r 19), .ref (r 20), .ref (r 21), .ref (r 22), .ref (r 23), .ref (r 24), .int 0, .int 0, .int 0, .int 0, .int 0, .ref (r 30), .ref (r 31), .ref (r 32), .ref (r 33), .int 0, .int 0]))] s.heap.size = A at hD ⊢
  have hA : ∀ q : Nat, s.heap.size ≤ q → A q := fun q h => by rw [← hAe]; exact Or.inr h
  have hS : va_S A s.heap s.heap [] := va_S.rf
  have hP : va_P D vwCl [(h, .inr (6, [.int 0, .ref (r 1), .ref (r 2), .ref (r 3), .ref (r 4), .ref (r 5), .int 0, .int 0, .int 0, .int 0, .int 0, .long 0, .int 0, .int 0, .int 0, .int (-1), .ref (r 16), .ref (r 17), .ref (r 18), .ref (r 19), .ref (r 20), .ref (r 21), .ref (r 22), .ref (r 23), .ref (r 24), .int 0, .int 0, .int 0, .int 0, .int 0, .ref (r 30), .ref (r 31), .ref (r 32), .ref (r 33), .int 0, .int 0]))] s.heap := hP
  have hl := lv_entry ([.ref h, .int p0]) (n := 2) (Nat.le_of_ble_eq_true rfl)
  rw [lg_entry_eq]
  generalize (lg_sl ([.ref h, .int p0]) ++ List.replicate (2 - (lg_sl ([.ref h, .int p0])).length) Slot.unset).toArray = ls at hl ⊢
  have hl : lv_has ls 2 [(0, .ref h), (1, .int p0)] := hl
  refine lv_aload_n hx hb dX6_end_0 rfl (lv_at hl 0 rfl) ?_
  refine lv_iconst (v := 0) hx hb dX6_end_1 (by decide) ?_
  refine va_put (D := D) (ci := 6) (v := .int 0) (ty := .int) (C := RX6) (T := TX6) (N := 36) hx hb hts hi6 tyX6 tyX6_ok nmX6 hown hK hP hD hS 0 rfl rfl 0 (by decide) (hts (.fieldLink RX6 71 "AlibiRotaModel" "thrown" "I") (by decide +kernel)) (fun _ h9 => h9) rfl (by decide +kernel) rfl rfl (Nat.le_of_ble_eq_true rfl) dX6_end_2 (fun H locs hP hD hS => ?_)
  have hP : va_P D vwCl [(h, .inr (6, [.int 0, .ref (r 1), .ref (r 2), .ref (r 3), .ref (r 4), .ref (r 5), .int 0, .int 0, .int 0, .int 0, .int 0, .long 0, .int 0, .int 0, .int 0, .int (-1), .ref (r 16), .ref (r 17), .ref (r 18), .ref (r 19), .ref (r 20), .ref (r 21), .ref (r 22), .ref (r 23), .ref (r 24), .int 0, .int 0, .int 0, .int 0, .int 0, .ref (r 30), .ref (r 31), .ref (r 32), .ref (r 33), .int 0, .int 0]))] H := hP
  have hD : va_D A [(h, .inr (6, [.int 0, .ref (r 1), .ref (r 2), .ref (r 3), .ref (r 4), .ref (r 5), .int 0, .int 0, .int 0, .int 0, .int 0, .long 0, .int 0, .int 0, .int 0, .int (-1), .ref (r 16), .ref (r 17), .ref (r 18), .ref (r 19), .ref (r 20), .ref (r 21), .ref (r 22), .ref (r 23), .ref (r 24), .int 0, .int 0, .int 0, .int 0, .int 0, .ref (r 30), .ref (r 31), .ref (r 32), .ref (r 33), .int 0, .int 0]))] := hD
  refine lv_iload_n hx hb dX6_end_5 rfl (lv_at hl 1 rfl) ?_
  refine lv_i2l (v := p0.toInt64) hx hb dX6_end_6 rfl ?_
  refine lv_lconst (v := 0) hx hb dX6_end_7 (by decide) ?_
  refine lv_aload_n hx hb dX6_end_8 rfl (lv_at hl 0 rfl) ?_
  refine va_get (D := D) (ci := 6) (v := .int 0) (C := RX6) (T := TX6) (N := 36) hx hb hts hi6 hown hK hP 0 rfl rfl 6 (by decide) (hts (.fieldLink RX6 88 "AlibiRotaModel" "taped" "I") (by decide +kernel)) (fun _ h9 => h9) rfl dX6_end_9 ?_
  refine lv_i2l (v := 0) hx hb dX6_end_12 (by decide) ?_
  have hPc := hP.sub (ws' := []) [] rfl
  refine vp_callSi (va_Run.run (va_runS (As := [.long p0.toInt64, .long 0, .long 0]) (rest := []) ⟨hx, hb, hml, hown, hts⟩ (m_in l D cI cZ cB cJ cR p0.toInt64 0 0) (cwS 3 hts gX6_end_X6_in rfl rfl rfl (by decide +kernel) ⟨Nat.le_of_ble_eq_true rfl, Nat.le_of_ble_eq_true rfl⟩) ⟨fbS, pS_at hPc hk⟩ rfl rfl hl.1 rfl (lv_room (Nat.le_of_ble_eq_true rfl)) dX6_end_13 ⟨show 0 ≤ 0 by decide, show 0 ≤ 0 by decide⟩)) (fun r1 hr1 => ?_)
  rcases hr1 with ⟨rfl, g2, g3⟩ | ⟨rfl, g4⟩
  · skip
    refine lv_if_ne (tgt := 21) hx hb dX6_end_16 (by decide) (fun _ => ?_) (fun c9 => absurd c9 (by decide))
    refine lv_aload_n hx hb dX6_end_21 rfl (lv_at hl 0 rfl) ?_
    refine lv_iload_n hx hb dX6_end_22 rfl (lv_at hl 1 rfl) ?_
    refine va_put (D := D) (ci := 6) (v := .int p0) (ty := .int) (C := RX6) (T := TX6) (N := 36) hx hb hts hi6 tyX6 tyX6_ok nmX6 hown hK hP hD hS 0 rfl rfl 6 (by decide) (hts (.fieldLink RX6 88 "AlibiRotaModel" "taped" "I") (by decide +kernel)) (fun _ h9 => h9) rfl (by decide +kernel) rfl rfl (Nat.le_of_ble_eq_true rfl) dX6_end_23 (fun H locs hP hD hS => ?_)
    have hP : va_P D vwCl [(h, .inr (6, [.int 0, .ref (r 1), .ref (r 2), .ref (r 3), .ref (r 4), .ref (r 5), .int p0, .int 0, .int 0, .int 0, .int 0, .long 0, .int 0, .int 0, .int 0, .int (-1), .ref (r 16), .ref (r 17), .ref (r 18), .ref (r 19), .ref (r 20), .ref (r 21), .ref (r 22), .ref (r 23), .ref (r 24), .int 0, .int 0, .int 0, .int 0, .int 0, .ref (r 30), .ref (r 31), .ref (r 32), .ref (r 33), .int 0, .int 0]))] H := hP
    have hD : va_D A [(h, .inr (6, [.int 0, .ref (r 1), .ref (r 2), .ref (r 3), .ref (r 4), .ref (r 5), .int p0, .int 0, .int 0, .int 0, .int 0, .long 0, .int 0, .int 0, .int 0, .int (-1), .ref (r 16), .ref (r 17), .ref (r 18), .ref (r 19), .ref (r 20), .ref (r 21), .ref (r 22), .ref (r 23), .ref (r 24), .int 0, .int 0, .int 0, .int 0, .int 0, .ref (r 30), .ref (r 31), .ref (r 32), .ref (r 33), .int 0, .int 0]))] := hD
    refine lv_iload_n hx hb dX6_end_26 rfl (lv_at hl 1 rfl) ?_
    exact W.iret (v := p0) hx hb hr (fun t ht _ => ⟨⟨p0, (), rfl, (by (try simp only [lg_cmp_lt, lg_cmp_ge, lg_cmp_gt, lg_cmp_le, lg_cmp_eq, Int64.lt_iff_toInt_lt, Int64.le_iff_toInt_le, Int32.lt_iff_toInt_lt, Int32.le_iff_toInt_le, eqT32, eqT64, Int32.toInt_toInt64, Int64.reduceToInt, Int32.reduceToInt] at g2); (try simp only [lg_cmp_lt, lg_cmp_ge, lg_cmp_gt, lg_cmp_le, lg_cmp_eq, Int64.lt_iff_toInt_lt, Int64.le_iff_toInt_le, Int32.lt_iff_toInt_lt, Int32.le_iff_toInt_le, eqT32, eqT64, Int32.toInt_toInt64, Int64.reduceToInt, Int32.reduceToInt] at g3); (try unfold aEnd); (try simp only [lg_cmp_lt, lg_cmp_ge, lg_cmp_gt, lg_cmp_le, lg_cmp_eq, Int64.lt_iff_toInt_lt, Int64.le_iff_toInt_le, Int32.lt_iff_toInt_lt, Int32.le_iff_toInt_le, eqT32, eqT64, Int32.toInt_toInt64, Int64.reduceToInt, Int32.reduceToInt]); (repeat' split) <;> first | rfl | (exfalso; omega) | omega | simp_all), trivial⟩, hS.F ht⟩) hS.2.2 dX6_end_27
  · skip
    refine lv_if_ne (tgt := 21) hx hb dX6_end_16 (by decide) (fun c9 => absurd (by decide) c9) (fun _ => ?_)
    refine lv_iconst (v := (-1)) hx hb dX6_end_19 (by decide) ?_
    exact W.iret (v := (-1)) hx hb hr (fun t ht _ => ⟨⟨(-1), (), rfl, (by (try simp only [lg_cmp_lt, lg_cmp_ge, lg_cmp_gt, lg_cmp_le, lg_cmp_eq, Int64.lt_iff_toInt_lt, Int64.le_iff_toInt_le, Int32.lt_iff_toInt_lt, Int32.le_iff_toInt_le, eqT32, eqT64, Int32.toInt_toInt64, Int64.reduceToInt, Int32.reduceToInt] at g4); (try unfold aEnd); (try simp only [lg_cmp_lt, lg_cmp_ge, lg_cmp_gt, lg_cmp_le, lg_cmp_eq, Int64.lt_iff_toInt_lt, Int64.le_iff_toInt_le, Int32.lt_iff_toInt_lt, Int32.le_iff_toInt_le, eqT32, eqT64, Int32.toInt_toInt64, Int64.reduceToInt, Int32.reduceToInt]); (repeat' split) <;> first | rfl | (exfalso; omega) | omega | simp_all), trivial⟩, hS.F ht⟩) hS.2.2 dX6_end_20

set_option maxHeartbeats 4000000 in
set_option maxRecDepth 100000 in
theorem mx_back (l : Launch) (D : va_G) (cI cZ cB cJ cR : ClassId) (h : Nat) (r : Nat → Nat) (sz : Nat) (p0 : Int32) : Met l yX6_back wsX6_back ({ frames := 1, cells := 0, slots := 0, locals := 25 }) (va_Pc [.ref h, .int p0] (pQ D cI cZ cB cJ cR [(h, .inr (6, [.int 0, .ref (r 1), .ref (r 2), .ref (r 3), .ref (r 4), .ref (r 5), .int 0, .int 0, .int 0, .int 0, .int 0, .long 0, .int 0, .int 0, .int 0, .int (-1), .ref (r 16), .ref (r 17), .ref (r 18), .ref (r 19), .ref (r 20), .ref (r 21), .ref (r 22), .ref (r 23), .ref (r 24), .int 0, .int 0, .int 0, .int 0, .int 0, .ref (r 30), .ref (r 31), .ref (r 32), .ref (r 33), .int 0, .int 0])), (r 21, .inl (cZ, 3, .inl (fun _ => 0)))] sz)) (va_Qi (fun (r : Int32) (_ : Unit) => r = aBack p0) (fun (_ : Unit) _ => True) (va_A [(h, .inr (6, [.int 0, .ref (r 1), .ref (r 2), .ref (r 3), .ref (r 4), .ref (r 5), .int 0, .int 0, .int 0, .int 0, .int 0, .long 0, .int 0, .int 0, .int 0, .int (-1), .ref (r 16), .ref (r 17), .ref (r 18), .ref (r 19), .ref (r 20), .ref (r 21), .ref (r 22), .ref (r 23), .ref (r 24), .int 0, .int 0, .int 0, .int 0, .int 0, .ref (r 30), .ref (r 31), .ref (r 32), .ref (r 33), .int 0, .int 0])), (r 21, .inl (cZ, 3, .inl (fun _ => 0)))] sz)) 0 0 (va_A [(h, .inr (6, [.int 0, .ref (r 1), .ref (r 2), .ref (r 3), .ref (r 4), .ref (r 5), .int 0, .int 0, .int 0, .int 0, .int 0, .long 0, .int 0, .int 0, .int 0, .int (-1), .ref (r 16), .ref (r 17), .ref (r 18), .ref (r 19), .ref (r 20), .ref (r 21), .ref (r 22), .ref (r 23), .ref (r 24), .int 0, .int 0, .int 0, .int 0, .int 0, .ref (r 30), .ref (r 31), .ref (r 32), .ref (r 33), .int 0, .int 0])), (r 21, .inl (cZ, 3, .inl (fun _ => 0)))] sz) := by
  refine Met.ofW (cc := cX6_back) (maxL := 2) (ret := (some .int)) (by decide) rfl ?_
  intro p e s m args below meth c s₁ B hml hv
  obtain ⟨rfl, hsz, hP, hk, hD0⟩ := hv
  have hK := hk.1
  have hz := hk.2.1
  have hx := B.exec
  have hb := B.bytes
  have hr := B.returns
  have hts := atoms_spec (ws := wsX6_back) B.pre
  have hown : s.vm.findClass RX6 = some m.cls := findClass_of_methodNamed B.named
  have hlocks := B.notSynchronized
  have hi6 : ∀ w ∈ wsX60, w ∈ wsX6_back := by decide +kernel
  subst hsz
  have hD := hD0.self (sz := s.heap.size)
  generalize hAe : va_A [(h, .inr (6, [.int 0, .ref (r 1), .ref (r 2), .ref (r 3), .ref (r 4), .ref (r 5), .int 0, .int 0, .int 0, .int 0, .int 0, .long 0, .int 0, .int 0, .int 0, .int (-1), .ref (r 16), .ref (r 17), .ref (r 18), .ref (r 19), .ref (r 20), .ref (r 21), .ref (r 22), .ref (r 23), .ref (r 24), .int 0, .int 0, .int 0, .int 0, .int 0, .ref (r 30), .ref (r 31), .ref (r 32), .ref (r 33), .int 0, .int 0])), (r 21, .inl (cZ, 3, .inl (fun _ => 0)))] s.heap.size = A at hD ⊢
  have hA : ∀ q : Nat, s.heap.size ≤ q → A q := fun q h => by rw [← hAe]; exact Or.inr h
  have hS : va_S A s.heap s.heap [] := va_S.rf
  have hP : va_P D vwCl [(h, .inr (6, [.int 0, .ref (r 1), .ref (r 2), .ref (r 3), .ref (r 4), .ref (r 5), .int 0, .int 0, .int 0, .int 0, .int 0, .long 0, .int 0, .int 0, .int 0, .int (-1), .ref (r 16), .ref (r 17), .ref (r 18), .ref (r 19), .ref (r 20), .ref (r 21), .ref (r 22), .ref (r 23), .ref (r 24), .int 0, .int 0, .int 0, .int 0, .int 0, .ref (r 30), .ref (r 31), .ref (r 32), .ref (r 33), .int 0, .int 0])), (r 21, .inl (cZ, 3, .inl (fun _ => 0)))] s.heap := hP
  have hl := lv_entry ([.ref h, .int p0]) (n := 2) (Nat.le_of_ble_eq_true rfl)
  rw [lg_entry_eq]
  generalize (lg_sl ([.ref h, .int p0]) ++ List.replicate (2 - (lg_sl ([.ref h, .int p0])).length) Slot.unset).toArray = ls at hl ⊢
  have hl : lv_has ls 2 [(0, .ref h), (1, .int p0)] := hl
  refine lv_aload_n hx hb dX6_back_0 rfl (lv_at hl 0 rfl) ?_
  refine lv_iconst (v := 0) hx hb dX6_back_1 (by decide) ?_
  refine va_put (D := D) (ci := 6) (v := .int 0) (ty := .int) (C := RX6) (T := TX6) (N := 36) hx hb hts hi6 tyX6 tyX6_ok nmX6 hown hK hP hD hS 0 rfl rfl 0 (by decide) (hts (.fieldLink RX6 71 "AlibiRotaModel" "thrown" "I") (by decide +kernel)) (fun _ h9 => h9) rfl (by decide +kernel) rfl rfl (Nat.le_of_ble_eq_true rfl) dX6_back_2 (fun H locs hP hD hS => ?_)
  have hP : va_P D vwCl [(h, .inr (6, [.int 0, .ref (r 1), .ref (r 2), .ref (r 3), .ref (r 4), .ref (r 5), .int 0, .int 0, .int 0, .int 0, .int 0, .long 0, .int 0, .int 0, .int 0, .int (-1), .ref (r 16), .ref (r 17), .ref (r 18), .ref (r 19), .ref (r 20), .ref (r 21), .ref (r 22), .ref (r 23), .ref (r 24), .int 0, .int 0, .int 0, .int 0, .int 0, .ref (r 30), .ref (r 31), .ref (r 32), .ref (r 33), .int 0, .int 0])), (r 21, .inl (cZ, 3, .inl (fun _ => 0)))] H := hP
  have hD : va_D A [(h, .inr (6, [.int 0, .ref (r 1), .ref (r 2), .ref (r 3), .ref (r 4), .ref (r 5), .int 0, .int 0, .int 0, .int 0, .int 0, .long 0, .int 0, .int 0, .int 0, .int (-1), .ref (r 16), .ref (r 17), .ref (r 18), .ref (r 19), .ref (r 20), .ref (r 21), .ref (r 22), .ref (r 23), .ref (r 24), .int 0, .int 0, .int 0, .int 0, .int 0, .ref (r 30), .ref (r 31), .ref (r 32), .ref (r 33), .int 0, .int 0])), (r 21, .inl (cZ, 3, .inl (fun _ => 0)))] := hD
  refine lv_iload_n hx hb dX6_back_5 rfl (lv_at hl 1 rfl) ?_
  refine lv_i2l (v := p0.toInt64) hx hb dX6_back_6 rfl ?_
  refine lv_lconst (v := 0) hx hb dX6_back_7 (by decide) ?_
  refine lv_ldc2 hx hb hown (hts (.constantLong RX6 403 (2)) (by decide +kernel)) dX6_back_8 ?_
  have hPc := hP.sub (ws' := []) [] rfl
  refine vp_callSi (va_Run.run (va_runS (As := [.long p0.toInt64, .long 0, .long 2]) (rest := []) ⟨hx, hb, hml, hown, hts⟩ (m_in l D cI cZ cB cJ cR p0.toInt64 0 2) (cwS 3 hts gX6_back_X6_in rfl rfl rfl (by decide +kernel) ⟨Nat.le_of_ble_eq_true rfl, Nat.le_of_ble_eq_true rfl⟩) ⟨fbS, pS_at hPc hk⟩ rfl rfl hl.1 rfl (lv_room (Nat.le_of_ble_eq_true rfl)) dX6_back_11 ⟨show 0 ≤ 0 by decide, show 0 ≤ 0 by decide⟩)) (fun r1 hr1 => ?_)
  rcases hr1 with ⟨rfl, g2, g3⟩ | ⟨rfl, g4⟩
  · skip
    refine lv_if_ne (tgt := 20) hx hb dX6_back_14 (by decide) (fun _ => ?_) (fun c9 => absurd c9 (by decide))
    rcases sp3 p0 (by simp only [lg_cmp_lt, lg_cmp_ge, lg_cmp_gt, lg_cmp_le, lg_cmp_eq, Int64.lt_iff_toInt_lt, Int64.le_iff_toInt_le, Int32.lt_iff_toInt_lt, Int32.le_iff_toInt_le, eqT32, eqT64, Int32.toInt_toInt64, Int64.reduceToInt, Int32.reduceToInt] at g2 g3; omega) with rfl | rfl | rfl
    · skip
      refine lv_aload_n hx hb dX6_back_20 rfl (lv_at hl 0 rfl) ?_
      refine va_get (D := D) (ci := 6) (v := .ref (r 21)) (C := RX6) (T := TX6) (N := 36) hx hb hts hi6 hown hK hP 0 rfl rfl 21 (by decide) (hts (.fieldLink RX6 46 "AlibiRotaModel" "isKept" "[Z") (by decide +kernel)) (fun _ h9 => h9) rfl dX6_back_21 ?_
      refine lv_iload_n hx hb dX6_back_24 rfl (lv_at hl 1 rfl) ?_
      refine va_zald hx hb hK hP 1 1 rfl rfl (inC 0 3 (by decide)) dX6_back_25 ?_
      refine lv_topi (fun v5 ev5 => ?_)
      obtain rfl : v5 = 0 := ev5
      refine lv_if_ne (tgt := 32) hx hb dX6_back_26 (by decide) (fun c9 => absurd (by decide) c9) (fun _ => ?_)
      refine lv_bipush (v := (-6)) hx hb dX6_back_29 (by decide) ?_
      exact W.iret (v := (-6)) hx hb hr (fun t ht _ => ⟨⟨(-6), (), rfl, (by (try unfold aBack); (try simp only [lg_cmp_lt, lg_cmp_ge, lg_cmp_gt, lg_cmp_le, lg_cmp_eq, Int64.lt_iff_toInt_lt, Int64.le_iff_toInt_le, Int32.lt_iff_toInt_lt, Int32.le_iff_toInt_le, eqT32, eqT64, Int32.toInt_toInt64, Int64.reduceToInt, Int32.reduceToInt]); (repeat' split) <;> first | rfl | (exfalso; omega) | omega | simp_all), trivial⟩, hS.F ht⟩) hS.2.2 dX6_back_31
    · skip
      refine lv_aload_n hx hb dX6_back_20 rfl (lv_at hl 0 rfl) ?_
      refine va_get (D := D) (ci := 6) (v := .ref (r 21)) (C := RX6) (T := TX6) (N := 36) hx hb hts hi6 hown hK hP 0 rfl rfl 21 (by decide) (hts (.fieldLink RX6 46 "AlibiRotaModel" "isKept" "[Z") (by decide +kernel)) (fun _ h9 => h9) rfl dX6_back_21 ?_
      refine lv_iload_n hx hb dX6_back_24 rfl (lv_at hl 1 rfl) ?_
      refine va_zald hx hb hK hP 1 1 rfl rfl (inC 1 3 (by decide)) dX6_back_25 ?_
      refine lv_topi (fun v6 ev6 => ?_)
      obtain rfl : v6 = 0 := ev6
      refine lv_if_ne (tgt := 32) hx hb dX6_back_26 (by decide) (fun c9 => absurd (by decide) c9) (fun _ => ?_)
      refine lv_bipush (v := (-6)) hx hb dX6_back_29 (by decide) ?_
      exact W.iret (v := (-6)) hx hb hr (fun t ht _ => ⟨⟨(-6), (), rfl, (by (try unfold aBack); (try simp only [lg_cmp_lt, lg_cmp_ge, lg_cmp_gt, lg_cmp_le, lg_cmp_eq, Int64.lt_iff_toInt_lt, Int64.le_iff_toInt_le, Int32.lt_iff_toInt_lt, Int32.le_iff_toInt_le, eqT32, eqT64, Int32.toInt_toInt64, Int64.reduceToInt, Int32.reduceToInt]); (repeat' split) <;> first | rfl | (exfalso; omega) | omega | simp_all), trivial⟩, hS.F ht⟩) hS.2.2 dX6_back_31
    · skip
      refine lv_aload_n hx hb dX6_back_20 rfl (lv_at hl 0 rfl) ?_
      refine va_get (D := D) (ci := 6) (v := .ref (r 21)) (C := RX6) (T := TX6) (N := 36) hx hb hts hi6 hown hK hP 0 rfl rfl 21 (by decide) (hts (.fieldLink RX6 46 "AlibiRotaModel" "isKept" "[Z") (by decide +kernel)) (fun _ h9 => h9) rfl dX6_back_21 ?_
      refine lv_iload_n hx hb dX6_back_24 rfl (lv_at hl 1 rfl) ?_
      refine va_zald hx hb hK hP 1 1 rfl rfl (inC 2 3 (by decide)) dX6_back_25 ?_
      refine lv_topi (fun v7 ev7 => ?_)
      obtain rfl : v7 = 0 := ev7
      refine lv_if_ne (tgt := 32) hx hb dX6_back_26 (by decide) (fun c9 => absurd (by decide) c9) (fun _ => ?_)
      refine lv_bipush (v := (-6)) hx hb dX6_back_29 (by decide) ?_
      exact W.iret (v := (-6)) hx hb hr (fun t ht _ => ⟨⟨(-6), (), rfl, (by (try unfold aBack); (try simp only [lg_cmp_lt, lg_cmp_ge, lg_cmp_gt, lg_cmp_le, lg_cmp_eq, Int64.lt_iff_toInt_lt, Int64.le_iff_toInt_le, Int32.lt_iff_toInt_lt, Int32.le_iff_toInt_le, eqT32, eqT64, Int32.toInt_toInt64, Int64.reduceToInt, Int32.reduceToInt]); (repeat' split) <;> first | rfl | (exfalso; omega) | omega | simp_all), trivial⟩, hS.F ht⟩) hS.2.2 dX6_back_31
  · skip
    refine lv_if_ne (tgt := 20) hx hb dX6_back_14 (by decide) (fun c9 => absurd (by decide) c9) (fun _ => ?_)
    refine lv_bipush (v := (-2)) hx hb dX6_back_17 (by decide) ?_
    exact W.iret (v := (-2)) hx hb hr (fun t ht _ => ⟨⟨(-2), (), rfl, (by (try simp only [lg_cmp_lt, lg_cmp_ge, lg_cmp_gt, lg_cmp_le, lg_cmp_eq, Int64.lt_iff_toInt_lt, Int64.le_iff_toInt_le, Int32.lt_iff_toInt_lt, Int32.le_iff_toInt_le, eqT32, eqT64, Int32.toInt_toInt64, Int64.reduceToInt, Int32.reduceToInt] at g4); (try unfold aBack); (try simp only [lg_cmp_lt, lg_cmp_ge, lg_cmp_gt, lg_cmp_le, lg_cmp_eq, Int64.lt_iff_toInt_lt, Int64.le_iff_toInt_le, Int32.lt_iff_toInt_lt, Int32.le_iff_toInt_le, eqT32, eqT64, Int32.toInt_toInt64, Int64.reduceToInt, Int32.reduceToInt]); (repeat' split) <;> first | rfl | (exfalso; omega) | omega | simp_all), trivial⟩, hS.F ht⟩) hS.2.2 dX6_back_19

set_option maxHeartbeats 4000000 in
set_option maxRecDepth 100000 in
theorem mx_write (l : Launch) (D : va_G) (cI cZ cB cJ cR : ClassId) (h : Nat) (r : Nat → Nat) (sz : Nat) (fw : Nat → Int32) (hw : ∀ k, k < 4 → fw k = -1) (p0 p1 : Int32) (p2 : Int64) : Met l yX6_write wsX6_write ({ frames := 2, cells := 0, slots := 0, locals := 45 }) (va_Pc [.ref h, .int p0, .int p1, .long p2] (pQ D cI cZ cB cJ cR [(h, .inr (6, [.int 0, .ref (r 1), .ref (r 2), .ref (r 3), .ref (r 4), .ref (r 5), .int 0, .int 0, .int 0, .int 0, .int 0, .long 0, .int 0, .int 0, .int 0, .int (-1), .ref (r 16), .ref (r 17), .ref (r 18), .ref (r 19), .ref (r 20), .ref (r 21), .ref (r 22), .ref (r 23), .ref (r 24), .int 0, .int 0, .int 0, .int 0, .int 0, .ref (r 30), .ref (r 31), .ref (r 32), .ref (r 33), .int 0, .int 0])), (r 1, .inl (cI, 4, .inl fw))] sz)) (va_Qi (fun (r : Int32) (_ : Unit) => r = aWrite p0) (fun (_ : Unit) _ => True) (va_A [(h, .inr (6, [.int 0, .ref (r 1), .ref (r 2), .ref (r 3), .ref (r 4), .ref (r 5), .int 0, .int 0, .int 0, .int 0, .int 0, .long 0, .int 0, .int 0, .int 0, .int (-1), .ref (r 16), .ref (r 17), .ref (r 18), .ref (r 19), .ref (r 20), .ref (r 21), .ref (r 22), .ref (r 23), .ref (r 24), .int 0, .int 0, .int 0, .int 0, .int 0, .ref (r 30), .ref (r 31), .ref (r 32), .ref (r 33), .int 0, .int 0])), (r 1, .inl (cI, 4, .inl fw))] sz)) 0 0 (va_A [(h, .inr (6, [.int 0, .ref (r 1), .ref (r 2), .ref (r 3), .ref (r 4), .ref (r 5), .int 0, .int 0, .int 0, .int 0, .int 0, .long 0, .int 0, .int 0, .int 0, .int (-1), .ref (r 16), .ref (r 17), .ref (r 18), .ref (r 19), .ref (r 20), .ref (r 21), .ref (r 22), .ref (r 23), .ref (r 24), .int 0, .int 0, .int 0, .int 0, .int 0, .ref (r 30), .ref (r 31), .ref (r 32), .ref (r 33), .int 0, .int 0])), (r 1, .inl (cI, 4, .inl fw))] sz) := by
  refine Met.ofW (cc := cX6_write) (maxL := 5) (ret := (some .int)) (by decide) rfl ?_
  intro p e s m args below meth c s₁ B hml hv
  obtain ⟨rfl, hsz, hP, hk, hD0⟩ := hv
  have hK := hk.1
  have hz := hk.2.1
  have hx := B.exec
  have hb := B.bytes
  have hr := B.returns
  have hts := atoms_spec (ws := wsX6_write) B.pre
  have hown : s.vm.findClass RX6 = some m.cls := findClass_of_methodNamed B.named
  have hlocks := B.notSynchronized
  have hi6 : ∀ w ∈ wsX60, w ∈ wsX6_write := by decide +kernel
  subst hsz
  have hD := hD0.self (sz := s.heap.size)
  generalize hAe : va_A [(h, .inr (6, [.int 0, .ref (r 1), .ref (r 2), .ref (r 3), .ref (r 4), .ref (r 5), .int 0, .int 0, .int 0, .int 0, .int 0, .long 0, .int 0, .int 0, .int 0, .int (-1), .ref (r 16), .ref (r 17), .ref (r 18), .ref (r 19), .ref (r 20), .ref (r 21), .ref (r 22), .ref (r 23), .ref (r 24), .int 0, .int 0, .int 0, .int 0, .int 0, .ref (r 30), .ref (r 31), .ref (r 32), .ref (r 33), .int 0, .int 0])), (r 1, .inl (cI, 4, .inl fw))] s.heap.size = A at hD ⊢
  have hA : ∀ q : Nat, s.heap.size ≤ q → A q := fun q h => by rw [← hAe]; exact Or.inr h
  have hS : va_S A s.heap s.heap [] := va_S.rf
  have hP : va_P D vwCl [(h, .inr (6, [.int 0, .ref (r 1), .ref (r 2), .ref (r 3), .ref (r 4), .ref (r 5), .int 0, .int 0, .int 0, .int 0, .int 0, .long 0, .int 0, .int 0, .int 0, .int (-1), .ref (r 16), .ref (r 17), .ref (r 18), .ref (r 19), .ref (r 20), .ref (r 21), .ref (r 22), .ref (r 23), .ref (r 24), .int 0, .int 0, .int 0, .int 0, .int 0, .ref (r 30), .ref (r 31), .ref (r 32), .ref (r 33), .int 0, .int 0])), (r 1, .inl (cI, 4, .inl fw))] s.heap := hP
  have hl := lv_entry ([.ref h, .int p0, .int p1, .long p2]) (n := 5) (Nat.le_of_ble_eq_true rfl)
  rw [lg_entry_eq]
  generalize (lg_sl ([.ref h, .int p0, .int p1, .long p2]) ++ List.replicate (5 - (lg_sl ([.ref h, .int p0, .int p1, .long p2])).length) Slot.unset).toArray = ls at hl ⊢
  have hl : lv_has ls 5 [(0, .ref h), (1, .int p0), (2, .int p1), (3, .long p2)] := hl
  refine lv_aload_n hx hb dX6_write_0 rfl (lv_at hl 0 rfl) ?_
  refine lv_iconst (v := 0) hx hb dX6_write_1 (by decide) ?_
  refine va_put (D := D) (ci := 6) (v := .int 0) (ty := .int) (C := RX6) (T := TX6) (N := 36) hx hb hts hi6 tyX6 tyX6_ok nmX6 hown hK hP hD hS 0 rfl rfl 0 (by decide) (hts (.fieldLink RX6 71 "AlibiRotaModel" "thrown" "I") (by decide +kernel)) (fun _ h9 => h9) rfl (by decide +kernel) rfl rfl (Nat.le_of_ble_eq_true rfl) dX6_write_2 (fun H locs hP hD hS => ?_)
  have hP : va_P D vwCl [(h, .inr (6, [.int 0, .ref (r 1), .ref (r 2), .ref (r 3), .ref (r 4), .ref (r 5), .int 0, .int 0, .int 0, .int 0, .int 0, .long 0, .int 0, .int 0, .int 0, .int (-1), .ref (r 16), .ref (r 17), .ref (r 18), .ref (r 19), .ref (r 20), .ref (r 21), .ref (r 22), .ref (r 23), .ref (r 24), .int 0, .int 0, .int 0, .int 0, .int 0, .ref (r 30), .ref (r 31), .ref (r 32), .ref (r 33), .int 0, .int 0])), (r 1, .inl (cI, 4, .inl fw))] H := hP
  have hD : va_D A [(h, .inr (6, [.int 0, .ref (r 1), .ref (r 2), .ref (r 3), .ref (r 4), .ref (r 5), .int 0, .int 0, .int 0, .int 0, .int 0, .long 0, .int 0, .int 0, .int 0, .int (-1), .ref (r 16), .ref (r 17), .ref (r 18), .ref (r 19), .ref (r 20), .ref (r 21), .ref (r 22), .ref (r 23), .ref (r 24), .int 0, .int 0, .int 0, .int 0, .int 0, .ref (r 30), .ref (r 31), .ref (r 32), .ref (r 33), .int 0, .int 0])), (r 1, .inl (cI, 4, .inl fw))] := hD
  refine lv_iload_n hx hb dX6_write_5 rfl (lv_at hl 1 rfl) ?_
  have hPc := hP.sub (ws' := []) [] rfl
  refine vp_callSi (va_Run.run (va_runS (As := [.int p0]) (rest := []) ⟨hx, hb, hml, hown, hts⟩ (m_isSlot l D cI cZ cB cJ cR p0) (cwS 1 hts gX6_write_X6_isSlot rfl rfl rfl (by decide +kernel) ⟨Nat.le_of_ble_eq_true rfl, Nat.le_of_ble_eq_true rfl⟩) ⟨fbS, pS_at hPc hk⟩ rfl rfl hl.1 rfl (lv_room (Nat.le_of_ble_eq_true rfl)) dX6_write_6 ⟨show 0 ≤ 0 by decide, show 0 ≤ 0 by decide⟩)) (fun r1 hr1 => ?_)
  rcases hr1 with ⟨rfl, g2, g3⟩ | ⟨rfl, g4⟩
  · skip
    refine lv_if_ne (tgt := 15) hx hb dX6_write_9 (by decide) (fun _ => ?_) (fun c9 => absurd c9 (by decide))
    rcases sp4 p0 (by simp only [lg_cmp_lt, lg_cmp_ge, lg_cmp_gt, lg_cmp_le, lg_cmp_eq, Int64.lt_iff_toInt_lt, Int64.le_iff_toInt_le, Int32.lt_iff_toInt_lt, Int32.le_iff_toInt_le, eqT32, eqT64, Int32.toInt_toInt64, Int64.reduceToInt, Int32.reduceToInt] at g2 g3; omega) with rfl | rfl | rfl | rfl
    · skip
      refine lv_aload_n hx hb dX6_write_15 rfl (lv_at hl 0 rfl) ?_
      refine va_get (D := D) (ci := 6) (v := .ref (r 1)) (C := RX6) (T := TX6) (N := 36) hx hb hts hi6 hown hK hP 0 rfl rfl 1 (by decide) (hts (.fieldLink RX6 7 "AlibiRotaModel" "width" "[I") (by decide +kernel)) (fun _ h9 => h9) rfl dX6_write_16 ?_
      refine lv_iload_n hx hb dX6_write_19 rfl (lv_at hl 1 rfl) ?_
      refine va_iald hx hb hK hP 1 0 rfl rfl (inC 0 4 (by decide)) dX6_write_20 ?_
      refine lv_topi (fun v5 ev5 => ?_)
      obtain rfl : v5 = (-1) := ev5.trans (hw 0 (by decide))
      refine lv_iconst (v := (-1)) hx hb dX6_write_21 (by decide) ?_
      refine lv_icmp_ne (tgt := 28) hx hb dX6_write_22 (by decide) (fun c9 => absurd (by decide) c9) (fun _ => ?_)
      refine lv_bipush (v := (-6)) hx hb dX6_write_25 (by decide) ?_
      exact W.iret (v := (-6)) hx hb hr (fun t ht _ => ⟨⟨(-6), (), rfl, (by (try unfold aWrite); (try simp only [lg_cmp_lt, lg_cmp_ge, lg_cmp_gt, lg_cmp_le, lg_cmp_eq, Int64.lt_iff_toInt_lt, Int64.le_iff_toInt_le, Int32.lt_iff_toInt_lt, Int32.le_iff_toInt_le, eqT32, eqT64, Int32.toInt_toInt64, Int64.reduceToInt, Int32.reduceToInt]); (repeat' split) <;> first | rfl | (exfalso; omega) | omega | simp_all), trivial⟩, hS.F ht⟩) hS.2.2 dX6_write_27
    · skip
      refine lv_aload_n hx hb dX6_write_15 rfl (lv_at hl 0 rfl) ?_
      refine va_get (D := D) (ci := 6) (v := .ref (r 1)) (C := RX6) (T := TX6) (N := 36) hx hb hts hi6 hown hK hP 0 rfl rfl 1 (by decide) (hts (.fieldLink RX6 7 "AlibiRotaModel" "width" "[I") (by decide +kernel)) (fun _ h9 => h9) rfl dX6_write_16 ?_
      refine lv_iload_n hx hb dX6_write_19 rfl (lv_at hl 1 rfl) ?_
      refine va_iald hx hb hK hP 1 0 rfl rfl (inC 1 4 (by decide)) dX6_write_20 ?_
      refine lv_topi (fun v6 ev6 => ?_)
      obtain rfl : v6 = (-1) := ev6.trans (hw 1 (by decide))
      refine lv_iconst (v := (-1)) hx hb dX6_write_21 (by decide) ?_
      refine lv_icmp_ne (tgt := 28) hx hb dX6_write_22 (by decide) (fun c9 => absurd (by decide) c9) (fun _ => ?_)
      refine lv_bipush (v := (-6)) hx hb dX6_write_25 (by decide) ?_
      exact W.iret (v := (-6)) hx hb hr (fun t ht _ => ⟨⟨(-6), (), rfl, (by (try unfold aWrite); (try simp only [lg_cmp_lt, lg_cmp_ge, lg_cmp_gt, lg_cmp_le, lg_cmp_eq, Int64.lt_iff_toInt_lt, Int64.le_iff_toInt_le, Int32.lt_iff_toInt_lt, Int32.le_iff_toInt_le, eqT32, eqT64, Int32.toInt_toInt64, Int64.reduceToInt, Int32.reduceToInt]); (repeat' split) <;> first | rfl | (exfalso; omega) | omega | simp_all), trivial⟩, hS.F ht⟩) hS.2.2 dX6_write_27
    · skip
      refine lv_aload_n hx hb dX6_write_15 rfl (lv_at hl 0 rfl) ?_
      refine va_get (D := D) (ci := 6) (v := .ref (r 1)) (C := RX6) (T := TX6) (N := 36) hx hb hts hi6 hown hK hP 0 rfl rfl 1 (by decide) (hts (.fieldLink RX6 7 "AlibiRotaModel" "width" "[I") (by decide +kernel)) (fun _ h9 => h9) rfl dX6_write_16 ?_
      refine lv_iload_n hx hb dX6_write_19 rfl (lv_at hl 1 rfl) ?_
      refine va_iald hx hb hK hP 1 0 rfl rfl (inC 2 4 (by decide)) dX6_write_20 ?_
      refine lv_topi (fun v7 ev7 => ?_)
      obtain rfl : v7 = (-1) := ev7.trans (hw 2 (by decide))
      refine lv_iconst (v := (-1)) hx hb dX6_write_21 (by decide) ?_
      refine lv_icmp_ne (tgt := 28) hx hb dX6_write_22 (by decide) (fun c9 => absurd (by decide) c9) (fun _ => ?_)
      refine lv_bipush (v := (-6)) hx hb dX6_write_25 (by decide) ?_
      exact W.iret (v := (-6)) hx hb hr (fun t ht _ => ⟨⟨(-6), (), rfl, (by (try unfold aWrite); (try simp only [lg_cmp_lt, lg_cmp_ge, lg_cmp_gt, lg_cmp_le, lg_cmp_eq, Int64.lt_iff_toInt_lt, Int64.le_iff_toInt_le, Int32.lt_iff_toInt_lt, Int32.le_iff_toInt_le, eqT32, eqT64, Int32.toInt_toInt64, Int64.reduceToInt, Int32.reduceToInt]); (repeat' split) <;> first | rfl | (exfalso; omega) | omega | simp_all), trivial⟩, hS.F ht⟩) hS.2.2 dX6_write_27
    · skip
      refine lv_aload_n hx hb dX6_write_15 rfl (lv_at hl 0 rfl) ?_
      refine va_get (D := D) (ci := 6) (v := .ref (r 1)) (C := RX6) (T := TX6) (N := 36) hx hb hts hi6 hown hK hP 0 rfl rfl 1 (by decide) (hts (.fieldLink RX6 7 "AlibiRotaModel" "width" "[I") (by decide +kernel)) (fun _ h9 => h9) rfl dX6_write_16 ?_
      refine lv_iload_n hx hb dX6_write_19 rfl (lv_at hl 1 rfl) ?_
      refine va_iald hx hb hK hP 1 0 rfl rfl (inC 3 4 (by decide)) dX6_write_20 ?_
      refine lv_topi (fun v8 ev8 => ?_)
      obtain rfl : v8 = (-1) := ev8.trans (hw 3 (by decide))
      refine lv_iconst (v := (-1)) hx hb dX6_write_21 (by decide) ?_
      refine lv_icmp_ne (tgt := 28) hx hb dX6_write_22 (by decide) (fun c9 => absurd (by decide) c9) (fun _ => ?_)
      refine lv_bipush (v := (-6)) hx hb dX6_write_25 (by decide) ?_
      exact W.iret (v := (-6)) hx hb hr (fun t ht _ => ⟨⟨(-6), (), rfl, (by (try unfold aWrite); (try simp only [lg_cmp_lt, lg_cmp_ge, lg_cmp_gt, lg_cmp_le, lg_cmp_eq, Int64.lt_iff_toInt_lt, Int64.le_iff_toInt_le, Int32.lt_iff_toInt_lt, Int32.le_iff_toInt_le, eqT32, eqT64, Int32.toInt_toInt64, Int64.reduceToInt, Int32.reduceToInt]); (repeat' split) <;> first | rfl | (exfalso; omega) | omega | simp_all), trivial⟩, hS.F ht⟩) hS.2.2 dX6_write_27
  · skip
    refine lv_if_ne (tgt := 15) hx hb dX6_write_9 (by decide) (fun c9 => absurd (by decide) c9) (fun _ => ?_)
    refine lv_bipush (v := (-2)) hx hb dX6_write_12 (by decide) ?_
    exact W.iret (v := (-2)) hx hb hr (fun t ht _ => ⟨⟨(-2), (), rfl, (by (try simp only [lg_cmp_lt, lg_cmp_ge, lg_cmp_gt, lg_cmp_le, lg_cmp_eq, Int64.lt_iff_toInt_lt, Int64.le_iff_toInt_le, Int32.lt_iff_toInt_lt, Int32.le_iff_toInt_le, eqT32, eqT64, Int32.toInt_toInt64, Int64.reduceToInt, Int32.reduceToInt] at g4); (try unfold aWrite); (try simp only [lg_cmp_lt, lg_cmp_ge, lg_cmp_gt, lg_cmp_le, lg_cmp_eq, Int64.lt_iff_toInt_lt, Int64.le_iff_toInt_le, Int32.lt_iff_toInt_lt, Int32.le_iff_toInt_le, eqT32, eqT64, Int32.toInt_toInt64, Int64.reduceToInt, Int32.reduceToInt]); (repeat' split) <;> first | rfl | (exfalso; omega) | omega | simp_all), trivial⟩, hS.F ht⟩) hS.2.2 dX6_write_14

set_option maxHeartbeats 4000000 in
set_option maxRecDepth 100000 in
theorem mx_paste (l : Launch) (D : va_G) (cI cZ cB cJ cR : ClassId) (h : Nat) (r : Nat → Nat) (sz : Nat) (fw : Nat → Int32) (hw : ∀ k, k < 4 → fw k = -1) (p0 p1 p2 p3 p4 : Int32) : Met l yX6_paste wsX6_paste ({ frames := 2, cells := 0, slots := 0, locals := 45 }) (va_Pc [.ref h, .int p0, .int p1, .int p2, .int p3, .int p4] (pQ D cI cZ cB cJ cR [(h, .inr (6, [.int 0, .ref (r 1), .ref (r 2), .ref (r 3), .ref (r 4), .ref (r 5), .int 0, .int 0, .int 0, .int 0, .int 0, .long 0, .int 0, .int 0, .int 0, .int (-1), .ref (r 16), .ref (r 17), .ref (r 18), .ref (r 19), .ref (r 20), .ref (r 21), .ref (r 22), .ref (r 23), .ref (r 24), .int 0, .int 0, .int 0, .int 0, .int 0, .ref (r 30), .ref (r 31), .ref (r 32), .ref (r 33), .int 0, .int 0])), (r 1, .inl (cI, 4, .inl fw))] sz)) (va_Qi (fun (r : Int32) (_ : Unit) => r = aPaste p0 p2) (fun (_ : Unit) _ => True) (va_A [(h, .inr (6, [.int 0, .ref (r 1), .ref (r 2), .ref (r 3), .ref (r 4), .ref (r 5), .int 0, .int 0, .int 0, .int 0, .int 0, .long 0, .int 0, .int 0, .int 0, .int (-1), .ref (r 16), .ref (r 17), .ref (r 18), .ref (r 19), .ref (r 20), .ref (r 21), .ref (r 22), .ref (r 23), .ref (r 24), .int 0, .int 0, .int 0, .int 0, .int 0, .ref (r 30), .ref (r 31), .ref (r 32), .ref (r 33), .int 0, .int 0])), (r 1, .inl (cI, 4, .inl fw))] sz)) 0 0 (va_A [(h, .inr (6, [.int 0, .ref (r 1), .ref (r 2), .ref (r 3), .ref (r 4), .ref (r 5), .int 0, .int 0, .int 0, .int 0, .int 0, .long 0, .int 0, .int 0, .int 0, .int (-1), .ref (r 16), .ref (r 17), .ref (r 18), .ref (r 19), .ref (r 20), .ref (r 21), .ref (r 22), .ref (r 23), .ref (r 24), .int 0, .int 0, .int 0, .int 0, .int 0, .ref (r 30), .ref (r 31), .ref (r 32), .ref (r 33), .int 0, .int 0])), (r 1, .inl (cI, 4, .inl fw))] sz) := by
  refine Met.ofW (cc := cX6_paste) (maxL := 7) (ret := (some .int)) (by decide) rfl ?_
  intro p e s m args below meth c s₁ B hml hv
  obtain ⟨rfl, hsz, hP, hk, hD0⟩ := hv
  have hK := hk.1
  have hz := hk.2.1
  have hx := B.exec
  have hb := B.bytes
  have hr := B.returns
  have hts := atoms_spec (ws := wsX6_paste) B.pre
  have hown : s.vm.findClass RX6 = some m.cls := findClass_of_methodNamed B.named
  have hlocks := B.notSynchronized
  have hi6 : ∀ w ∈ wsX60, w ∈ wsX6_paste := by decide +kernel
  subst hsz
  have hD := hD0.self (sz := s.heap.size)
  generalize hAe : va_A [(h, .inr (6, [.int 0, .ref (r 1), .ref (r 2), .ref (r 3), .ref (r 4), .ref (r 5), .int 0, .int 0, .int 0, .int 0, .int 0, .long 0, .int 0, .int 0, .int 0, .int (-1), .ref (r 16), .ref (r 17), .ref (r 18), .ref (r 19), .ref (r 20), .ref (r 21), .ref (r 22), .ref (r 23), .ref (r 24), .int 0, .int 0, .int 0, .int 0, .int 0, .ref (r 30), .ref (r 31), .ref (r 32), .ref (r 33), .int 0, .int 0])), (r 1, .inl (cI, 4, .inl fw))] s.heap.size = A at hD ⊢
  have hA : ∀ q : Nat, s.heap.size ≤ q → A q := fun q h => by rw [← hAe]; exact Or.inr h
  have hS : va_S A s.heap s.heap [] := va_S.rf
  have hP : va_P D vwCl [(h, .inr (6, [.int 0, .ref (r 1), .ref (r 2), .ref (r 3), .ref (r 4), .ref (r 5), .int 0, .int 0, .int 0, .int 0, .int 0, .long 0, .int 0, .int 0, .int 0, .int (-1), .ref (r 16), .ref (r 17), .ref (r 18), .ref (r 19), .ref (r 20), .ref (r 21), .ref (r 22), .ref (r 23), .ref (r 24), .int 0, .int 0, .int 0, .int 0, .int 0, .ref (r 30), .ref (r 31), .ref (r 32), .ref (r 33), .int 0, .int 0])), (r 1, .inl (cI, 4, .inl fw))] s.heap := hP
  have hl := lv_entry ([.ref h, .int p0, .int p1, .int p2, .int p3, .int p4]) (n := 7) (Nat.le_of_ble_eq_true rfl)
  rw [lg_entry_eq]
  generalize (lg_sl ([.ref h, .int p0, .int p1, .int p2, .int p3, .int p4]) ++ List.replicate (7 - (lg_sl ([.ref h, .int p0, .int p1, .int p2, .int p3, .int p4])).length) Slot.unset).toArray = ls at hl ⊢
  have hl : lv_has ls 7 [(0, .ref h), (1, .int p0), (2, .int p1), (3, .int p2), (4, .int p3), (5, .int p4)] := hl
  refine lv_aload_n hx hb dX6_paste_0 rfl (lv_at hl 0 rfl) ?_
  refine lv_iconst (v := 0) hx hb dX6_paste_1 (by decide) ?_
  refine va_put (D := D) (ci := 6) (v := .int 0) (ty := .int) (C := RX6) (T := TX6) (N := 36) hx hb hts hi6 tyX6 tyX6_ok nmX6 hown hK hP hD hS 0 rfl rfl 0 (by decide) (hts (.fieldLink RX6 71 "AlibiRotaModel" "thrown" "I") (by decide +kernel)) (fun _ h9 => h9) rfl (by decide +kernel) rfl rfl (Nat.le_of_ble_eq_true rfl) dX6_paste_2 (fun H locs hP hD hS => ?_)
  have hP : va_P D vwCl [(h, .inr (6, [.int 0, .ref (r 1), .ref (r 2), .ref (r 3), .ref (r 4), .ref (r 5), .int 0, .int 0, .int 0, .int 0, .int 0, .long 0, .int 0, .int 0, .int 0, .int (-1), .ref (r 16), .ref (r 17), .ref (r 18), .ref (r 19), .ref (r 20), .ref (r 21), .ref (r 22), .ref (r 23), .ref (r 24), .int 0, .int 0, .int 0, .int 0, .int 0, .ref (r 30), .ref (r 31), .ref (r 32), .ref (r 33), .int 0, .int 0])), (r 1, .inl (cI, 4, .inl fw))] H := hP
  have hD : va_D A [(h, .inr (6, [.int 0, .ref (r 1), .ref (r 2), .ref (r 3), .ref (r 4), .ref (r 5), .int 0, .int 0, .int 0, .int 0, .int 0, .long 0, .int 0, .int 0, .int 0, .int (-1), .ref (r 16), .ref (r 17), .ref (r 18), .ref (r 19), .ref (r 20), .ref (r 21), .ref (r 22), .ref (r 23), .ref (r 24), .int 0, .int 0, .int 0, .int 0, .int 0, .ref (r 30), .ref (r 31), .ref (r 32), .ref (r 33), .int 0, .int 0])), (r 1, .inl (cI, 4, .inl fw))] := hD
  refine lv_iload_n hx hb dX6_paste_5 rfl (lv_at hl 1 rfl) ?_
  have hPc := hP.sub (ws' := []) [] rfl
  refine vp_callSi (va_Run.run (va_runS (As := [.int p0]) (rest := []) ⟨hx, hb, hml, hown, hts⟩ (m_isSlot l D cI cZ cB cJ cR p0) (cwS 1 hts gX6_paste_X6_isSlot rfl rfl rfl (by decide +kernel) ⟨Nat.le_of_ble_eq_true rfl, Nat.le_of_ble_eq_true rfl⟩) ⟨fbS, pS_at hPc hk⟩ rfl rfl hl.1 rfl (lv_room (Nat.le_of_ble_eq_true rfl)) dX6_paste_6 ⟨show 0 ≤ 0 by decide, show 0 ≤ 0 by decide⟩)) (fun r1 hr1 => ?_)
  rcases hr1 with ⟨rfl, g2, g3⟩ | ⟨rfl, g4⟩
  · skip
    refine lv_if_eq (tgt := 19) hx hb dX6_paste_9 (by decide) (fun c9 => absurd c9 (by decide)) (fun _ => ?_)
    refine lv_iload_n hx hb dX6_paste_12 rfl (lv_at hl 3 rfl) ?_
    have hPc := hP.sub (ws' := []) [] rfl
    refine vp_callSi (va_Run.run (va_runS (As := [.int p2]) (rest := []) ⟨hx, hb, hml, hown, hts⟩ (m_isSlot l D cI cZ cB cJ cR p2) (cwS 1 hts gX6_paste_X6_isSlot rfl rfl rfl (by decide +kernel) ⟨Nat.le_of_ble_eq_true rfl, Nat.le_of_ble_eq_true rfl⟩) ⟨fbS, pS_at hPc hk⟩ rfl rfl hl.1 rfl (lv_room (Nat.le_of_ble_eq_true rfl)) dX6_paste_13 ⟨show 0 ≤ 0 by decide, show 0 ≤ 0 by decide⟩)) (fun r5 hr5 => ?_)
    rcases hr5 with ⟨rfl, g6, g7⟩ | ⟨rfl, g8⟩
    · skip
      refine lv_if_ne (tgt := 22) hx hb dX6_paste_16 (by decide) (fun _ => ?_) (fun c9 => absurd c9 (by decide))
      rcases sp4 p0 (by simp only [lg_cmp_lt, lg_cmp_ge, lg_cmp_gt, lg_cmp_le, lg_cmp_eq, Int64.lt_iff_toInt_lt, Int64.le_iff_toInt_le, Int32.lt_iff_toInt_lt, Int32.le_iff_toInt_le, eqT32, eqT64, Int32.toInt_toInt64, Int64.reduceToInt, Int32.reduceToInt] at g2 g3; omega) with rfl | rfl | rfl | rfl
      · skip
        refine lv_aload_n hx hb dX6_paste_22 rfl (lv_at hl 0 rfl) ?_
        refine va_get (D := D) (ci := 6) (v := .ref (r 1)) (C := RX6) (T := TX6) (N := 36) hx hb hts hi6 hown hK hP 0 rfl rfl 1 (by decide) (hts (.fieldLink RX6 7 "AlibiRotaModel" "width" "[I") (by decide +kernel)) (fun _ h9 => h9) rfl dX6_paste_23 ?_
        refine lv_iload_n hx hb dX6_paste_26 rfl (lv_at hl 1 rfl) ?_
        refine va_iald hx hb hK hP 1 0 rfl rfl (inC 0 4 (by decide)) dX6_paste_27 ?_
        refine lv_topi (fun v9 ev9 => ?_)
        obtain rfl : v9 = (-1) := ev9.trans (hw 0 (by decide))
        refine lv_iconst (v := (-1)) hx hb dX6_paste_28 (by decide) ?_
        refine lv_icmp_eq (tgt := 42) hx hb dX6_paste_29 (by decide) (fun _ => ?_) (fun c9 => absurd (by decide) c9)
        refine lv_bipush (v := (-6)) hx hb dX6_paste_42 (by decide) ?_
        exact W.iret (v := (-6)) hx hb hr (fun t ht _ => ⟨⟨(-6), (), rfl, (by (try simp only [lg_cmp_lt, lg_cmp_ge, lg_cmp_gt, lg_cmp_le, lg_cmp_eq, Int64.lt_iff_toInt_lt, Int64.le_iff_toInt_le, Int32.lt_iff_toInt_lt, Int32.le_iff_toInt_le, eqT32, eqT64, Int32.toInt_toInt64, Int64.reduceToInt, Int32.reduceToInt] at g6); (try simp only [lg_cmp_lt, lg_cmp_ge, lg_cmp_gt, lg_cmp_le, lg_cmp_eq, Int64.lt_iff_toInt_lt, Int64.le_iff_toInt_le, Int32.lt_iff_toInt_lt, Int32.le_iff_toInt_le, eqT32, eqT64, Int32.toInt_toInt64, Int64.reduceToInt, Int32.reduceToInt] at g7); (try unfold aPaste); (try simp only [lg_cmp_lt, lg_cmp_ge, lg_cmp_gt, lg_cmp_le, lg_cmp_eq, Int64.lt_iff_toInt_lt, Int64.le_iff_toInt_le, Int32.lt_iff_toInt_lt, Int32.le_iff_toInt_le, eqT32, eqT64, Int32.toInt_toInt64, Int64.reduceToInt, Int32.reduceToInt]); (repeat' split) <;> first | rfl | (exfalso; omega) | omega | simp_all), trivial⟩, hS.F ht⟩) hS.2.2 dX6_paste_44
      · skip
        refine lv_aload_n hx hb dX6_paste_22 rfl (lv_at hl 0 rfl) ?_
        refine va_get (D := D) (ci := 6) (v := .ref (r 1)) (C := RX6) (T := TX6) (N := 36) hx hb hts hi6 hown hK hP 0 rfl rfl 1 (by decide) (hts (.fieldLink RX6 7 "AlibiRotaModel" "width" "[I") (by decide +kernel)) (fun _ h9 => h9) rfl dX6_paste_23 ?_
        refine lv_iload_n hx hb dX6_paste_26 rfl (lv_at hl 1 rfl) ?_
        refine va_iald hx hb hK hP 1 0 rfl rfl (inC 1 4 (by decide)) dX6_paste_27 ?_
        refine lv_topi (fun v10 ev10 => ?_)
        obtain rfl : v10 = (-1) := ev10.trans (hw 1 (by decide))
        refine lv_iconst (v := (-1)) hx hb dX6_paste_28 (by decide) ?_
        refine lv_icmp_eq (tgt := 42) hx hb dX6_paste_29 (by decide) (fun _ => ?_) (fun c9 => absurd (by decide) c9)
        refine lv_bipush (v := (-6)) hx hb dX6_paste_42 (by decide) ?_
        exact W.iret (v := (-6)) hx hb hr (fun t ht _ => ⟨⟨(-6), (), rfl, (by (try simp only [lg_cmp_lt, lg_cmp_ge, lg_cmp_gt, lg_cmp_le, lg_cmp_eq, Int64.lt_iff_toInt_lt, Int64.le_iff_toInt_le, Int32.lt_iff_toInt_lt, Int32.le_iff_toInt_le, eqT32, eqT64, Int32.toInt_toInt64, Int64.reduceToInt, Int32.reduceToInt] at g6); (try simp only [lg_cmp_lt, lg_cmp_ge, lg_cmp_gt, lg_cmp_le, lg_cmp_eq, Int64.lt_iff_toInt_lt, Int64.le_iff_toInt_le, Int32.lt_iff_toInt_lt, Int32.le_iff_toInt_le, eqT32, eqT64, Int32.toInt_toInt64, Int64.reduceToInt, Int32.reduceToInt] at g7); (try unfold aPaste); (try simp only [lg_cmp_lt, lg_cmp_ge, lg_cmp_gt, lg_cmp_le, lg_cmp_eq, Int64.lt_iff_toInt_lt, Int64.le_iff_toInt_le, Int32.lt_iff_toInt_lt, Int32.le_iff_toInt_le, eqT32, eqT64, Int32.toInt_toInt64, Int64.reduceToInt, Int32.reduceToInt]); (repeat' split) <;> first | rfl | (exfalso; omega) | omega | simp_all), trivial⟩, hS.F ht⟩) hS.2.2 dX6_paste_44
      · skip
        refine lv_aload_n hx hb dX6_paste_22 rfl (lv_at hl 0 rfl) ?_
        refine va_get (D := D) (ci := 6) (v := .ref (r 1)) (C := RX6) (T := TX6) (N := 36) hx hb hts hi6 hown hK hP 0 rfl rfl 1 (by decide) (hts (.fieldLink RX6 7 "AlibiRotaModel" "width" "[I") (by decide +kernel)) (fun _ h9 => h9) rfl dX6_paste_23 ?_
        refine lv_iload_n hx hb dX6_paste_26 rfl (lv_at hl 1 rfl) ?_
        refine va_iald hx hb hK hP 1 0 rfl rfl (inC 2 4 (by decide)) dX6_paste_27 ?_
        refine lv_topi (fun v11 ev11 => ?_)
        obtain rfl : v11 = (-1) := ev11.trans (hw 2 (by decide))
        refine lv_iconst (v := (-1)) hx hb dX6_paste_28 (by decide) ?_
        refine lv_icmp_eq (tgt := 42) hx hb dX6_paste_29 (by decide) (fun _ => ?_) (fun c9 => absurd (by decide) c9)
        refine lv_bipush (v := (-6)) hx hb dX6_paste_42 (by decide) ?_
        exact W.iret (v := (-6)) hx hb hr (fun t ht _ => ⟨⟨(-6), (), rfl, (by (try simp only [lg_cmp_lt, lg_cmp_ge, lg_cmp_gt, lg_cmp_le, lg_cmp_eq, Int64.lt_iff_toInt_lt, Int64.le_iff_toInt_le, Int32.lt_iff_toInt_lt, Int32.le_iff_toInt_le, eqT32, eqT64, Int32.toInt_toInt64, Int64.reduceToInt, Int32.reduceToInt] at g6); (try simp only [lg_cmp_lt, lg_cmp_ge, lg_cmp_gt, lg_cmp_le, lg_cmp_eq, Int64.lt_iff_toInt_lt, Int64.le_iff_toInt_le, Int32.lt_iff_toInt_lt, Int32.le_iff_toInt_le, eqT32, eqT64, Int32.toInt_toInt64, Int64.reduceToInt, Int32.reduceToInt] at g7); (try unfold aPaste); (try simp only [lg_cmp_lt, lg_cmp_ge, lg_cmp_gt, lg_cmp_le, lg_cmp_eq, Int64.lt_iff_toInt_lt, Int64.le_iff_toInt_le, Int32.lt_iff_toInt_lt, Int32.le_iff_toInt_le, eqT32, eqT64, Int32.toInt_toInt64, Int64.reduceToInt, Int32.reduceToInt]); (repeat' split) <;> first | rfl | (exfalso; omega) | omega | simp_all), trivial⟩, hS.F ht⟩) hS.2.2 dX6_paste_44
      · skip
        refine lv_aload_n hx hb dX6_paste_22 rfl (lv_at hl 0 rfl) ?_
        refine va_get (D := D) (ci := 6) (v := .ref (r 1)) (C := RX6) (T := TX6) (N := 36) hx hb hts hi6 hown hK hP 0 rfl rfl 1 (by decide) (hts (.fieldLink RX6 7 "AlibiRotaModel" "width" "[I") (by decide +kernel)) (fun _ h9 => h9) rfl dX6_paste_23 ?_
        refine lv_iload_n hx hb dX6_paste_26 rfl (lv_at hl 1 rfl) ?_
        refine va_iald hx hb hK hP 1 0 rfl rfl (inC 3 4 (by decide)) dX6_paste_27 ?_
        refine lv_topi (fun v12 ev12 => ?_)
        obtain rfl : v12 = (-1) := ev12.trans (hw 3 (by decide))
        refine lv_iconst (v := (-1)) hx hb dX6_paste_28 (by decide) ?_
        refine lv_icmp_eq (tgt := 42) hx hb dX6_paste_29 (by decide) (fun _ => ?_) (fun c9 => absurd (by decide) c9)
        refine lv_bipush (v := (-6)) hx hb dX6_paste_42 (by decide) ?_
        exact W.iret (v := (-6)) hx hb hr (fun t ht _ => ⟨⟨(-6), (), rfl, (by (try simp only [lg_cmp_lt, lg_cmp_ge, lg_cmp_gt, lg_cmp_le, lg_cmp_eq, Int64.lt_iff_toInt_lt, Int64.le_iff_toInt_le, Int32.lt_iff_toInt_lt, Int32.le_iff_toInt_le, eqT32, eqT64, Int32.toInt_toInt64, Int64.reduceToInt, Int32.reduceToInt] at g6); (try simp only [lg_cmp_lt, lg_cmp_ge, lg_cmp_gt, lg_cmp_le, lg_cmp_eq, Int64.lt_iff_toInt_lt, Int64.le_iff_toInt_le, Int32.lt_iff_toInt_lt, Int32.le_iff_toInt_le, eqT32, eqT64, Int32.toInt_toInt64, Int64.reduceToInt, Int32.reduceToInt] at g7); (try unfold aPaste); (try simp only [lg_cmp_lt, lg_cmp_ge, lg_cmp_gt, lg_cmp_le, lg_cmp_eq, Int64.lt_iff_toInt_lt, Int64.le_iff_toInt_le, Int32.lt_iff_toInt_lt, Int32.le_iff_toInt_le, eqT32, eqT64, Int32.toInt_toInt64, Int64.reduceToInt, Int32.reduceToInt]); (repeat' split) <;> first | rfl | (exfalso; omega) | omega | simp_all), trivial⟩, hS.F ht⟩) hS.2.2 dX6_paste_44
    · skip
      refine lv_if_ne (tgt := 22) hx hb dX6_paste_16 (by decide) (fun c9 => absurd (by decide) c9) (fun _ => ?_)
      refine lv_bipush (v := (-2)) hx hb dX6_paste_19 (by decide) ?_
      exact W.iret (v := (-2)) hx hb hr (fun t ht _ => ⟨⟨(-2), (), rfl, (by (try simp only [lg_cmp_lt, lg_cmp_ge, lg_cmp_gt, lg_cmp_le, lg_cmp_eq, Int64.lt_iff_toInt_lt, Int64.le_iff_toInt_le, Int32.lt_iff_toInt_lt, Int32.le_iff_toInt_le, eqT32, eqT64, Int32.toInt_toInt64, Int64.reduceToInt, Int32.reduceToInt] at g2); (try simp only [lg_cmp_lt, lg_cmp_ge, lg_cmp_gt, lg_cmp_le, lg_cmp_eq, Int64.lt_iff_toInt_lt, Int64.le_iff_toInt_le, Int32.lt_iff_toInt_lt, Int32.le_iff_toInt_le, eqT32, eqT64, Int32.toInt_toInt64, Int64.reduceToInt, Int32.reduceToInt] at g3); (try simp only [lg_cmp_lt, lg_cmp_ge, lg_cmp_gt, lg_cmp_le, lg_cmp_eq, Int64.lt_iff_toInt_lt, Int64.le_iff_toInt_le, Int32.lt_iff_toInt_lt, Int32.le_iff_toInt_le, eqT32, eqT64, Int32.toInt_toInt64, Int64.reduceToInt, Int32.reduceToInt] at g8); (try unfold aPaste); (try simp only [lg_cmp_lt, lg_cmp_ge, lg_cmp_gt, lg_cmp_le, lg_cmp_eq, Int64.lt_iff_toInt_lt, Int64.le_iff_toInt_le, Int32.lt_iff_toInt_lt, Int32.le_iff_toInt_le, eqT32, eqT64, Int32.toInt_toInt64, Int64.reduceToInt, Int32.reduceToInt]); (repeat' split) <;> first | rfl | (exfalso; omega) | omega | simp_all), trivial⟩, hS.F ht⟩) hS.2.2 dX6_paste_21
  · skip
    refine lv_if_eq (tgt := 19) hx hb dX6_paste_9 (by decide) (fun _ => ?_) (fun c9 => absurd (by decide) c9)
    refine lv_bipush (v := (-2)) hx hb dX6_paste_19 (by decide) ?_
    exact W.iret (v := (-2)) hx hb hr (fun t ht _ => ⟨⟨(-2), (), rfl, (by (try simp only [lg_cmp_lt, lg_cmp_ge, lg_cmp_gt, lg_cmp_le, lg_cmp_eq, Int64.lt_iff_toInt_lt, Int64.le_iff_toInt_le, Int32.lt_iff_toInt_lt, Int32.le_iff_toInt_le, eqT32, eqT64, Int32.toInt_toInt64, Int64.reduceToInt, Int32.reduceToInt] at g4); (try unfold aPaste); (try simp only [lg_cmp_lt, lg_cmp_ge, lg_cmp_gt, lg_cmp_le, lg_cmp_eq, Int64.lt_iff_toInt_lt, Int64.le_iff_toInt_le, Int32.lt_iff_toInt_lt, Int32.le_iff_toInt_le, eqT32, eqT64, Int32.toInt_toInt64, Int64.reduceToInt, Int32.reduceToInt]); (repeat' split) <;> first | rfl | (exfalso; omega) | omega | simp_all), trivial⟩, hS.F ht⟩) hS.2.2 dX6_paste_21

set_option maxHeartbeats 4000000 in
set_option maxRecDepth 100000 in
theorem mx_count (l : Launch) (D : va_G) (cI cZ cB cJ cR : ClassId) (h : Nat) (r : Nat → Nat) (sz : Nat) (fw : Nat → Int32) (hw : ∀ k, k < 4 → fw k = -1) (p0 : Int32) : Met l yX6_count wsX6_count ({ frames := 1, cells := 0, slots := 0, locals := 25 }) (va_Pc [.ref h, .int p0] (pQ D cI cZ cB cJ cR [(h, .inr (6, [.int 0, .ref (r 1), .ref (r 2), .ref (r 3), .ref (r 4), .ref (r 5), .int 0, .int 0, .int 0, .int 0, .int 0, .long 0, .int 0, .int 0, .int 0, .int (-1), .ref (r 16), .ref (r 17), .ref (r 18), .ref (r 19), .ref (r 20), .ref (r 21), .ref (r 22), .ref (r 23), .ref (r 24), .int 0, .int 0, .int 0, .int 0, .int 0, .ref (r 30), .ref (r 31), .ref (r 32), .ref (r 33), .int 0, .int 0])), (r 17, .inl (cI, 50, .inl (fun _ => 0))), (r 16, .inl (cI, 5, .inl (fun _ => 0))), (r 1, .inl (cI, 4, .inl fw))] sz)) (va_Qi (fun (r : Int32) (_ : Unit) => r = aCount p0) (fun (_ : Unit) _ => True) (va_A [(h, .inr (6, [.int 0, .ref (r 1), .ref (r 2), .ref (r 3), .ref (r 4), .ref (r 5), .int 0, .int 0, .int 0, .int 0, .int 0, .long 0, .int 0, .int 0, .int 0, .int (-1), .ref (r 16), .ref (r 17), .ref (r 18), .ref (r 19), .ref (r 20), .ref (r 21), .ref (r 22), .ref (r 23), .ref (r 24), .int 0, .int 0, .int 0, .int 0, .int 0, .ref (r 30), .ref (r 31), .ref (r 32), .ref (r 33), .int 0, .int 0])), (r 17, .inl (cI, 50, .inl (fun _ => 0))), (r 16, .inl (cI, 5, .inl (fun _ => 0))), (r 1, .inl (cI, 4, .inl fw))] sz)) 0 0 (va_A [(h, .inr (6, [.int 0, .ref (r 1), .ref (r 2), .ref (r 3), .ref (r 4), .ref (r 5), .int 0, .int 0, .int 0, .int 0, .int 0, .long 0, .int 0, .int 0, .int 0, .int (-1), .ref (r 16), .ref (r 17), .ref (r 18), .ref (r 19), .ref (r 20), .ref (r 21), .ref (r 22), .ref (r 23), .ref (r 24), .int 0, .int 0, .int 0, .int 0, .int 0, .ref (r 30), .ref (r 31), .ref (r 32), .ref (r 33), .int 0, .int 0])), (r 17, .inl (cI, 50, .inl (fun _ => 0))), (r 16, .inl (cI, 5, .inl (fun _ => 0))), (r 1, .inl (cI, 4, .inl fw))] sz) := by
  refine Met.ofW (cc := cX6_count) (maxL := 4) (ret := (some .int)) (by decide) rfl ?_
  intro p e s m args below meth c s₁ B hml hv
  obtain ⟨rfl, hsz, hP, hk, hD0⟩ := hv
  have hK := hk.1
  have hz := hk.2.1
  have hx := B.exec
  have hb := B.bytes
  have hr := B.returns
  have hts := atoms_spec (ws := wsX6_count) B.pre
  have hown : s.vm.findClass RX6 = some m.cls := findClass_of_methodNamed B.named
  have hlocks := B.notSynchronized
  have hi6 : ∀ w ∈ wsX60, w ∈ wsX6_count := by decide +kernel
  subst hsz
  have hD := hD0.self (sz := s.heap.size)
  generalize hAe : va_A [(h, .inr (6, [.int 0, .ref (r 1), .ref (r 2), .ref (r 3), .ref (r 4), .ref (r 5), .int 0, .int 0, .int 0, .int 0, .int 0, .long 0, .int 0, .int 0, .int 0, .int (-1), .ref (r 16), .ref (r 17), .ref (r 18), .ref (r 19), .ref (r 20), .ref (r 21), .ref (r 22), .ref (r 23), .ref (r 24), .int 0, .int 0, .int 0, .int 0, .int 0, .ref (r 30), .ref (r 31), .ref (r 32), .ref (r 33), .int 0, .int 0])), (r 17, .inl (cI, 50, .inl (fun _ => 0))), (r 16, .inl (cI, 5, .inl (fun _ => 0))), (r 1, .inl (cI, 4, .inl fw))] s.heap.size = A at hD ⊢
  have hA : ∀ q : Nat, s.heap.size ≤ q → A q := fun q h => by rw [← hAe]; exact Or.inr h
  have hS : va_S A s.heap s.heap [] := va_S.rf
  have hP : va_P D vwCl [(h, .inr (6, [.int 0, .ref (r 1), .ref (r 2), .ref (r 3), .ref (r 4), .ref (r 5), .int 0, .int 0, .int 0, .int 0, .int 0, .long 0, .int 0, .int 0, .int 0, .int (-1), .ref (r 16), .ref (r 17), .ref (r 18), .ref (r 19), .ref (r 20), .ref (r 21), .ref (r 22), .ref (r 23), .ref (r 24), .int 0, .int 0, .int 0, .int 0, .int 0, .ref (r 30), .ref (r 31), .ref (r 32), .ref (r 33), .int 0, .int 0])), (r 17, .inl (cI, 50, .inl (fun _ => 0))), (r 16, .inl (cI, 5, .inl (fun _ => 0))), (r 1, .inl (cI, 4, .inl fw))] s.heap := hP
  have hl := lv_entry ([.ref h, .int p0]) (n := 4) (Nat.le_of_ble_eq_true rfl)
  rw [lg_entry_eq]
  generalize (lg_sl ([.ref h, .int p0]) ++ List.replicate (4 - (lg_sl ([.ref h, .int p0])).length) Slot.unset).toArray = ls at hl ⊢
  have hl : lv_has ls 4 [(0, .ref h), (1, .int p0)] := hl
  rcases out12 p0 with g1 | g2 | g3
  · skip
    refine lv_aload_n hx hb dX6_count_0 rfl (lv_at hl 0 rfl) ?_
    refine lv_iconst (v := 0) hx hb dX6_count_1 (by decide) ?_
    refine va_put (D := D) (ci := 6) (v := .int 0) (ty := .int) (C := RX6) (T := TX6) (N := 36) hx hb hts hi6 tyX6 tyX6_ok nmX6 hown hK hP hD hS 0 rfl rfl 0 (by decide) (hts (.fieldLink RX6 71 "AlibiRotaModel" "thrown" "I") (by decide +kernel)) (fun _ h9 => h9) rfl (by decide +kernel) rfl rfl (Nat.le_of_ble_eq_true rfl) dX6_count_2 (fun H locs hP hD hS => ?_)
    have hP : va_P D vwCl [(h, .inr (6, [.int 0, .ref (r 1), .ref (r 2), .ref (r 3), .ref (r 4), .ref (r 5), .int 0, .int 0, .int 0, .int 0, .int 0, .long 0, .int 0, .int 0, .int 0, .int (-1), .ref (r 16), .ref (r 17), .ref (r 18), .ref (r 19), .ref (r 20), .ref (r 21), .ref (r 22), .ref (r 23), .ref (r 24), .int 0, .int 0, .int 0, .int 0, .int 0, .ref (r 30), .ref (r 31), .ref (r 32), .ref (r 33), .int 0, .int 0])), (r 17, .inl (cI, 50, .inl (fun _ => 0))), (r 16, .inl (cI, 5, .inl (fun _ => 0))), (r 1, .inl (cI, 4, .inl fw))] H := hP
    have hD : va_D A [(h, .inr (6, [.int 0, .ref (r 1), .ref (r 2), .ref (r 3), .ref (r 4), .ref (r 5), .int 0, .int 0, .int 0, .int 0, .int 0, .long 0, .int 0, .int 0, .int 0, .int (-1), .ref (r 16), .ref (r 17), .ref (r 18), .ref (r 19), .ref (r 20), .ref (r 21), .ref (r 22), .ref (r 23), .ref (r 24), .int 0, .int 0, .int 0, .int 0, .int 0, .ref (r 30), .ref (r 31), .ref (r 32), .ref (r 33), .int 0, .int 0])), (r 17, .inl (cI, 50, .inl (fun _ => 0))), (r 16, .inl (cI, 5, .inl (fun _ => 0))), (r 1, .inl (cI, 4, .inl fw))] := hD
    refine lv_iload_n hx hb dX6_count_5 rfl (lv_at hl 1 rfl) ?_
    refine lv_i2l (v := p0.toInt64) hx hb dX6_count_6 rfl ?_
    refine lv_lconst (v := 0) hx hb dX6_count_7 (by decide) ?_
    refine lv_ldc2 hx hb hown (hts (.constantLong RX6 425 (8)) (by decide +kernel)) dX6_count_8 ?_
    have hPc := hP.sub (ws' := []) [] rfl
    refine vp_callSi (va_Run.run (va_runS (As := [.long p0.toInt64, .long 0, .long 8]) (rest := []) ⟨hx, hb, hml, hown, hts⟩ (m_in l D cI cZ cB cJ cR p0.toInt64 0 8) (cwS 3 hts gX6_count_X6_in rfl rfl rfl (by decide +kernel) ⟨Nat.le_of_ble_eq_true rfl, Nat.le_of_ble_eq_true rfl⟩) ⟨fbS, pS_at hPc hk⟩ rfl rfl hl.1 rfl (lv_room (Nat.le_of_ble_eq_true rfl)) dX6_count_11 ⟨show 0 ≤ 0 by decide, show 0 ≤ 0 by decide⟩)) (fun r4 hr4 => ?_)
    rcases hr4 with ⟨rfl, g5, g6⟩ | ⟨rfl, g7⟩
    · skip
      exfalso
      simp only [lg_cmp_lt, lg_cmp_ge, lg_cmp_gt, lg_cmp_le, lg_cmp_eq, Int64.lt_iff_toInt_lt, Int64.le_iff_toInt_le, Int32.lt_iff_toInt_lt, Int32.le_iff_toInt_le, eqT32, eqT64, Int32.toInt_toInt64, Int64.reduceToInt, Int32.reduceToInt] at g1 g5 g6
      omega
    · skip
      refine lv_if_eq (tgt := 24) hx hb dX6_count_14 (by decide) (fun _ => ?_) (fun c9 => absurd (by decide) c9)
      refine lv_iconst (v := 0) hx hb dX6_count_24 (by decide) ?_
      refine lv_istore_n (lv' := [(2, .int 0), (0, .ref h), (1, .int p0)]) hx hb dX6_count_25 rfl hl (by decide) rfl (fun ls hl => ?_)
      refine lv_iload_n hx hb dX6_count_26 rfl (lv_at hl 2 rfl) ?_
      refine lv_tableOut (tgt := 97) hx hb dX6_count_27 (by simp only [lg_cmp_lt, lg_cmp_ge, lg_cmp_gt, lg_cmp_le, lg_cmp_eq, Int64.lt_iff_toInt_lt, Int64.le_iff_toInt_le, Int32.lt_iff_toInt_lt, Int32.le_iff_toInt_le, eqT32, eqT64, Int32.toInt_toInt64, Int64.reduceToInt, Int32.reduceToInt] at g1; omega) (by decide) ?_
      refine lv_iconst (v := (-1)) hx hb dX6_count_97 (by decide) ?_
      exact W.iret (v := (-1)) hx hb hr (fun t ht _ => ⟨⟨(-1), (), rfl, (by (try simp only [lg_cmp_lt, lg_cmp_ge, lg_cmp_gt, lg_cmp_le, lg_cmp_eq, Int64.lt_iff_toInt_lt, Int64.le_iff_toInt_le, Int32.lt_iff_toInt_lt, Int32.le_iff_toInt_le, eqT32, eqT64, Int32.toInt_toInt64, Int64.reduceToInt, Int32.reduceToInt] at g1); (try simp only [lg_cmp_lt, lg_cmp_ge, lg_cmp_gt, lg_cmp_le, lg_cmp_eq, Int64.lt_iff_toInt_lt, Int64.le_iff_toInt_le, Int32.lt_iff_toInt_lt, Int32.le_iff_toInt_le, eqT32, eqT64, Int32.toInt_toInt64, Int64.reduceToInt, Int32.reduceToInt] at g7); (try unfold aCount); (try simp only [lg_cmp_lt, lg_cmp_ge, lg_cmp_gt, lg_cmp_le, lg_cmp_eq, Int64.lt_iff_toInt_lt, Int64.le_iff_toInt_le, Int32.lt_iff_toInt_lt, Int32.le_iff_toInt_le, eqT32, eqT64, Int32.toInt_toInt64, Int64.reduceToInt, Int32.reduceToInt]); (repeat' split) <;> first | rfl | (exfalso; omega) | omega | simp_all), trivial⟩, hS.F ht⟩) hS.2.2 dX6_count_98
  · skip
    refine lv_aload_n hx hb dX6_count_0 rfl (lv_at hl 0 rfl) ?_
    refine lv_iconst (v := 0) hx hb dX6_count_1 (by decide) ?_
    refine va_put (D := D) (ci := 6) (v := .int 0) (ty := .int) (C := RX6) (T := TX6) (N := 36) hx hb hts hi6 tyX6 tyX6_ok nmX6 hown hK hP hD hS 0 rfl rfl 0 (by decide) (hts (.fieldLink RX6 71 "AlibiRotaModel" "thrown" "I") (by decide +kernel)) (fun _ h9 => h9) rfl (by decide +kernel) rfl rfl (Nat.le_of_ble_eq_true rfl) dX6_count_2 (fun H locs hP hD hS => ?_)
    have hP : va_P D vwCl [(h, .inr (6, [.int 0, .ref (r 1), .ref (r 2), .ref (r 3), .ref (r 4), .ref (r 5), .int 0, .int 0, .int 0, .int 0, .int 0, .long 0, .int 0, .int 0, .int 0, .int (-1), .ref (r 16), .ref (r 17), .ref (r 18), .ref (r 19), .ref (r 20), .ref (r 21), .ref (r 22), .ref (r 23), .ref (r 24), .int 0, .int 0, .int 0, .int 0, .int 0, .ref (r 30), .ref (r 31), .ref (r 32), .ref (r 33), .int 0, .int 0])), (r 17, .inl (cI, 50, .inl (fun _ => 0))), (r 16, .inl (cI, 5, .inl (fun _ => 0))), (r 1, .inl (cI, 4, .inl fw))] H := hP
    have hD : va_D A [(h, .inr (6, [.int 0, .ref (r 1), .ref (r 2), .ref (r 3), .ref (r 4), .ref (r 5), .int 0, .int 0, .int 0, .int 0, .int 0, .long 0, .int 0, .int 0, .int 0, .int (-1), .ref (r 16), .ref (r 17), .ref (r 18), .ref (r 19), .ref (r 20), .ref (r 21), .ref (r 22), .ref (r 23), .ref (r 24), .int 0, .int 0, .int 0, .int 0, .int 0, .ref (r 30), .ref (r 31), .ref (r 32), .ref (r 33), .int 0, .int 0])), (r 17, .inl (cI, 50, .inl (fun _ => 0))), (r 16, .inl (cI, 5, .inl (fun _ => 0))), (r 1, .inl (cI, 4, .inl fw))] := hD
    refine lv_iload_n hx hb dX6_count_5 rfl (lv_at hl 1 rfl) ?_
    refine lv_i2l (v := p0.toInt64) hx hb dX6_count_6 rfl ?_
    refine lv_lconst (v := 0) hx hb dX6_count_7 (by decide) ?_
    refine lv_ldc2 hx hb hown (hts (.constantLong RX6 425 (8)) (by decide +kernel)) dX6_count_8 ?_
    have hPc := hP.sub (ws' := []) [] rfl
    refine vp_callSi (va_Run.run (va_runS (As := [.long p0.toInt64, .long 0, .long 8]) (rest := []) ⟨hx, hb, hml, hown, hts⟩ (m_in l D cI cZ cB cJ cR p0.toInt64 0 8) (cwS 3 hts gX6_count_X6_in rfl rfl rfl (by decide +kernel) ⟨Nat.le_of_ble_eq_true rfl, Nat.le_of_ble_eq_true rfl⟩) ⟨fbS, pS_at hPc hk⟩ rfl rfl hl.1 rfl (lv_room (Nat.le_of_ble_eq_true rfl)) dX6_count_11 ⟨show 0 ≤ 0 by decide, show 0 ≤ 0 by decide⟩)) (fun r8 hr8 => ?_)
    rcases hr8 with ⟨rfl, g9, g10⟩ | ⟨rfl, g11⟩
    · skip
      exfalso
      simp only [lg_cmp_lt, lg_cmp_ge, lg_cmp_gt, lg_cmp_le, lg_cmp_eq, Int64.lt_iff_toInt_lt, Int64.le_iff_toInt_le, Int32.lt_iff_toInt_lt, Int32.le_iff_toInt_le, eqT32, eqT64, Int32.toInt_toInt64, Int64.reduceToInt, Int32.reduceToInt] at g2 g9 g10
      omega
    · skip
      refine lv_if_eq (tgt := 24) hx hb dX6_count_14 (by decide) (fun _ => ?_) (fun c9 => absurd (by decide) c9)
      refine lv_iconst (v := 0) hx hb dX6_count_24 (by decide) ?_
      refine lv_istore_n (lv' := [(2, .int 0), (0, .ref h), (1, .int p0)]) hx hb dX6_count_25 rfl hl (by decide) rfl (fun ls hl => ?_)
      refine lv_iload_n hx hb dX6_count_26 rfl (lv_at hl 2 rfl) ?_
      refine lv_tableOut (tgt := 97) hx hb dX6_count_27 (by simp only [lg_cmp_lt, lg_cmp_ge, lg_cmp_gt, lg_cmp_le, lg_cmp_eq, Int64.lt_iff_toInt_lt, Int64.le_iff_toInt_le, Int32.lt_iff_toInt_lt, Int32.le_iff_toInt_le, eqT32, eqT64, Int32.toInt_toInt64, Int64.reduceToInt, Int32.reduceToInt] at g2; omega) (by decide) ?_
      refine lv_iconst (v := (-1)) hx hb dX6_count_97 (by decide) ?_
      exact W.iret (v := (-1)) hx hb hr (fun t ht _ => ⟨⟨(-1), (), rfl, (by (try simp only [lg_cmp_lt, lg_cmp_ge, lg_cmp_gt, lg_cmp_le, lg_cmp_eq, Int64.lt_iff_toInt_lt, Int64.le_iff_toInt_le, Int32.lt_iff_toInt_lt, Int32.le_iff_toInt_le, eqT32, eqT64, Int32.toInt_toInt64, Int64.reduceToInt, Int32.reduceToInt] at g2); (try simp only [lg_cmp_lt, lg_cmp_ge, lg_cmp_gt, lg_cmp_le, lg_cmp_eq, Int64.lt_iff_toInt_lt, Int64.le_iff_toInt_le, Int32.lt_iff_toInt_lt, Int32.le_iff_toInt_le, eqT32, eqT64, Int32.toInt_toInt64, Int64.reduceToInt, Int32.reduceToInt] at g11); (try unfold aCount); (try simp only [lg_cmp_lt, lg_cmp_ge, lg_cmp_gt, lg_cmp_le, lg_cmp_eq, Int64.lt_iff_toInt_lt, Int64.le_iff_toInt_le, Int32.lt_iff_toInt_lt, Int32.le_iff_toInt_le, eqT32, eqT64, Int32.toInt_toInt64, Int64.reduceToInt, Int32.reduceToInt]); (repeat' split) <;> first | rfl | (exfalso; omega) | omega | simp_all), trivial⟩, hS.F ht⟩) hS.2.2 dX6_count_98
  · skip
    rcases sp12 p0 g3 with rfl | rfl | rfl | rfl | rfl | rfl | rfl | rfl | rfl | rfl | rfl | rfl
    · skip
      refine lv_aload_n hx hb dX6_count_0 rfl (lv_at hl 0 rfl) ?_
      refine lv_iconst (v := 0) hx hb dX6_count_1 (by decide) ?_
      refine va_put (D := D) (ci := 6) (v := .int 0) (ty := .int) (C := RX6) (T := TX6) (N := 36) hx hb hts hi6 tyX6 tyX6_ok nmX6 hown hK hP hD hS 0 rfl rfl 0 (by decide) (hts (.fieldLink RX6 71 "AlibiRotaModel" "thrown" "I") (by decide +kernel)) (fun _ h9 => h9) rfl (by decide +kernel) rfl rfl (Nat.le_of_ble_eq_true rfl) dX6_count_2 (fun H locs hP hD hS => ?_)
      have hP : va_P D vwCl [(h, .inr (6, [.int 0, .ref (r 1), .ref (r 2), .ref (r 3), .ref (r 4), .ref (r 5), .int 0, .int 0, .int 0, .int 0, .int 0, .long 0, .int 0, .int 0, .int 0, .int (-1), .ref (r 16), .ref (r 17), .ref (r 18), .ref (r 19), .ref (r 20), .ref (r 21), .ref (r 22), .ref (r 23), .ref (r 24), .int 0, .int 0, .int 0, .int 0, .int 0, .ref (r 30), .ref (r 31), .ref (r 32), .ref (r 33), .int 0, .int 0])), (r 17, .inl (cI, 50, .inl (fun _ => 0))), (r 16, .inl (cI, 5, .inl (fun _ => 0))), (r 1, .inl (cI, 4, .inl fw))] H := hP
      have hD : va_D A [(h, .inr (6, [.int 0, .ref (r 1), .ref (r 2), .ref (r 3), .ref (r 4), .ref (r 5), .int 0, .int 0, .int 0, .int 0, .int 0, .long 0, .int 0, .int 0, .int 0, .int (-1), .ref (r 16), .ref (r 17), .ref (r 18), .ref (r 19), .ref (r 20), .ref (r 21), .ref (r 22), .ref (r 23), .ref (r 24), .int 0, .int 0, .int 0, .int 0, .int 0, .ref (r 30), .ref (r 31), .ref (r 32), .ref (r 33), .int 0, .int 0])), (r 17, .inl (cI, 50, .inl (fun _ => 0))), (r 16, .inl (cI, 5, .inl (fun _ => 0))), (r 1, .inl (cI, 4, .inl fw))] := hD
      refine lv_iload_n hx hb dX6_count_5 rfl (lv_at hl 1 rfl) ?_
      refine lv_i2l (v := 0) hx hb dX6_count_6 (by decide) ?_
      refine lv_lconst (v := 0) hx hb dX6_count_7 (by decide) ?_
      refine lv_ldc2 hx hb hown (hts (.constantLong RX6 425 (8)) (by decide +kernel)) dX6_count_8 ?_
      have hPc := hP.sub (ws' := []) [] rfl
      refine vp_callSi (va_Run.run (va_runS (As := [.long 0, .long 0, .long 8]) (rest := []) ⟨hx, hb, hml, hown, hts⟩ (m_in l D cI cZ cB cJ cR 0 0 8) (cwS 3 hts gX6_count_X6_in rfl rfl rfl (by decide +kernel) ⟨Nat.le_of_ble_eq_true rfl, Nat.le_of_ble_eq_true rfl⟩) ⟨fbS, pS_at hPc hk⟩ rfl rfl hl.1 rfl (lv_room (Nat.le_of_ble_eq_true rfl)) dX6_count_11 ⟨show 0 ≤ 0 by decide, show 0 ≤ 0 by decide⟩)) (fun r12 hr12 => ?_)
      rcases hr12 with ⟨rfl, g13, g14⟩ | ⟨rfl, g15⟩
      · skip
        refine lv_if_eq (tgt := 24) hx hb dX6_count_14 (by decide) (fun c9 => absurd c9 (by decide)) (fun _ => ?_)
        refine lv_aload_n hx hb dX6_count_17 rfl (lv_at hl 0 rfl) ?_
        refine va_get (D := D) (ci := 6) (v := .ref (r 17)) (C := RX6) (T := TX6) (N := 36) hx hb hts hi6 hown hK hP 0 rfl rfl 17 (by decide) (hts (.fieldLink RX6 34 "AlibiRotaModel" "has" "[I") (by decide +kernel)) (fun _ h9 => h9) rfl dX6_count_18 ?_
        refine lv_iload_n hx hb dX6_count_21 rfl (lv_at hl 1 rfl) ?_
        refine va_iald hx hb hK hP 1 0 rfl rfl (inC 0 50 (by decide)) dX6_count_22 ?_
        refine lv_topi (fun v16 ev16 => ?_)
        obtain rfl : v16 = 0 := ev16
        exact W.iret (v := 0) hx hb hr (fun t ht _ => ⟨⟨0, (), rfl, (by (try simp only [lg_cmp_lt, lg_cmp_ge, lg_cmp_gt, lg_cmp_le, lg_cmp_eq, Int64.lt_iff_toInt_lt, Int64.le_iff_toInt_le, Int32.lt_iff_toInt_lt, Int32.le_iff_toInt_le, eqT32, eqT64, Int32.toInt_toInt64, Int64.reduceToInt, Int32.reduceToInt] at g13); (try simp only [lg_cmp_lt, lg_cmp_ge, lg_cmp_gt, lg_cmp_le, lg_cmp_eq, Int64.lt_iff_toInt_lt, Int64.le_iff_toInt_le, Int32.lt_iff_toInt_lt, Int32.le_iff_toInt_le, eqT32, eqT64, Int32.toInt_toInt64, Int64.reduceToInt, Int32.reduceToInt] at g14); (try unfold aCount); (try simp only [lg_cmp_lt, lg_cmp_ge, lg_cmp_gt, lg_cmp_le, lg_cmp_eq, Int64.lt_iff_toInt_lt, Int64.le_iff_toInt_le, Int32.lt_iff_toInt_lt, Int32.le_iff_toInt_le, eqT32, eqT64, Int32.toInt_toInt64, Int64.reduceToInt, Int32.reduceToInt]); (repeat' split) <;> first | rfl | (exfalso; omega) | omega | simp_all), trivial⟩, hS.F ht⟩) hS.2.2 dX6_count_23
      · skip
        refine lv_if_eq (tgt := 24) hx hb dX6_count_14 (by decide) (fun _ => ?_) (fun c9 => absurd (by decide) c9)
        refine lv_iconst (v := 0) hx hb dX6_count_24 (by decide) ?_
        refine lv_istore_n (lv' := [(2, .int 0), (0, .ref h), (1, .int 0)]) hx hb dX6_count_25 rfl hl (by decide) rfl (fun ls hl => ?_)
        refine lv_iload_n hx hb dX6_count_26 rfl (lv_at hl 2 rfl) ?_
        refine lv_tableOut (tgt := 97) hx hb dX6_count_27 (by decide) (by decide) ?_
        refine lv_iconst (v := (-1)) hx hb dX6_count_97 (by decide) ?_
        exact W.iret (v := (-1)) hx hb hr (fun t ht _ => ⟨⟨(-1), (), rfl, (by (try simp only [lg_cmp_lt, lg_cmp_ge, lg_cmp_gt, lg_cmp_le, lg_cmp_eq, Int64.lt_iff_toInt_lt, Int64.le_iff_toInt_le, Int32.lt_iff_toInt_lt, Int32.le_iff_toInt_le, eqT32, eqT64, Int32.toInt_toInt64, Int64.reduceToInt, Int32.reduceToInt] at g15); (try unfold aCount); (try simp only [lg_cmp_lt, lg_cmp_ge, lg_cmp_gt, lg_cmp_le, lg_cmp_eq, Int64.lt_iff_toInt_lt, Int64.le_iff_toInt_le, Int32.lt_iff_toInt_lt, Int32.le_iff_toInt_le, eqT32, eqT64, Int32.toInt_toInt64, Int64.reduceToInt, Int32.reduceToInt]); (repeat' split) <;> first | rfl | (exfalso; omega) | omega | simp_all), trivial⟩, hS.F ht⟩) hS.2.2 dX6_count_98
    · skip
      refine lv_aload_n hx hb dX6_count_0 rfl (lv_at hl 0 rfl) ?_
      refine lv_iconst (v := 0) hx hb dX6_count_1 (by decide) ?_
      refine va_put (D := D) (ci := 6) (v := .int 0) (ty := .int) (C := RX6) (T := TX6) (N := 36) hx hb hts hi6 tyX6 tyX6_ok nmX6 hown hK hP hD hS 0 rfl rfl 0 (by decide) (hts (.fieldLink RX6 71 "AlibiRotaModel" "thrown" "I") (by decide +kernel)) (fun _ h9 => h9) rfl (by decide +kernel) rfl rfl (Nat.le_of_ble_eq_true rfl) dX6_count_2 (fun H locs hP hD hS => ?_)
      have hP : va_P D vwCl [(h, .inr (6, [.int 0, .ref (r 1), .ref (r 2), .ref (r 3), .ref (r 4), .ref (r 5), .int 0, .int 0, .int 0, .int 0, .int 0, .long 0, .int 0, .int 0, .int 0, .int (-1), .ref (r 16), .ref (r 17), .ref (r 18), .ref (r 19), .ref (r 20), .ref (r 21), .ref (r 22), .ref (r 23), .ref (r 24), .int 0, .int 0, .int 0, .int 0, .int 0, .ref (r 30), .ref (r 31), .ref (r 32), .ref (r 33), .int 0, .int 0])), (r 17, .inl (cI, 50, .inl (fun _ => 0))), (r 16, .inl (cI, 5, .inl (fun _ => 0))), (r 1, .inl (cI, 4, .inl fw))] H := hP
      have hD : va_D A [(h, .inr (6, [.int 0, .ref (r 1), .ref (r 2), .ref (r 3), .ref (r 4), .ref (r 5), .int 0, .int 0, .int 0, .int 0, .int 0, .long 0, .int 0, .int 0, .int 0, .int (-1), .ref (r 16), .ref (r 17), .ref (r 18), .ref (r 19), .ref (r 20), .ref (r 21), .ref (r 22), .ref (r 23), .ref (r 24), .int 0, .int 0, .int 0, .int 0, .int 0, .ref (r 30), .ref (r 31), .ref (r 32), .ref (r 33), .int 0, .int 0])), (r 17, .inl (cI, 50, .inl (fun _ => 0))), (r 16, .inl (cI, 5, .inl (fun _ => 0))), (r 1, .inl (cI, 4, .inl fw))] := hD
      refine lv_iload_n hx hb dX6_count_5 rfl (lv_at hl 1 rfl) ?_
      refine lv_i2l (v := 1) hx hb dX6_count_6 (by decide) ?_
      refine lv_lconst (v := 0) hx hb dX6_count_7 (by decide) ?_
      refine lv_ldc2 hx hb hown (hts (.constantLong RX6 425 (8)) (by decide +kernel)) dX6_count_8 ?_
      have hPc := hP.sub (ws' := []) [] rfl
      refine vp_callSi (va_Run.run (va_runS (As := [.long 1, .long 0, .long 8]) (rest := []) ⟨hx, hb, hml, hown, hts⟩ (m_in l D cI cZ cB cJ cR 1 0 8) (cwS 3 hts gX6_count_X6_in rfl rfl rfl (by decide +kernel) ⟨Nat.le_of_ble_eq_true rfl, Nat.le_of_ble_eq_true rfl⟩) ⟨fbS, pS_at hPc hk⟩ rfl rfl hl.1 rfl (lv_room (Nat.le_of_ble_eq_true rfl)) dX6_count_11 ⟨show 0 ≤ 0 by decide, show 0 ≤ 0 by decide⟩)) (fun r17 hr17 => ?_)
      rcases hr17 with ⟨rfl, g18, g19⟩ | ⟨rfl, g20⟩
      · skip
        refine lv_if_eq (tgt := 24) hx hb dX6_count_14 (by decide) (fun c9 => absurd c9 (by decide)) (fun _ => ?_)
        refine lv_aload_n hx hb dX6_count_17 rfl (lv_at hl 0 rfl) ?_
        refine va_get (D := D) (ci := 6) (v := .ref (r 17)) (C := RX6) (T := TX6) (N := 36) hx hb hts hi6 hown hK hP 0 rfl rfl 17 (by decide) (hts (.fieldLink RX6 34 "AlibiRotaModel" "has" "[I") (by decide +kernel)) (fun _ h9 => h9) rfl dX6_count_18 ?_
        refine lv_iload_n hx hb dX6_count_21 rfl (lv_at hl 1 rfl) ?_
        refine va_iald hx hb hK hP 1 0 rfl rfl (inC 1 50 (by decide)) dX6_count_22 ?_
        refine lv_topi (fun v21 ev21 => ?_)
        obtain rfl : v21 = 0 := ev21
        exact W.iret (v := 0) hx hb hr (fun t ht _ => ⟨⟨0, (), rfl, (by (try simp only [lg_cmp_lt, lg_cmp_ge, lg_cmp_gt, lg_cmp_le, lg_cmp_eq, Int64.lt_iff_toInt_lt, Int64.le_iff_toInt_le, Int32.lt_iff_toInt_lt, Int32.le_iff_toInt_le, eqT32, eqT64, Int32.toInt_toInt64, Int64.reduceToInt, Int32.reduceToInt] at g18); (try simp only [lg_cmp_lt, lg_cmp_ge, lg_cmp_gt, lg_cmp_le, lg_cmp_eq, Int64.lt_iff_toInt_lt, Int64.le_iff_toInt_le, Int32.lt_iff_toInt_lt, Int32.le_iff_toInt_le, eqT32, eqT64, Int32.toInt_toInt64, Int64.reduceToInt, Int32.reduceToInt] at g19); (try unfold aCount); (try simp only [lg_cmp_lt, lg_cmp_ge, lg_cmp_gt, lg_cmp_le, lg_cmp_eq, Int64.lt_iff_toInt_lt, Int64.le_iff_toInt_le, Int32.lt_iff_toInt_lt, Int32.le_iff_toInt_le, eqT32, eqT64, Int32.toInt_toInt64, Int64.reduceToInt, Int32.reduceToInt]); (repeat' split) <;> first | rfl | (exfalso; omega) | omega | simp_all), trivial⟩, hS.F ht⟩) hS.2.2 dX6_count_23
      · skip
        refine lv_if_eq (tgt := 24) hx hb dX6_count_14 (by decide) (fun _ => ?_) (fun c9 => absurd (by decide) c9)
        refine lv_iconst (v := 0) hx hb dX6_count_24 (by decide) ?_
        refine lv_istore_n (lv' := [(2, .int 0), (0, .ref h), (1, .int 1)]) hx hb dX6_count_25 rfl hl (by decide) rfl (fun ls hl => ?_)
        refine lv_iload_n hx hb dX6_count_26 rfl (lv_at hl 2 rfl) ?_
        refine lv_tableOut (tgt := 97) hx hb dX6_count_27 (by decide) (by decide) ?_
        refine lv_iconst (v := (-1)) hx hb dX6_count_97 (by decide) ?_
        exact W.iret (v := (-1)) hx hb hr (fun t ht _ => ⟨⟨(-1), (), rfl, (by (try simp only [lg_cmp_lt, lg_cmp_ge, lg_cmp_gt, lg_cmp_le, lg_cmp_eq, Int64.lt_iff_toInt_lt, Int64.le_iff_toInt_le, Int32.lt_iff_toInt_lt, Int32.le_iff_toInt_le, eqT32, eqT64, Int32.toInt_toInt64, Int64.reduceToInt, Int32.reduceToInt] at g20); (try unfold aCount); (try simp only [lg_cmp_lt, lg_cmp_ge, lg_cmp_gt, lg_cmp_le, lg_cmp_eq, Int64.lt_iff_toInt_lt, Int64.le_iff_toInt_le, Int32.lt_iff_toInt_lt, Int32.le_iff_toInt_le, eqT32, eqT64, Int32.toInt_toInt64, Int64.reduceToInt, Int32.reduceToInt]); (repeat' split) <;> first | rfl | (exfalso; omega) | omega | simp_all), trivial⟩, hS.F ht⟩) hS.2.2 dX6_count_98
    · skip
      refine lv_aload_n hx hb dX6_count_0 rfl (lv_at hl 0 rfl) ?_
      refine lv_iconst (v := 0) hx hb dX6_count_1 (by decide) ?_
      refine va_put (D := D) (ci := 6) (v := .int 0) (ty := .int) (C := RX6) (T := TX6) (N := 36) hx hb hts hi6 tyX6 tyX6_ok nmX6 hown hK hP hD hS 0 rfl rfl 0 (by decide) (hts (.fieldLink RX6 71 "AlibiRotaModel" "thrown" "I") (by decide +kernel)) (fun _ h9 => h9) rfl (by decide +kernel) rfl rfl (Nat.le_of_ble_eq_true rfl) dX6_count_2 (fun H locs hP hD hS => ?_)
      have hP : va_P D vwCl [(h, .inr (6, [.int 0, .ref (r 1), .ref (r 2), .ref (r 3), .ref (r 4), .ref (r 5), .int 0, .int 0, .int 0, .int 0, .int 0, .long 0, .int 0, .int 0, .int 0, .int (-1), .ref (r 16), .ref (r 17), .ref (r 18), .ref (r 19), .ref (r 20), .ref (r 21), .ref (r 22), .ref (r 23), .ref (r 24), .int 0, .int 0, .int 0, .int 0, .int 0, .ref (r 30), .ref (r 31), .ref (r 32), .ref (r 33), .int 0, .int 0])), (r 17, .inl (cI, 50, .inl (fun _ => 0))), (r 16, .inl (cI, 5, .inl (fun _ => 0))), (r 1, .inl (cI, 4, .inl fw))] H := hP
      have hD : va_D A [(h, .inr (6, [.int 0, .ref (r 1), .ref (r 2), .ref (r 3), .ref (r 4), .ref (r 5), .int 0, .int 0, .int 0, .int 0, .int 0, .long 0, .int 0, .int 0, .int 0, .int (-1), .ref (r 16), .ref (r 17), .ref (r 18), .ref (r 19), .ref (r 20), .ref (r 21), .ref (r 22), .ref (r 23), .ref (r 24), .int 0, .int 0, .int 0, .int 0, .int 0, .ref (r 30), .ref (r 31), .ref (r 32), .ref (r 33), .int 0, .int 0])), (r 17, .inl (cI, 50, .inl (fun _ => 0))), (r 16, .inl (cI, 5, .inl (fun _ => 0))), (r 1, .inl (cI, 4, .inl fw))] := hD
      refine lv_iload_n hx hb dX6_count_5 rfl (lv_at hl 1 rfl) ?_
      refine lv_i2l (v := 2) hx hb dX6_count_6 (by decide) ?_
      refine lv_lconst (v := 0) hx hb dX6_count_7 (by decide) ?_
      refine lv_ldc2 hx hb hown (hts (.constantLong RX6 425 (8)) (by decide +kernel)) dX6_count_8 ?_
      have hPc := hP.sub (ws' := []) [] rfl
      refine vp_callSi (va_Run.run (va_runS (As := [.long 2, .long 0, .long 8]) (rest := []) ⟨hx, hb, hml, hown, hts⟩ (m_in l D cI cZ cB cJ cR 2 0 8) (cwS 3 hts gX6_count_X6_in rfl rfl rfl (by decide +kernel) ⟨Nat.le_of_ble_eq_true rfl, Nat.le_of_ble_eq_true rfl⟩) ⟨fbS, pS_at hPc hk⟩ rfl rfl hl.1 rfl (lv_room (Nat.le_of_ble_eq_true rfl)) dX6_count_11 ⟨show 0 ≤ 0 by decide, show 0 ≤ 0 by decide⟩)) (fun r22 hr22 => ?_)
      rcases hr22 with ⟨rfl, g23, g24⟩ | ⟨rfl, g25⟩
      · skip
        refine lv_if_eq (tgt := 24) hx hb dX6_count_14 (by decide) (fun c9 => absurd c9 (by decide)) (fun _ => ?_)
        refine lv_aload_n hx hb dX6_count_17 rfl (lv_at hl 0 rfl) ?_
        refine va_get (D := D) (ci := 6) (v := .ref (r 17)) (C := RX6) (T := TX6) (N := 36) hx hb hts hi6 hown hK hP 0 rfl rfl 17 (by decide) (hts (.fieldLink RX6 34 "AlibiRotaModel" "has" "[I") (by decide +kernel)) (fun _ h9 => h9) rfl dX6_count_18 ?_
        refine lv_iload_n hx hb dX6_count_21 rfl (lv_at hl 1 rfl) ?_
        refine va_iald hx hb hK hP 1 0 rfl rfl (inC 2 50 (by decide)) dX6_count_22 ?_
        refine lv_topi (fun v26 ev26 => ?_)
        obtain rfl : v26 = 0 := ev26
        exact W.iret (v := 0) hx hb hr (fun t ht _ => ⟨⟨0, (), rfl, (by (try simp only [lg_cmp_lt, lg_cmp_ge, lg_cmp_gt, lg_cmp_le, lg_cmp_eq, Int64.lt_iff_toInt_lt, Int64.le_iff_toInt_le, Int32.lt_iff_toInt_lt, Int32.le_iff_toInt_le, eqT32, eqT64, Int32.toInt_toInt64, Int64.reduceToInt, Int32.reduceToInt] at g23); (try simp only [lg_cmp_lt, lg_cmp_ge, lg_cmp_gt, lg_cmp_le, lg_cmp_eq, Int64.lt_iff_toInt_lt, Int64.le_iff_toInt_le, Int32.lt_iff_toInt_lt, Int32.le_iff_toInt_le, eqT32, eqT64, Int32.toInt_toInt64, Int64.reduceToInt, Int32.reduceToInt] at g24); (try unfold aCount); (try simp only [lg_cmp_lt, lg_cmp_ge, lg_cmp_gt, lg_cmp_le, lg_cmp_eq, Int64.lt_iff_toInt_lt, Int64.le_iff_toInt_le, Int32.lt_iff_toInt_lt, Int32.le_iff_toInt_le, eqT32, eqT64, Int32.toInt_toInt64, Int64.reduceToInt, Int32.reduceToInt]); (repeat' split) <;> first | rfl | (exfalso; omega) | omega | simp_all), trivial⟩, hS.F ht⟩) hS.2.2 dX6_count_23
      · skip
        refine lv_if_eq (tgt := 24) hx hb dX6_count_14 (by decide) (fun _ => ?_) (fun c9 => absurd (by decide) c9)
        refine lv_iconst (v := 0) hx hb dX6_count_24 (by decide) ?_
        refine lv_istore_n (lv' := [(2, .int 0), (0, .ref h), (1, .int 2)]) hx hb dX6_count_25 rfl hl (by decide) rfl (fun ls hl => ?_)
        refine lv_iload_n hx hb dX6_count_26 rfl (lv_at hl 2 rfl) ?_
        refine lv_tableOut (tgt := 97) hx hb dX6_count_27 (by decide) (by decide) ?_
        refine lv_iconst (v := (-1)) hx hb dX6_count_97 (by decide) ?_
        exact W.iret (v := (-1)) hx hb hr (fun t ht _ => ⟨⟨(-1), (), rfl, (by (try simp only [lg_cmp_lt, lg_cmp_ge, lg_cmp_gt, lg_cmp_le, lg_cmp_eq, Int64.lt_iff_toInt_lt, Int64.le_iff_toInt_le, Int32.lt_iff_toInt_lt, Int32.le_iff_toInt_le, eqT32, eqT64, Int32.toInt_toInt64, Int64.reduceToInt, Int32.reduceToInt] at g25); (try unfold aCount); (try simp only [lg_cmp_lt, lg_cmp_ge, lg_cmp_gt, lg_cmp_le, lg_cmp_eq, Int64.lt_iff_toInt_lt, Int64.le_iff_toInt_le, Int32.lt_iff_toInt_lt, Int32.le_iff_toInt_le, eqT32, eqT64, Int32.toInt_toInt64, Int64.reduceToInt, Int32.reduceToInt]); (repeat' split) <;> first | rfl | (exfalso; omega) | omega | simp_all), trivial⟩, hS.F ht⟩) hS.2.2 dX6_count_98
    · skip
      refine lv_aload_n hx hb dX6_count_0 rfl (lv_at hl 0 rfl) ?_
      refine lv_iconst (v := 0) hx hb dX6_count_1 (by decide) ?_
      refine va_put (D := D) (ci := 6) (v := .int 0) (ty := .int) (C := RX6) (T := TX6) (N := 36) hx hb hts hi6 tyX6 tyX6_ok nmX6 hown hK hP hD hS 0 rfl rfl 0 (by decide) (hts (.fieldLink RX6 71 "AlibiRotaModel" "thrown" "I") (by decide +kernel)) (fun _ h9 => h9) rfl (by decide +kernel) rfl rfl (Nat.le_of_ble_eq_true rfl) dX6_count_2 (fun H locs hP hD hS => ?_)
      have hP : va_P D vwCl [(h, .inr (6, [.int 0, .ref (r 1), .ref (r 2), .ref (r 3), .ref (r 4), .ref (r 5), .int 0, .int 0, .int 0, .int 0, .int 0, .long 0, .int 0, .int 0, .int 0, .int (-1), .ref (r 16), .ref (r 17), .ref (r 18), .ref (r 19), .ref (r 20), .ref (r 21), .ref (r 22), .ref (r 23), .ref (r 24), .int 0, .int 0, .int 0, .int 0, .int 0, .ref (r 30), .ref (r 31), .ref (r 32), .ref (r 33), .int 0, .int 0])), (r 17, .inl (cI, 50, .inl (fun _ => 0))), (r 16, .inl (cI, 5, .inl (fun _ => 0))), (r 1, .inl (cI, 4, .inl fw))] H := hP
      have hD : va_D A [(h, .inr (6, [.int 0, .ref (r 1), .ref (r 2), .ref (r 3), .ref (r 4), .ref (r 5), .int 0, .int 0, .int 0, .int 0, .int 0, .long 0, .int 0, .int 0, .int 0, .int (-1), .ref (r 16), .ref (r 17), .ref (r 18), .ref (r 19), .ref (r 20), .ref (r 21), .ref (r 22), .ref (r 23), .ref (r 24), .int 0, .int 0, .int 0, .int 0, .int 0, .ref (r 30), .ref (r 31), .ref (r 32), .ref (r 33), .int 0, .int 0])), (r 17, .inl (cI, 50, .inl (fun _ => 0))), (r 16, .inl (cI, 5, .inl (fun _ => 0))), (r 1, .inl (cI, 4, .inl fw))] := hD
      refine lv_iload_n hx hb dX6_count_5 rfl (lv_at hl 1 rfl) ?_
      refine lv_i2l (v := 3) hx hb dX6_count_6 (by decide) ?_
      refine lv_lconst (v := 0) hx hb dX6_count_7 (by decide) ?_
      refine lv_ldc2 hx hb hown (hts (.constantLong RX6 425 (8)) (by decide +kernel)) dX6_count_8 ?_
      have hPc := hP.sub (ws' := []) [] rfl
      refine vp_callSi (va_Run.run (va_runS (As := [.long 3, .long 0, .long 8]) (rest := []) ⟨hx, hb, hml, hown, hts⟩ (m_in l D cI cZ cB cJ cR 3 0 8) (cwS 3 hts gX6_count_X6_in rfl rfl rfl (by decide +kernel) ⟨Nat.le_of_ble_eq_true rfl, Nat.le_of_ble_eq_true rfl⟩) ⟨fbS, pS_at hPc hk⟩ rfl rfl hl.1 rfl (lv_room (Nat.le_of_ble_eq_true rfl)) dX6_count_11 ⟨show 0 ≤ 0 by decide, show 0 ≤ 0 by decide⟩)) (fun r27 hr27 => ?_)
      rcases hr27 with ⟨rfl, g28, g29⟩ | ⟨rfl, g30⟩
      · skip
        refine lv_if_eq (tgt := 24) hx hb dX6_count_14 (by decide) (fun c9 => absurd c9 (by decide)) (fun _ => ?_)
        refine lv_aload_n hx hb dX6_count_17 rfl (lv_at hl 0 rfl) ?_
        refine va_get (D := D) (ci := 6) (v := .ref (r 17)) (C := RX6) (T := TX6) (N := 36) hx hb hts hi6 hown hK hP 0 rfl rfl 17 (by decide) (hts (.fieldLink RX6 34 "AlibiRotaModel" "has" "[I") (by decide +kernel)) (fun _ h9 => h9) rfl dX6_count_18 ?_
        refine lv_iload_n hx hb dX6_count_21 rfl (lv_at hl 1 rfl) ?_
        refine va_iald hx hb hK hP 1 0 rfl rfl (inC 3 50 (by decide)) dX6_count_22 ?_
        refine lv_topi (fun v31 ev31 => ?_)
        obtain rfl : v31 = 0 := ev31
        exact W.iret (v := 0) hx hb hr (fun t ht _ => ⟨⟨0, (), rfl, (by (try simp only [lg_cmp_lt, lg_cmp_ge, lg_cmp_gt, lg_cmp_le, lg_cmp_eq, Int64.lt_iff_toInt_lt, Int64.le_iff_toInt_le, Int32.lt_iff_toInt_lt, Int32.le_iff_toInt_le, eqT32, eqT64, Int32.toInt_toInt64, Int64.reduceToInt, Int32.reduceToInt] at g28); (try simp only [lg_cmp_lt, lg_cmp_ge, lg_cmp_gt, lg_cmp_le, lg_cmp_eq, Int64.lt_iff_toInt_lt, Int64.le_iff_toInt_le, Int32.lt_iff_toInt_lt, Int32.le_iff_toInt_le, eqT32, eqT64, Int32.toInt_toInt64, Int64.reduceToInt, Int32.reduceToInt] at g29); (try unfold aCount); (try simp only [lg_cmp_lt, lg_cmp_ge, lg_cmp_gt, lg_cmp_le, lg_cmp_eq, Int64.lt_iff_toInt_lt, Int64.le_iff_toInt_le, Int32.lt_iff_toInt_lt, Int32.le_iff_toInt_le, eqT32, eqT64, Int32.toInt_toInt64, Int64.reduceToInt, Int32.reduceToInt]); (repeat' split) <;> first | rfl | (exfalso; omega) | omega | simp_all), trivial⟩, hS.F ht⟩) hS.2.2 dX6_count_23
      · skip
        refine lv_if_eq (tgt := 24) hx hb dX6_count_14 (by decide) (fun _ => ?_) (fun c9 => absurd (by decide) c9)
        refine lv_iconst (v := 0) hx hb dX6_count_24 (by decide) ?_
        refine lv_istore_n (lv' := [(2, .int 0), (0, .ref h), (1, .int 3)]) hx hb dX6_count_25 rfl hl (by decide) rfl (fun ls hl => ?_)
        refine lv_iload_n hx hb dX6_count_26 rfl (lv_at hl 2 rfl) ?_
        refine lv_tableOut (tgt := 97) hx hb dX6_count_27 (by decide) (by decide) ?_
        refine lv_iconst (v := (-1)) hx hb dX6_count_97 (by decide) ?_
        exact W.iret (v := (-1)) hx hb hr (fun t ht _ => ⟨⟨(-1), (), rfl, (by (try simp only [lg_cmp_lt, lg_cmp_ge, lg_cmp_gt, lg_cmp_le, lg_cmp_eq, Int64.lt_iff_toInt_lt, Int64.le_iff_toInt_le, Int32.lt_iff_toInt_lt, Int32.le_iff_toInt_le, eqT32, eqT64, Int32.toInt_toInt64, Int64.reduceToInt, Int32.reduceToInt] at g30); (try unfold aCount); (try simp only [lg_cmp_lt, lg_cmp_ge, lg_cmp_gt, lg_cmp_le, lg_cmp_eq, Int64.lt_iff_toInt_lt, Int64.le_iff_toInt_le, Int32.lt_iff_toInt_lt, Int32.le_iff_toInt_le, eqT32, eqT64, Int32.toInt_toInt64, Int64.reduceToInt, Int32.reduceToInt]); (repeat' split) <;> first | rfl | (exfalso; omega) | omega | simp_all), trivial⟩, hS.F ht⟩) hS.2.2 dX6_count_98
    · skip
      refine lv_aload_n hx hb dX6_count_0 rfl (lv_at hl 0 rfl) ?_
      refine lv_iconst (v := 0) hx hb dX6_count_1 (by decide) ?_
      refine va_put (D := D) (ci := 6) (v := .int 0) (ty := .int) (C := RX6) (T := TX6) (N := 36) hx hb hts hi6 tyX6 tyX6_ok nmX6 hown hK hP hD hS 0 rfl rfl 0 (by decide) (hts (.fieldLink RX6 71 "AlibiRotaModel" "thrown" "I") (by decide +kernel)) (fun _ h9 => h9) rfl (by decide +kernel) rfl rfl (Nat.le_of_ble_eq_true rfl) dX6_count_2 (fun H locs hP hD hS => ?_)
      have hP : va_P D vwCl [(h, .inr (6, [.int 0, .ref (r 1), .ref (r 2), .ref (r 3), .ref (r 4), .ref (r 5), .int 0, .int 0, .int 0, .int 0, .int 0, .long 0, .int 0, .int 0, .int 0, .int (-1), .ref (r 16), .ref (r 17), .ref (r 18), .ref (r 19), .ref (r 20), .ref (r 21), .ref (r 22), .ref (r 23), .ref (r 24), .int 0, .int 0, .int 0, .int 0, .int 0, .ref (r 30), .ref (r 31), .ref (r 32), .ref (r 33), .int 0, .int 0])), (r 17, .inl (cI, 50, .inl (fun _ => 0))), (r 16, .inl (cI, 5, .inl (fun _ => 0))), (r 1, .inl (cI, 4, .inl fw))] H := hP
      have hD : va_D A [(h, .inr (6, [.int 0, .ref (r 1), .ref (r 2), .ref (r 3), .ref (r 4), .ref (r 5), .int 0, .int 0, .int 0, .int 0, .int 0, .long 0, .int 0, .int 0, .int 0, .int (-1), .ref (r 16), .ref (r 17), .ref (r 18), .ref (r 19), .ref (r 20), .ref (r 21), .ref (r 22), .ref (r 23), .ref (r 24), .int 0, .int 0, .int 0, .int 0, .int 0, .ref (r 30), .ref (r 31), .ref (r 32), .ref (r 33), .int 0, .int 0])), (r 17, .inl (cI, 50, .inl (fun _ => 0))), (r 16, .inl (cI, 5, .inl (fun _ => 0))), (r 1, .inl (cI, 4, .inl fw))] := hD
      refine lv_iload_n hx hb dX6_count_5 rfl (lv_at hl 1 rfl) ?_
      refine lv_i2l (v := 4) hx hb dX6_count_6 (by decide) ?_
      refine lv_lconst (v := 0) hx hb dX6_count_7 (by decide) ?_
      refine lv_ldc2 hx hb hown (hts (.constantLong RX6 425 (8)) (by decide +kernel)) dX6_count_8 ?_
      have hPc := hP.sub (ws' := []) [] rfl
      refine vp_callSi (va_Run.run (va_runS (As := [.long 4, .long 0, .long 8]) (rest := []) ⟨hx, hb, hml, hown, hts⟩ (m_in l D cI cZ cB cJ cR 4 0 8) (cwS 3 hts gX6_count_X6_in rfl rfl rfl (by decide +kernel) ⟨Nat.le_of_ble_eq_true rfl, Nat.le_of_ble_eq_true rfl⟩) ⟨fbS, pS_at hPc hk⟩ rfl rfl hl.1 rfl (lv_room (Nat.le_of_ble_eq_true rfl)) dX6_count_11 ⟨show 0 ≤ 0 by decide, show 0 ≤ 0 by decide⟩)) (fun r32 hr32 => ?_)
      rcases hr32 with ⟨rfl, g33, g34⟩ | ⟨rfl, g35⟩
      · skip
        refine lv_if_eq (tgt := 24) hx hb dX6_count_14 (by decide) (fun c9 => absurd c9 (by decide)) (fun _ => ?_)
        refine lv_aload_n hx hb dX6_count_17 rfl (lv_at hl 0 rfl) ?_
        refine va_get (D := D) (ci := 6) (v := .ref (r 17)) (C := RX6) (T := TX6) (N := 36) hx hb hts hi6 hown hK hP 0 rfl rfl 17 (by decide) (hts (.fieldLink RX6 34 "AlibiRotaModel" "has" "[I") (by decide +kernel)) (fun _ h9 => h9) rfl dX6_count_18 ?_
        refine lv_iload_n hx hb dX6_count_21 rfl (lv_at hl 1 rfl) ?_
        refine va_iald hx hb hK hP 1 0 rfl rfl (inC 4 50 (by decide)) dX6_count_22 ?_
        refine lv_topi (fun v36 ev36 => ?_)
        obtain rfl : v36 = 0 := ev36
        exact W.iret (v := 0) hx hb hr (fun t ht _ => ⟨⟨0, (), rfl, (by (try simp only [lg_cmp_lt, lg_cmp_ge, lg_cmp_gt, lg_cmp_le, lg_cmp_eq, Int64.lt_iff_toInt_lt, Int64.le_iff_toInt_le, Int32.lt_iff_toInt_lt, Int32.le_iff_toInt_le, eqT32, eqT64, Int32.toInt_toInt64, Int64.reduceToInt, Int32.reduceToInt] at g33); (try simp only [lg_cmp_lt, lg_cmp_ge, lg_cmp_gt, lg_cmp_le, lg_cmp_eq, Int64.lt_iff_toInt_lt, Int64.le_iff_toInt_le, Int32.lt_iff_toInt_lt, Int32.le_iff_toInt_le, eqT32, eqT64, Int32.toInt_toInt64, Int64.reduceToInt, Int32.reduceToInt] at g34); (try unfold aCount); (try simp only [lg_cmp_lt, lg_cmp_ge, lg_cmp_gt, lg_cmp_le, lg_cmp_eq, Int64.lt_iff_toInt_lt, Int64.le_iff_toInt_le, Int32.lt_iff_toInt_lt, Int32.le_iff_toInt_le, eqT32, eqT64, Int32.toInt_toInt64, Int64.reduceToInt, Int32.reduceToInt]); (repeat' split) <;> first | rfl | (exfalso; omega) | omega | simp_all), trivial⟩, hS.F ht⟩) hS.2.2 dX6_count_23
      · skip
        refine lv_if_eq (tgt := 24) hx hb dX6_count_14 (by decide) (fun _ => ?_) (fun c9 => absurd (by decide) c9)
        refine lv_iconst (v := 0) hx hb dX6_count_24 (by decide) ?_
        refine lv_istore_n (lv' := [(2, .int 0), (0, .ref h), (1, .int 4)]) hx hb dX6_count_25 rfl hl (by decide) rfl (fun ls hl => ?_)
        refine lv_iload_n hx hb dX6_count_26 rfl (lv_at hl 2 rfl) ?_
        refine lv_tableOut (tgt := 97) hx hb dX6_count_27 (by decide) (by decide) ?_
        refine lv_iconst (v := (-1)) hx hb dX6_count_97 (by decide) ?_
        exact W.iret (v := (-1)) hx hb hr (fun t ht _ => ⟨⟨(-1), (), rfl, (by (try simp only [lg_cmp_lt, lg_cmp_ge, lg_cmp_gt, lg_cmp_le, lg_cmp_eq, Int64.lt_iff_toInt_lt, Int64.le_iff_toInt_le, Int32.lt_iff_toInt_lt, Int32.le_iff_toInt_le, eqT32, eqT64, Int32.toInt_toInt64, Int64.reduceToInt, Int32.reduceToInt] at g35); (try unfold aCount); (try simp only [lg_cmp_lt, lg_cmp_ge, lg_cmp_gt, lg_cmp_le, lg_cmp_eq, Int64.lt_iff_toInt_lt, Int64.le_iff_toInt_le, Int32.lt_iff_toInt_lt, Int32.le_iff_toInt_le, eqT32, eqT64, Int32.toInt_toInt64, Int64.reduceToInt, Int32.reduceToInt]); (repeat' split) <;> first | rfl | (exfalso; omega) | omega | simp_all), trivial⟩, hS.F ht⟩) hS.2.2 dX6_count_98
    · skip
      refine lv_aload_n hx hb dX6_count_0 rfl (lv_at hl 0 rfl) ?_
      refine lv_iconst (v := 0) hx hb dX6_count_1 (by decide) ?_
      refine va_put (D := D) (ci := 6) (v := .int 0) (ty := .int) (C := RX6) (T := TX6) (N := 36) hx hb hts hi6 tyX6 tyX6_ok nmX6 hown hK hP hD hS 0 rfl rfl 0 (by decide) (hts (.fieldLink RX6 71 "AlibiRotaModel" "thrown" "I") (by decide +kernel)) (fun _ h9 => h9) rfl (by decide +kernel) rfl rfl (Nat.le_of_ble_eq_true rfl) dX6_count_2 (fun H locs hP hD hS => ?_)
      have hP : va_P D vwCl [(h, .inr (6, [.int 0, .ref (r 1), .ref (r 2), .ref (r 3), .ref (r 4), .ref (r 5), .int 0, .int 0, .int 0, .int 0, .int 0, .long 0, .int 0, .int 0, .int 0, .int (-1), .ref (r 16), .ref (r 17), .ref (r 18), .ref (r 19), .ref (r 20), .ref (r 21), .ref (r 22), .ref (r 23), .ref (r 24), .int 0, .int 0, .int 0, .int 0, .int 0, .ref (r 30), .ref (r 31), .ref (r 32), .ref (r 33), .int 0, .int 0])), (r 17, .inl (cI, 50, .inl (fun _ => 0))), (r 16, .inl (cI, 5, .inl (fun _ => 0))), (r 1, .inl (cI, 4, .inl fw))] H := hP
      have hD : va_D A [(h, .inr (6, [.int 0, .ref (r 1), .ref (r 2), .ref (r 3), .ref (r 4), .ref (r 5), .int 0, .int 0, .int 0, .int 0, .int 0, .long 0, .int 0, .int 0, .int 0, .int (-1), .ref (r 16), .ref (r 17), .ref (r 18), .ref (r 19), .ref (r 20), .ref (r 21), .ref (r 22), .ref (r 23), .ref (r 24), .int 0, .int 0, .int 0, .int 0, .int 0, .ref (r 30), .ref (r 31), .ref (r 32), .ref (r 33), .int 0, .int 0])), (r 17, .inl (cI, 50, .inl (fun _ => 0))), (r 16, .inl (cI, 5, .inl (fun _ => 0))), (r 1, .inl (cI, 4, .inl fw))] := hD
      refine lv_iload_n hx hb dX6_count_5 rfl (lv_at hl 1 rfl) ?_
      refine lv_i2l (v := 5) hx hb dX6_count_6 (by decide) ?_
      refine lv_lconst (v := 0) hx hb dX6_count_7 (by decide) ?_
      refine lv_ldc2 hx hb hown (hts (.constantLong RX6 425 (8)) (by decide +kernel)) dX6_count_8 ?_
      have hPc := hP.sub (ws' := []) [] rfl
      refine vp_callSi (va_Run.run (va_runS (As := [.long 5, .long 0, .long 8]) (rest := []) ⟨hx, hb, hml, hown, hts⟩ (m_in l D cI cZ cB cJ cR 5 0 8) (cwS 3 hts gX6_count_X6_in rfl rfl rfl (by decide +kernel) ⟨Nat.le_of_ble_eq_true rfl, Nat.le_of_ble_eq_true rfl⟩) ⟨fbS, pS_at hPc hk⟩ rfl rfl hl.1 rfl (lv_room (Nat.le_of_ble_eq_true rfl)) dX6_count_11 ⟨show 0 ≤ 0 by decide, show 0 ≤ 0 by decide⟩)) (fun r37 hr37 => ?_)
      rcases hr37 with ⟨rfl, g38, g39⟩ | ⟨rfl, g40⟩
      · skip
        refine lv_if_eq (tgt := 24) hx hb dX6_count_14 (by decide) (fun c9 => absurd c9 (by decide)) (fun _ => ?_)
        refine lv_aload_n hx hb dX6_count_17 rfl (lv_at hl 0 rfl) ?_
        refine va_get (D := D) (ci := 6) (v := .ref (r 17)) (C := RX6) (T := TX6) (N := 36) hx hb hts hi6 hown hK hP 0 rfl rfl 17 (by decide) (hts (.fieldLink RX6 34 "AlibiRotaModel" "has" "[I") (by decide +kernel)) (fun _ h9 => h9) rfl dX6_count_18 ?_
        refine lv_iload_n hx hb dX6_count_21 rfl (lv_at hl 1 rfl) ?_
        refine va_iald hx hb hK hP 1 0 rfl rfl (inC 5 50 (by decide)) dX6_count_22 ?_
        refine lv_topi (fun v41 ev41 => ?_)
        obtain rfl : v41 = 0 := ev41
        exact W.iret (v := 0) hx hb hr (fun t ht _ => ⟨⟨0, (), rfl, (by (try simp only [lg_cmp_lt, lg_cmp_ge, lg_cmp_gt, lg_cmp_le, lg_cmp_eq, Int64.lt_iff_toInt_lt, Int64.le_iff_toInt_le, Int32.lt_iff_toInt_lt, Int32.le_iff_toInt_le, eqT32, eqT64, Int32.toInt_toInt64, Int64.reduceToInt, Int32.reduceToInt] at g38); (try simp only [lg_cmp_lt, lg_cmp_ge, lg_cmp_gt, lg_cmp_le, lg_cmp_eq, Int64.lt_iff_toInt_lt, Int64.le_iff_toInt_le, Int32.lt_iff_toInt_lt, Int32.le_iff_toInt_le, eqT32, eqT64, Int32.toInt_toInt64, Int64.reduceToInt, Int32.reduceToInt] at g39); (try unfold aCount); (try simp only [lg_cmp_lt, lg_cmp_ge, lg_cmp_gt, lg_cmp_le, lg_cmp_eq, Int64.lt_iff_toInt_lt, Int64.le_iff_toInt_le, Int32.lt_iff_toInt_lt, Int32.le_iff_toInt_le, eqT32, eqT64, Int32.toInt_toInt64, Int64.reduceToInt, Int32.reduceToInt]); (repeat' split) <;> first | rfl | (exfalso; omega) | omega | simp_all), trivial⟩, hS.F ht⟩) hS.2.2 dX6_count_23
      · skip
        refine lv_if_eq (tgt := 24) hx hb dX6_count_14 (by decide) (fun _ => ?_) (fun c9 => absurd (by decide) c9)
        refine lv_iconst (v := 0) hx hb dX6_count_24 (by decide) ?_
        refine lv_istore_n (lv' := [(2, .int 0), (0, .ref h), (1, .int 5)]) hx hb dX6_count_25 rfl hl (by decide) rfl (fun ls hl => ?_)
        refine lv_iload_n hx hb dX6_count_26 rfl (lv_at hl 2 rfl) ?_
        refine lv_tableOut (tgt := 97) hx hb dX6_count_27 (by decide) (by decide) ?_
        refine lv_iconst (v := (-1)) hx hb dX6_count_97 (by decide) ?_
        exact W.iret (v := (-1)) hx hb hr (fun t ht _ => ⟨⟨(-1), (), rfl, (by (try simp only [lg_cmp_lt, lg_cmp_ge, lg_cmp_gt, lg_cmp_le, lg_cmp_eq, Int64.lt_iff_toInt_lt, Int64.le_iff_toInt_le, Int32.lt_iff_toInt_lt, Int32.le_iff_toInt_le, eqT32, eqT64, Int32.toInt_toInt64, Int64.reduceToInt, Int32.reduceToInt] at g40); (try unfold aCount); (try simp only [lg_cmp_lt, lg_cmp_ge, lg_cmp_gt, lg_cmp_le, lg_cmp_eq, Int64.lt_iff_toInt_lt, Int64.le_iff_toInt_le, Int32.lt_iff_toInt_lt, Int32.le_iff_toInt_le, eqT32, eqT64, Int32.toInt_toInt64, Int64.reduceToInt, Int32.reduceToInt]); (repeat' split) <;> first | rfl | (exfalso; omega) | omega | simp_all), trivial⟩, hS.F ht⟩) hS.2.2 dX6_count_98
    · skip
      refine lv_aload_n hx hb dX6_count_0 rfl (lv_at hl 0 rfl) ?_
      refine lv_iconst (v := 0) hx hb dX6_count_1 (by decide) ?_
      refine va_put (D := D) (ci := 6) (v := .int 0) (ty := .int) (C := RX6) (T := TX6) (N := 36) hx hb hts hi6 tyX6 tyX6_ok nmX6 hown hK hP hD hS 0 rfl rfl 0 (by decide) (hts (.fieldLink RX6 71 "AlibiRotaModel" "thrown" "I") (by decide +kernel)) (fun _ h9 => h9) rfl (by decide +kernel) rfl rfl (Nat.le_of_ble_eq_true rfl) dX6_count_2 (fun H locs hP hD hS => ?_)
      have hP : va_P D vwCl [(h, .inr (6, [.int 0, .ref (r 1), .ref (r 2), .ref (r 3), .ref (r 4), .ref (r 5), .int 0, .int 0, .int 0, .int 0, .int 0, .long 0, .int 0, .int 0, .int 0, .int (-1), .ref (r 16), .ref (r 17), .ref (r 18), .ref (r 19), .ref (r 20), .ref (r 21), .ref (r 22), .ref (r 23), .ref (r 24), .int 0, .int 0, .int 0, .int 0, .int 0, .ref (r 30), .ref (r 31), .ref (r 32), .ref (r 33), .int 0, .int 0])), (r 17, .inl (cI, 50, .inl (fun _ => 0))), (r 16, .inl (cI, 5, .inl (fun _ => 0))), (r 1, .inl (cI, 4, .inl fw))] H := hP
      have hD : va_D A [(h, .inr (6, [.int 0, .ref (r 1), .ref (r 2), .ref (r 3), .ref (r 4), .ref (r 5), .int 0, .int 0, .int 0, .int 0, .int 0, .long 0, .int 0, .int 0, .int 0, .int (-1), .ref (r 16), .ref (r 17), .ref (r 18), .ref (r 19), .ref (r 20), .ref (r 21), .ref (r 22), .ref (r 23), .ref (r 24), .int 0, .int 0, .int 0, .int 0, .int 0, .ref (r 30), .ref (r 31), .ref (r 32), .ref (r 33), .int 0, .int 0])), (r 17, .inl (cI, 50, .inl (fun _ => 0))), (r 16, .inl (cI, 5, .inl (fun _ => 0))), (r 1, .inl (cI, 4, .inl fw))] := hD
      refine lv_iload_n hx hb dX6_count_5 rfl (lv_at hl 1 rfl) ?_
      refine lv_i2l (v := 6) hx hb dX6_count_6 (by decide) ?_
      refine lv_lconst (v := 0) hx hb dX6_count_7 (by decide) ?_
      refine lv_ldc2 hx hb hown (hts (.constantLong RX6 425 (8)) (by decide +kernel)) dX6_count_8 ?_
      have hPc := hP.sub (ws' := []) [] rfl
      refine vp_callSi (va_Run.run (va_runS (As := [.long 6, .long 0, .long 8]) (rest := []) ⟨hx, hb, hml, hown, hts⟩ (m_in l D cI cZ cB cJ cR 6 0 8) (cwS 3 hts gX6_count_X6_in rfl rfl rfl (by decide +kernel) ⟨Nat.le_of_ble_eq_true rfl, Nat.le_of_ble_eq_true rfl⟩) ⟨fbS, pS_at hPc hk⟩ rfl rfl hl.1 rfl (lv_room (Nat.le_of_ble_eq_true rfl)) dX6_count_11 ⟨show 0 ≤ 0 by decide, show 0 ≤ 0 by decide⟩)) (fun r42 hr42 => ?_)
      rcases hr42 with ⟨rfl, g43, g44⟩ | ⟨rfl, g45⟩
      · skip
        refine lv_if_eq (tgt := 24) hx hb dX6_count_14 (by decide) (fun c9 => absurd c9 (by decide)) (fun _ => ?_)
        refine lv_aload_n hx hb dX6_count_17 rfl (lv_at hl 0 rfl) ?_
        refine va_get (D := D) (ci := 6) (v := .ref (r 17)) (C := RX6) (T := TX6) (N := 36) hx hb hts hi6 hown hK hP 0 rfl rfl 17 (by decide) (hts (.fieldLink RX6 34 "AlibiRotaModel" "has" "[I") (by decide +kernel)) (fun _ h9 => h9) rfl dX6_count_18 ?_
        refine lv_iload_n hx hb dX6_count_21 rfl (lv_at hl 1 rfl) ?_
        refine va_iald hx hb hK hP 1 0 rfl rfl (inC 6 50 (by decide)) dX6_count_22 ?_
        refine lv_topi (fun v46 ev46 => ?_)
        obtain rfl : v46 = 0 := ev46
        exact W.iret (v := 0) hx hb hr (fun t ht _ => ⟨⟨0, (), rfl, (by (try simp only [lg_cmp_lt, lg_cmp_ge, lg_cmp_gt, lg_cmp_le, lg_cmp_eq, Int64.lt_iff_toInt_lt, Int64.le_iff_toInt_le, Int32.lt_iff_toInt_lt, Int32.le_iff_toInt_le, eqT32, eqT64, Int32.toInt_toInt64, Int64.reduceToInt, Int32.reduceToInt] at g43); (try simp only [lg_cmp_lt, lg_cmp_ge, lg_cmp_gt, lg_cmp_le, lg_cmp_eq, Int64.lt_iff_toInt_lt, Int64.le_iff_toInt_le, Int32.lt_iff_toInt_lt, Int32.le_iff_toInt_le, eqT32, eqT64, Int32.toInt_toInt64, Int64.reduceToInt, Int32.reduceToInt] at g44); (try unfold aCount); (try simp only [lg_cmp_lt, lg_cmp_ge, lg_cmp_gt, lg_cmp_le, lg_cmp_eq, Int64.lt_iff_toInt_lt, Int64.le_iff_toInt_le, Int32.lt_iff_toInt_lt, Int32.le_iff_toInt_le, eqT32, eqT64, Int32.toInt_toInt64, Int64.reduceToInt, Int32.reduceToInt]); (repeat' split) <;> first | rfl | (exfalso; omega) | omega | simp_all), trivial⟩, hS.F ht⟩) hS.2.2 dX6_count_23
      · skip
        refine lv_if_eq (tgt := 24) hx hb dX6_count_14 (by decide) (fun _ => ?_) (fun c9 => absurd (by decide) c9)
        refine lv_iconst (v := 0) hx hb dX6_count_24 (by decide) ?_
        refine lv_istore_n (lv' := [(2, .int 0), (0, .ref h), (1, .int 6)]) hx hb dX6_count_25 rfl hl (by decide) rfl (fun ls hl => ?_)
        refine lv_iload_n hx hb dX6_count_26 rfl (lv_at hl 2 rfl) ?_
        refine lv_tableOut (tgt := 97) hx hb dX6_count_27 (by decide) (by decide) ?_
        refine lv_iconst (v := (-1)) hx hb dX6_count_97 (by decide) ?_
        exact W.iret (v := (-1)) hx hb hr (fun t ht _ => ⟨⟨(-1), (), rfl, (by (try simp only [lg_cmp_lt, lg_cmp_ge, lg_cmp_gt, lg_cmp_le, lg_cmp_eq, Int64.lt_iff_toInt_lt, Int64.le_iff_toInt_le, Int32.lt_iff_toInt_lt, Int32.le_iff_toInt_le, eqT32, eqT64, Int32.toInt_toInt64, Int64.reduceToInt, Int32.reduceToInt] at g45); (try unfold aCount); (try simp only [lg_cmp_lt, lg_cmp_ge, lg_cmp_gt, lg_cmp_le, lg_cmp_eq, Int64.lt_iff_toInt_lt, Int64.le_iff_toInt_le, Int32.lt_iff_toInt_lt, Int32.le_iff_toInt_le, eqT32, eqT64, Int32.toInt_toInt64, Int64.reduceToInt, Int32.reduceToInt]); (repeat' split) <;> first | rfl | (exfalso; omega) | omega | simp_all), trivial⟩, hS.F ht⟩) hS.2.2 dX6_count_98
    · skip
      refine lv_aload_n hx hb dX6_count_0 rfl (lv_at hl 0 rfl) ?_
      refine lv_iconst (v := 0) hx hb dX6_count_1 (by decide) ?_
      refine va_put (D := D) (ci := 6) (v := .int 0) (ty := .int) (C := RX6) (T := TX6) (N := 36) hx hb hts hi6 tyX6 tyX6_ok nmX6 hown hK hP hD hS 0 rfl rfl 0 (by decide) (hts (.fieldLink RX6 71 "AlibiRotaModel" "thrown" "I") (by decide +kernel)) (fun _ h9 => h9) rfl (by decide +kernel) rfl rfl (Nat.le_of_ble_eq_true rfl) dX6_count_2 (fun H locs hP hD hS => ?_)
      have hP : va_P D vwCl [(h, .inr (6, [.int 0, .ref (r 1), .ref (r 2), .ref (r 3), .ref (r 4), .ref (r 5), .int 0, .int 0, .int 0, .int 0, .int 0, .long 0, .int 0, .int 0, .int 0, .int (-1), .ref (r 16), .ref (r 17), .ref (r 18), .ref (r 19), .ref (r 20), .ref (r 21), .ref (r 22), .ref (r 23), .ref (r 24), .int 0, .int 0, .int 0, .int 0, .int 0, .ref (r 30), .ref (r 31), .ref (r 32), .ref (r 33), .int 0, .int 0])), (r 17, .inl (cI, 50, .inl (fun _ => 0))), (r 16, .inl (cI, 5, .inl (fun _ => 0))), (r 1, .inl (cI, 4, .inl fw))] H := hP
      have hD : va_D A [(h, .inr (6, [.int 0, .ref (r 1), .ref (r 2), .ref (r 3), .ref (r 4), .ref (r 5), .int 0, .int 0, .int 0, .int 0, .int 0, .long 0, .int 0, .int 0, .int 0, .int (-1), .ref (r 16), .ref (r 17), .ref (r 18), .ref (r 19), .ref (r 20), .ref (r 21), .ref (r 22), .ref (r 23), .ref (r 24), .int 0, .int 0, .int 0, .int 0, .int 0, .ref (r 30), .ref (r 31), .ref (r 32), .ref (r 33), .int 0, .int 0])), (r 17, .inl (cI, 50, .inl (fun _ => 0))), (r 16, .inl (cI, 5, .inl (fun _ => 0))), (r 1, .inl (cI, 4, .inl fw))] := hD
      refine lv_iload_n hx hb dX6_count_5 rfl (lv_at hl 1 rfl) ?_
      refine lv_i2l (v := 7) hx hb dX6_count_6 (by decide) ?_
      refine lv_lconst (v := 0) hx hb dX6_count_7 (by decide) ?_
      refine lv_ldc2 hx hb hown (hts (.constantLong RX6 425 (8)) (by decide +kernel)) dX6_count_8 ?_
      have hPc := hP.sub (ws' := []) [] rfl
      refine vp_callSi (va_Run.run (va_runS (As := [.long 7, .long 0, .long 8]) (rest := []) ⟨hx, hb, hml, hown, hts⟩ (m_in l D cI cZ cB cJ cR 7 0 8) (cwS 3 hts gX6_count_X6_in rfl rfl rfl (by decide +kernel) ⟨Nat.le_of_ble_eq_true rfl, Nat.le_of_ble_eq_true rfl⟩) ⟨fbS, pS_at hPc hk⟩ rfl rfl hl.1 rfl (lv_room (Nat.le_of_ble_eq_true rfl)) dX6_count_11 ⟨show 0 ≤ 0 by decide, show 0 ≤ 0 by decide⟩)) (fun r47 hr47 => ?_)
      rcases hr47 with ⟨rfl, g48, g49⟩ | ⟨rfl, g50⟩
      · skip
        refine lv_if_eq (tgt := 24) hx hb dX6_count_14 (by decide) (fun c9 => absurd c9 (by decide)) (fun _ => ?_)
        refine lv_aload_n hx hb dX6_count_17 rfl (lv_at hl 0 rfl) ?_
        refine va_get (D := D) (ci := 6) (v := .ref (r 17)) (C := RX6) (T := TX6) (N := 36) hx hb hts hi6 hown hK hP 0 rfl rfl 17 (by decide) (hts (.fieldLink RX6 34 "AlibiRotaModel" "has" "[I") (by decide +kernel)) (fun _ h9 => h9) rfl dX6_count_18 ?_
        refine lv_iload_n hx hb dX6_count_21 rfl (lv_at hl 1 rfl) ?_
        refine va_iald hx hb hK hP 1 0 rfl rfl (inC 7 50 (by decide)) dX6_count_22 ?_
        refine lv_topi (fun v51 ev51 => ?_)
        obtain rfl : v51 = 0 := ev51
        exact W.iret (v := 0) hx hb hr (fun t ht _ => ⟨⟨0, (), rfl, (by (try simp only [lg_cmp_lt, lg_cmp_ge, lg_cmp_gt, lg_cmp_le, lg_cmp_eq, Int64.lt_iff_toInt_lt, Int64.le_iff_toInt_le, Int32.lt_iff_toInt_lt, Int32.le_iff_toInt_le, eqT32, eqT64, Int32.toInt_toInt64, Int64.reduceToInt, Int32.reduceToInt] at g48); (try simp only [lg_cmp_lt, lg_cmp_ge, lg_cmp_gt, lg_cmp_le, lg_cmp_eq, Int64.lt_iff_toInt_lt, Int64.le_iff_toInt_le, Int32.lt_iff_toInt_lt, Int32.le_iff_toInt_le, eqT32, eqT64, Int32.toInt_toInt64, Int64.reduceToInt, Int32.reduceToInt] at g49); (try unfold aCount); (try simp only [lg_cmp_lt, lg_cmp_ge, lg_cmp_gt, lg_cmp_le, lg_cmp_eq, Int64.lt_iff_toInt_lt, Int64.le_iff_toInt_le, Int32.lt_iff_toInt_lt, Int32.le_iff_toInt_le, eqT32, eqT64, Int32.toInt_toInt64, Int64.reduceToInt, Int32.reduceToInt]); (repeat' split) <;> first | rfl | (exfalso; omega) | omega | simp_all), trivial⟩, hS.F ht⟩) hS.2.2 dX6_count_23
      · skip
        refine lv_if_eq (tgt := 24) hx hb dX6_count_14 (by decide) (fun _ => ?_) (fun c9 => absurd (by decide) c9)
        refine lv_iconst (v := 0) hx hb dX6_count_24 (by decide) ?_
        refine lv_istore_n (lv' := [(2, .int 0), (0, .ref h), (1, .int 7)]) hx hb dX6_count_25 rfl hl (by decide) rfl (fun ls hl => ?_)
        refine lv_iload_n hx hb dX6_count_26 rfl (lv_at hl 2 rfl) ?_
        refine lv_tableOut (tgt := 97) hx hb dX6_count_27 (by decide) (by decide) ?_
        refine lv_iconst (v := (-1)) hx hb dX6_count_97 (by decide) ?_
        exact W.iret (v := (-1)) hx hb hr (fun t ht _ => ⟨⟨(-1), (), rfl, (by (try simp only [lg_cmp_lt, lg_cmp_ge, lg_cmp_gt, lg_cmp_le, lg_cmp_eq, Int64.lt_iff_toInt_lt, Int64.le_iff_toInt_le, Int32.lt_iff_toInt_lt, Int32.le_iff_toInt_le, eqT32, eqT64, Int32.toInt_toInt64, Int64.reduceToInt, Int32.reduceToInt] at g50); (try unfold aCount); (try simp only [lg_cmp_lt, lg_cmp_ge, lg_cmp_gt, lg_cmp_le, lg_cmp_eq, Int64.lt_iff_toInt_lt, Int64.le_iff_toInt_le, Int32.lt_iff_toInt_lt, Int32.le_iff_toInt_le, eqT32, eqT64, Int32.toInt_toInt64, Int64.reduceToInt, Int32.reduceToInt]); (repeat' split) <;> first | rfl | (exfalso; omega) | omega | simp_all), trivial⟩, hS.F ht⟩) hS.2.2 dX6_count_98
    · skip
      refine lv_aload_n hx hb dX6_count_0 rfl (lv_at hl 0 rfl) ?_
      refine lv_iconst (v := 0) hx hb dX6_count_1 (by decide) ?_
      refine va_put (D := D) (ci := 6) (v := .int 0) (ty := .int) (C := RX6) (T := TX6) (N := 36) hx hb hts hi6 tyX6 tyX6_ok nmX6 hown hK hP hD hS 0 rfl rfl 0 (by decide) (hts (.fieldLink RX6 71 "AlibiRotaModel" "thrown" "I") (by decide +kernel)) (fun _ h9 => h9) rfl (by decide +kernel) rfl rfl (Nat.le_of_ble_eq_true rfl) dX6_count_2 (fun H locs hP hD hS => ?_)
      have hP : va_P D vwCl [(h, .inr (6, [.int 0, .ref (r 1), .ref (r 2), .ref (r 3), .ref (r 4), .ref (r 5), .int 0, .int 0, .int 0, .int 0, .int 0, .long 0, .int 0, .int 0, .int 0, .int (-1), .ref (r 16), .ref (r 17), .ref (r 18), .ref (r 19), .ref (r 20), .ref (r 21), .ref (r 22), .ref (r 23), .ref (r 24), .int 0, .int 0, .int 0, .int 0, .int 0, .ref (r 30), .ref (r 31), .ref (r 32), .ref (r 33), .int 0, .int 0])), (r 17, .inl (cI, 50, .inl (fun _ => 0))), (r 16, .inl (cI, 5, .inl (fun _ => 0))), (r 1, .inl (cI, 4, .inl fw))] H := hP
      have hD : va_D A [(h, .inr (6, [.int 0, .ref (r 1), .ref (r 2), .ref (r 3), .ref (r 4), .ref (r 5), .int 0, .int 0, .int 0, .int 0, .int 0, .long 0, .int 0, .int 0, .int 0, .int (-1), .ref (r 16), .ref (r 17), .ref (r 18), .ref (r 19), .ref (r 20), .ref (r 21), .ref (r 22), .ref (r 23), .ref (r 24), .int 0, .int 0, .int 0, .int 0, .int 0, .ref (r 30), .ref (r 31), .ref (r 32), .ref (r 33), .int 0, .int 0])), (r 17, .inl (cI, 50, .inl (fun _ => 0))), (r 16, .inl (cI, 5, .inl (fun _ => 0))), (r 1, .inl (cI, 4, .inl fw))] := hD
      refine lv_iload_n hx hb dX6_count_5 rfl (lv_at hl 1 rfl) ?_
      refine lv_i2l (v := 8) hx hb dX6_count_6 (by decide) ?_
      refine lv_lconst (v := 0) hx hb dX6_count_7 (by decide) ?_
      refine lv_ldc2 hx hb hown (hts (.constantLong RX6 425 (8)) (by decide +kernel)) dX6_count_8 ?_
      have hPc := hP.sub (ws' := []) [] rfl
      refine vp_callSi (va_Run.run (va_runS (As := [.long 8, .long 0, .long 8]) (rest := []) ⟨hx, hb, hml, hown, hts⟩ (m_in l D cI cZ cB cJ cR 8 0 8) (cwS 3 hts gX6_count_X6_in rfl rfl rfl (by decide +kernel) ⟨Nat.le_of_ble_eq_true rfl, Nat.le_of_ble_eq_true rfl⟩) ⟨fbS, pS_at hPc hk⟩ rfl rfl hl.1 rfl (lv_room (Nat.le_of_ble_eq_true rfl)) dX6_count_11 ⟨show 0 ≤ 0 by decide, show 0 ≤ 0 by decide⟩)) (fun r52 hr52 => ?_)
      rcases hr52 with ⟨rfl, g53, g54⟩ | ⟨rfl, g55⟩
      · skip
        refine lv_if_eq (tgt := 24) hx hb dX6_count_14 (by decide) (fun c9 => absurd c9 (by decide)) (fun _ => ?_)
        refine lv_aload_n hx hb dX6_count_17 rfl (lv_at hl 0 rfl) ?_
        refine va_get (D := D) (ci := 6) (v := .ref (r 17)) (C := RX6) (T := TX6) (N := 36) hx hb hts hi6 hown hK hP 0 rfl rfl 17 (by decide) (hts (.fieldLink RX6 34 "AlibiRotaModel" "has" "[I") (by decide +kernel)) (fun _ h9 => h9) rfl dX6_count_18 ?_
        refine lv_iload_n hx hb dX6_count_21 rfl (lv_at hl 1 rfl) ?_
        refine va_iald hx hb hK hP 1 0 rfl rfl (inC 8 50 (by decide)) dX6_count_22 ?_
        refine lv_topi (fun v56 ev56 => ?_)
        obtain rfl : v56 = 0 := ev56
        exact W.iret (v := 0) hx hb hr (fun t ht _ => ⟨⟨0, (), rfl, (by (try simp only [lg_cmp_lt, lg_cmp_ge, lg_cmp_gt, lg_cmp_le, lg_cmp_eq, Int64.lt_iff_toInt_lt, Int64.le_iff_toInt_le, Int32.lt_iff_toInt_lt, Int32.le_iff_toInt_le, eqT32, eqT64, Int32.toInt_toInt64, Int64.reduceToInt, Int32.reduceToInt] at g53); (try simp only [lg_cmp_lt, lg_cmp_ge, lg_cmp_gt, lg_cmp_le, lg_cmp_eq, Int64.lt_iff_toInt_lt, Int64.le_iff_toInt_le, Int32.lt_iff_toInt_lt, Int32.le_iff_toInt_le, eqT32, eqT64, Int32.toInt_toInt64, Int64.reduceToInt, Int32.reduceToInt] at g54); (try unfold aCount); (try simp only [lg_cmp_lt, lg_cmp_ge, lg_cmp_gt, lg_cmp_le, lg_cmp_eq, Int64.lt_iff_toInt_lt, Int64.le_iff_toInt_le, Int32.lt_iff_toInt_lt, Int32.le_iff_toInt_le, eqT32, eqT64, Int32.toInt_toInt64, Int64.reduceToInt, Int32.reduceToInt]); (repeat' split) <;> first | rfl | (exfalso; omega) | omega | simp_all), trivial⟩, hS.F ht⟩) hS.2.2 dX6_count_23
      · skip
        refine lv_if_eq (tgt := 24) hx hb dX6_count_14 (by decide) (fun _ => ?_) (fun c9 => absurd (by decide) c9)
        refine lv_iconst (v := 0) hx hb dX6_count_24 (by decide) ?_
        refine lv_istore_n (lv' := [(2, .int 0), (0, .ref h), (1, .int 8)]) hx hb dX6_count_25 rfl hl (by decide) rfl (fun ls hl => ?_)
        refine lv_iload_n hx hb dX6_count_26 rfl (lv_at hl 2 rfl) ?_
        refine lv_tableOut (tgt := 97) hx hb dX6_count_27 (by decide) (by decide) ?_
        refine lv_iconst (v := (-1)) hx hb dX6_count_97 (by decide) ?_
        exact W.iret (v := (-1)) hx hb hr (fun t ht _ => ⟨⟨(-1), (), rfl, (by (try simp only [lg_cmp_lt, lg_cmp_ge, lg_cmp_gt, lg_cmp_le, lg_cmp_eq, Int64.lt_iff_toInt_lt, Int64.le_iff_toInt_le, Int32.lt_iff_toInt_lt, Int32.le_iff_toInt_le, eqT32, eqT64, Int32.toInt_toInt64, Int64.reduceToInt, Int32.reduceToInt] at g55); (try unfold aCount); (try simp only [lg_cmp_lt, lg_cmp_ge, lg_cmp_gt, lg_cmp_le, lg_cmp_eq, Int64.lt_iff_toInt_lt, Int64.le_iff_toInt_le, Int32.lt_iff_toInt_lt, Int32.le_iff_toInt_le, eqT32, eqT64, Int32.toInt_toInt64, Int64.reduceToInt, Int32.reduceToInt]); (repeat' split) <;> first | rfl | (exfalso; omega) | omega | simp_all), trivial⟩, hS.F ht⟩) hS.2.2 dX6_count_98
    · skip
      refine lv_aload_n hx hb dX6_count_0 rfl (lv_at hl 0 rfl) ?_
      refine lv_iconst (v := 0) hx hb dX6_count_1 (by decide) ?_
      refine va_put (D := D) (ci := 6) (v := .int 0) (ty := .int) (C := RX6) (T := TX6) (N := 36) hx hb hts hi6 tyX6 tyX6_ok nmX6 hown hK hP hD hS 0 rfl rfl 0 (by decide) (hts (.fieldLink RX6 71 "AlibiRotaModel" "thrown" "I") (by decide +kernel)) (fun _ h9 => h9) rfl (by decide +kernel) rfl rfl (Nat.le_of_ble_eq_true rfl) dX6_count_2 (fun H locs hP hD hS => ?_)
      have hP : va_P D vwCl [(h, .inr (6, [.int 0, .ref (r 1), .ref (r 2), .ref (r 3), .ref (r 4), .ref (r 5), .int 0, .int 0, .int 0, .int 0, .int 0, .long 0, .int 0, .int 0, .int 0, .int (-1), .ref (r 16), .ref (r 17), .ref (r 18), .ref (r 19), .ref (r 20), .ref (r 21), .ref (r 22), .ref (r 23), .ref (r 24), .int 0, .int 0, .int 0, .int 0, .int 0, .ref (r 30), .ref (r 31), .ref (r 32), .ref (r 33), .int 0, .int 0])), (r 17, .inl (cI, 50, .inl (fun _ => 0))), (r 16, .inl (cI, 5, .inl (fun _ => 0))), (r 1, .inl (cI, 4, .inl fw))] H := hP
      have hD : va_D A [(h, .inr (6, [.int 0, .ref (r 1), .ref (r 2), .ref (r 3), .ref (r 4), .ref (r 5), .int 0, .int 0, .int 0, .int 0, .int 0, .long 0, .int 0, .int 0, .int 0, .int (-1), .ref (r 16), .ref (r 17), .ref (r 18), .ref (r 19), .ref (r 20), .ref (r 21), .ref (r 22), .ref (r 23), .ref (r 24), .int 0, .int 0, .int 0, .int 0, .int 0, .ref (r 30), .ref (r 31), .ref (r 32), .ref (r 33), .int 0, .int 0])), (r 17, .inl (cI, 50, .inl (fun _ => 0))), (r 16, .inl (cI, 5, .inl (fun _ => 0))), (r 1, .inl (cI, 4, .inl fw))] := hD
      refine lv_iload_n hx hb dX6_count_5 rfl (lv_at hl 1 rfl) ?_
      refine lv_i2l (v := 9) hx hb dX6_count_6 (by decide) ?_
      refine lv_lconst (v := 0) hx hb dX6_count_7 (by decide) ?_
      refine lv_ldc2 hx hb hown (hts (.constantLong RX6 425 (8)) (by decide +kernel)) dX6_count_8 ?_
      have hPc := hP.sub (ws' := []) [] rfl
      refine vp_callSi (va_Run.run (va_runS (As := [.long 9, .long 0, .long 8]) (rest := []) ⟨hx, hb, hml, hown, hts⟩ (m_in l D cI cZ cB cJ cR 9 0 8) (cwS 3 hts gX6_count_X6_in rfl rfl rfl (by decide +kernel) ⟨Nat.le_of_ble_eq_true rfl, Nat.le_of_ble_eq_true rfl⟩) ⟨fbS, pS_at hPc hk⟩ rfl rfl hl.1 rfl (lv_room (Nat.le_of_ble_eq_true rfl)) dX6_count_11 ⟨show 0 ≤ 0 by decide, show 0 ≤ 0 by decide⟩)) (fun r57 hr57 => ?_)
      rcases hr57 with ⟨rfl, g58, g59⟩ | ⟨rfl, g60⟩
      · skip
        refine lv_if_eq (tgt := 24) hx hb dX6_count_14 (by decide) (fun c9 => absurd c9 (by decide)) (fun _ => ?_)
        refine lv_aload_n hx hb dX6_count_17 rfl (lv_at hl 0 rfl) ?_
        refine va_get (D := D) (ci := 6) (v := .ref (r 17)) (C := RX6) (T := TX6) (N := 36) hx hb hts hi6 hown hK hP 0 rfl rfl 17 (by decide) (hts (.fieldLink RX6 34 "AlibiRotaModel" "has" "[I") (by decide +kernel)) (fun _ h9 => h9) rfl dX6_count_18 ?_
        refine lv_iload_n hx hb dX6_count_21 rfl (lv_at hl 1 rfl) ?_
        refine va_iald hx hb hK hP 1 0 rfl rfl (inC 9 50 (by decide)) dX6_count_22 ?_
        refine lv_topi (fun v61 ev61 => ?_)
        obtain rfl : v61 = 0 := ev61
        exact W.iret (v := 0) hx hb hr (fun t ht _ => ⟨⟨0, (), rfl, (by (try simp only [lg_cmp_lt, lg_cmp_ge, lg_cmp_gt, lg_cmp_le, lg_cmp_eq, Int64.lt_iff_toInt_lt, Int64.le_iff_toInt_le, Int32.lt_iff_toInt_lt, Int32.le_iff_toInt_le, eqT32, eqT64, Int32.toInt_toInt64, Int64.reduceToInt, Int32.reduceToInt] at g58); (try simp only [lg_cmp_lt, lg_cmp_ge, lg_cmp_gt, lg_cmp_le, lg_cmp_eq, Int64.lt_iff_toInt_lt, Int64.le_iff_toInt_le, Int32.lt_iff_toInt_lt, Int32.le_iff_toInt_le, eqT32, eqT64, Int32.toInt_toInt64, Int64.reduceToInt, Int32.reduceToInt] at g59); (try unfold aCount); (try simp only [lg_cmp_lt, lg_cmp_ge, lg_cmp_gt, lg_cmp_le, lg_cmp_eq, Int64.lt_iff_toInt_lt, Int64.le_iff_toInt_le, Int32.lt_iff_toInt_lt, Int32.le_iff_toInt_le, eqT32, eqT64, Int32.toInt_toInt64, Int64.reduceToInt, Int32.reduceToInt]); (repeat' split) <;> first | rfl | (exfalso; omega) | omega | simp_all), trivial⟩, hS.F ht⟩) hS.2.2 dX6_count_23
      · skip
        refine lv_if_eq (tgt := 24) hx hb dX6_count_14 (by decide) (fun _ => ?_) (fun c9 => absurd (by decide) c9)
        refine lv_iconst (v := 0) hx hb dX6_count_24 (by decide) ?_
        refine lv_istore_n (lv' := [(2, .int 0), (0, .ref h), (1, .int 9)]) hx hb dX6_count_25 rfl hl (by decide) rfl (fun ls hl => ?_)
        refine lv_iload_n hx hb dX6_count_26 rfl (lv_at hl 2 rfl) ?_
        refine lv_tableIn (tgt := 52) hx hb dX6_count_27 (by decide) (by decide) rfl (by decide) ?_
        refine lv_aload_n hx hb dX6_count_52 rfl (lv_at hl 1 rfl) ?_
        refine va_get (D := D) (ci := 6) (v := .ref (r 16)) (C := RX6) (T := TX6) (N := 36) hx hb hts hi6 hown hK hP 0 rfl rfl 16 (by decide) (hts (.fieldLink RX6 31 "AlibiRotaModel" "lines" "[I") (by decide +kernel)) (fun _ h9 => h9) rfl dX6_count_53 ?_
        refine lv_iconst (v := 0) hx hb dX6_count_56 (by decide) ?_
        refine va_iald hx hb hK hP 2 0 rfl rfl (inC 0 5 (by decide)) dX6_count_57 ?_
        refine lv_topi (fun v62 ev62 => ?_)
        obtain rfl : v62 = 0 := ev62
        exact W.iret (v := 0) hx hb hr (fun t ht _ => ⟨⟨0, (), rfl, (by (try simp only [lg_cmp_lt, lg_cmp_ge, lg_cmp_gt, lg_cmp_le, lg_cmp_eq, Int64.lt_iff_toInt_lt, Int64.le_iff_toInt_le, Int32.lt_iff_toInt_lt, Int32.le_iff_toInt_le, eqT32, eqT64, Int32.toInt_toInt64, Int64.reduceToInt, Int32.reduceToInt] at g60); (try unfold aCount); (try simp only [lg_cmp_lt, lg_cmp_ge, lg_cmp_gt, lg_cmp_le, lg_cmp_eq, Int64.lt_iff_toInt_lt, Int64.le_iff_toInt_le, Int32.lt_iff_toInt_lt, Int32.le_iff_toInt_le, eqT32, eqT64, Int32.toInt_toInt64, Int64.reduceToInt, Int32.reduceToInt]); (repeat' split) <;> first | rfl | (exfalso; omega) | omega | simp_all), trivial⟩, hS.F ht⟩) hS.2.2 dX6_count_58
    · skip
      refine lv_aload_n hx hb dX6_count_0 rfl (lv_at hl 0 rfl) ?_
      refine lv_iconst (v := 0) hx hb dX6_count_1 (by decide) ?_
      refine va_put (D := D) (ci := 6) (v := .int 0) (ty := .int) (C := RX6) (T := TX6) (N := 36) hx hb hts hi6 tyX6 tyX6_ok nmX6 hown hK hP hD hS 0 rfl rfl 0 (by decide) (hts (.fieldLink RX6 71 "AlibiRotaModel" "thrown" "I") (by decide +kernel)) (fun _ h9 => h9) rfl (by decide +kernel) rfl rfl (Nat.le_of_ble_eq_true rfl) dX6_count_2 (fun H locs hP hD hS => ?_)
      have hP : va_P D vwCl [(h, .inr (6, [.int 0, .ref (r 1), .ref (r 2), .ref (r 3), .ref (r 4), .ref (r 5), .int 0, .int 0, .int 0, .int 0, .int 0, .long 0, .int 0, .int 0, .int 0, .int (-1), .ref (r 16), .ref (r 17), .ref (r 18), .ref (r 19), .ref (r 20), .ref (r 21), .ref (r 22), .ref (r 23), .ref (r 24), .int 0, .int 0, .int 0, .int 0, .int 0, .ref (r 30), .ref (r 31), .ref (r 32), .ref (r 33), .int 0, .int 0])), (r 17, .inl (cI, 50, .inl (fun _ => 0))), (r 16, .inl (cI, 5, .inl (fun _ => 0))), (r 1, .inl (cI, 4, .inl fw))] H := hP
      have hD : va_D A [(h, .inr (6, [.int 0, .ref (r 1), .ref (r 2), .ref (r 3), .ref (r 4), .ref (r 5), .int 0, .int 0, .int 0, .int 0, .int 0, .long 0, .int 0, .int 0, .int 0, .int (-1), .ref (r 16), .ref (r 17), .ref (r 18), .ref (r 19), .ref (r 20), .ref (r 21), .ref (r 22), .ref (r 23), .ref (r 24), .int 0, .int 0, .int 0, .int 0, .int 0, .ref (r 30), .ref (r 31), .ref (r 32), .ref (r 33), .int 0, .int 0])), (r 17, .inl (cI, 50, .inl (fun _ => 0))), (r 16, .inl (cI, 5, .inl (fun _ => 0))), (r 1, .inl (cI, 4, .inl fw))] := hD
      refine lv_iload_n hx hb dX6_count_5 rfl (lv_at hl 1 rfl) ?_
      refine lv_i2l (v := 10) hx hb dX6_count_6 (by decide) ?_
      refine lv_lconst (v := 0) hx hb dX6_count_7 (by decide) ?_
      refine lv_ldc2 hx hb hown (hts (.constantLong RX6 425 (8)) (by decide +kernel)) dX6_count_8 ?_
      have hPc := hP.sub (ws' := []) [] rfl
      refine vp_callSi (va_Run.run (va_runS (As := [.long 10, .long 0, .long 8]) (rest := []) ⟨hx, hb, hml, hown, hts⟩ (m_in l D cI cZ cB cJ cR 10 0 8) (cwS 3 hts gX6_count_X6_in rfl rfl rfl (by decide +kernel) ⟨Nat.le_of_ble_eq_true rfl, Nat.le_of_ble_eq_true rfl⟩) ⟨fbS, pS_at hPc hk⟩ rfl rfl hl.1 rfl (lv_room (Nat.le_of_ble_eq_true rfl)) dX6_count_11 ⟨show 0 ≤ 0 by decide, show 0 ≤ 0 by decide⟩)) (fun r63 hr63 => ?_)
      rcases hr63 with ⟨rfl, g64, g65⟩ | ⟨rfl, g66⟩
      · skip
        refine lv_if_eq (tgt := 24) hx hb dX6_count_14 (by decide) (fun c9 => absurd c9 (by decide)) (fun _ => ?_)
        refine lv_aload_n hx hb dX6_count_17 rfl (lv_at hl 0 rfl) ?_
        refine va_get (D := D) (ci := 6) (v := .ref (r 17)) (C := RX6) (T := TX6) (N := 36) hx hb hts hi6 hown hK hP 0 rfl rfl 17 (by decide) (hts (.fieldLink RX6 34 "AlibiRotaModel" "has" "[I") (by decide +kernel)) (fun _ h9 => h9) rfl dX6_count_18 ?_
        refine lv_iload_n hx hb dX6_count_21 rfl (lv_at hl 1 rfl) ?_
        refine va_iald hx hb hK hP 1 0 rfl rfl (inC 10 50 (by decide)) dX6_count_22 ?_
        refine lv_topi (fun v67 ev67 => ?_)
        obtain rfl : v67 = 0 := ev67
        exact W.iret (v := 0) hx hb hr (fun t ht _ => ⟨⟨0, (), rfl, (by (try simp only [lg_cmp_lt, lg_cmp_ge, lg_cmp_gt, lg_cmp_le, lg_cmp_eq, Int64.lt_iff_toInt_lt, Int64.le_iff_toInt_le, Int32.lt_iff_toInt_lt, Int32.le_iff_toInt_le, eqT32, eqT64, Int32.toInt_toInt64, Int64.reduceToInt, Int32.reduceToInt] at g64); (try simp only [lg_cmp_lt, lg_cmp_ge, lg_cmp_gt, lg_cmp_le, lg_cmp_eq, Int64.lt_iff_toInt_lt, Int64.le_iff_toInt_le, Int32.lt_iff_toInt_lt, Int32.le_iff_toInt_le, eqT32, eqT64, Int32.toInt_toInt64, Int64.reduceToInt, Int32.reduceToInt] at g65); (try unfold aCount); (try simp only [lg_cmp_lt, lg_cmp_ge, lg_cmp_gt, lg_cmp_le, lg_cmp_eq, Int64.lt_iff_toInt_lt, Int64.le_iff_toInt_le, Int32.lt_iff_toInt_lt, Int32.le_iff_toInt_le, eqT32, eqT64, Int32.toInt_toInt64, Int64.reduceToInt, Int32.reduceToInt]); (repeat' split) <;> first | rfl | (exfalso; omega) | omega | simp_all), trivial⟩, hS.F ht⟩) hS.2.2 dX6_count_23
      · skip
        refine lv_if_eq (tgt := 24) hx hb dX6_count_14 (by decide) (fun _ => ?_) (fun c9 => absurd (by decide) c9)
        refine lv_iconst (v := 0) hx hb dX6_count_24 (by decide) ?_
        refine lv_istore_n (lv' := [(2, .int 0), (0, .ref h), (1, .int 10)]) hx hb dX6_count_25 rfl hl (by decide) rfl (fun ls hl => ?_)
        refine lv_iload_n hx hb dX6_count_26 rfl (lv_at hl 2 rfl) ?_
        refine lv_tableIn (tgt := 59) hx hb dX6_count_27 (by decide) (by decide) rfl (by decide) ?_
        refine lv_aload_n hx hb dX6_count_59 rfl (lv_at hl 1 rfl) ?_
        refine va_get (D := D) (ci := 6) (v := .int 0) (C := RX6) (T := TX6) (N := 36) hx hb hts hi6 hown hK hP 0 rfl rfl 6 (by decide) (hts (.fieldLink RX6 88 "AlibiRotaModel" "taped" "I") (by decide +kernel)) (fun _ h9 => h9) rfl dX6_count_60 ?_
        exact W.iret (v := 0) hx hb hr (fun t ht _ => ⟨⟨0, (), rfl, (by (try simp only [lg_cmp_lt, lg_cmp_ge, lg_cmp_gt, lg_cmp_le, lg_cmp_eq, Int64.lt_iff_toInt_lt, Int64.le_iff_toInt_le, Int32.lt_iff_toInt_lt, Int32.le_iff_toInt_le, eqT32, eqT64, Int32.toInt_toInt64, Int64.reduceToInt, Int32.reduceToInt] at g66); (try unfold aCount); (try simp only [lg_cmp_lt, lg_cmp_ge, lg_cmp_gt, lg_cmp_le, lg_cmp_eq, Int64.lt_iff_toInt_lt, Int64.le_iff_toInt_le, Int32.lt_iff_toInt_lt, Int32.le_iff_toInt_le, eqT32, eqT64, Int32.toInt_toInt64, Int64.reduceToInt, Int32.reduceToInt]); (repeat' split) <;> first | rfl | (exfalso; omega) | omega | simp_all), trivial⟩, hS.F ht⟩) hS.2.2 dX6_count_63
    · skip
      refine lv_aload_n hx hb dX6_count_0 rfl (lv_at hl 0 rfl) ?_
      refine lv_iconst (v := 0) hx hb dX6_count_1 (by decide) ?_
      refine va_put (D := D) (ci := 6) (v := .int 0) (ty := .int) (C := RX6) (T := TX6) (N := 36) hx hb hts hi6 tyX6 tyX6_ok nmX6 hown hK hP hD hS 0 rfl rfl 0 (by decide) (hts (.fieldLink RX6 71 "AlibiRotaModel" "thrown" "I") (by decide +kernel)) (fun _ h9 => h9) rfl (by decide +kernel) rfl rfl (Nat.le_of_ble_eq_true rfl) dX6_count_2 (fun H locs hP hD hS => ?_)
      have hP : va_P D vwCl [(h, .inr (6, [.int 0, .ref (r 1), .ref (r 2), .ref (r 3), .ref (r 4), .ref (r 5), .int 0, .int 0, .int 0, .int 0, .int 0, .long 0, .int 0, .int 0, .int 0, .int (-1), .ref (r 16), .ref (r 17), .ref (r 18), .ref (r 19), .ref (r 20), .ref (r 21), .ref (r 22), .ref (r 23), .ref (r 24), .int 0, .int 0, .int 0, .int 0, .int 0, .ref (r 30), .ref (r 31), .ref (r 32), .ref (r 33), .int 0, .int 0])), (r 17, .inl (cI, 50, .inl (fun _ => 0))), (r 16, .inl (cI, 5, .inl (fun _ => 0))), (r 1, .inl (cI, 4, .inl fw))] H := hP
      have hD : va_D A [(h, .inr (6, [.int 0, .ref (r 1), .ref (r 2), .ref (r 3), .ref (r 4), .ref (r 5), .int 0, .int 0, .int 0, .int 0, .int 0, .long 0, .int 0, .int 0, .int 0, .int (-1), .ref (r 16), .ref (r 17), .ref (r 18), .ref (r 19), .ref (r 20), .ref (r 21), .ref (r 22), .ref (r 23), .ref (r 24), .int 0, .int 0, .int 0, .int 0, .int 0, .ref (r 30), .ref (r 31), .ref (r 32), .ref (r 33), .int 0, .int 0])), (r 17, .inl (cI, 50, .inl (fun _ => 0))), (r 16, .inl (cI, 5, .inl (fun _ => 0))), (r 1, .inl (cI, 4, .inl fw))] := hD
      refine lv_iload_n hx hb dX6_count_5 rfl (lv_at hl 1 rfl) ?_
      refine lv_i2l (v := 11) hx hb dX6_count_6 (by decide) ?_
      refine lv_lconst (v := 0) hx hb dX6_count_7 (by decide) ?_
      refine lv_ldc2 hx hb hown (hts (.constantLong RX6 425 (8)) (by decide +kernel)) dX6_count_8 ?_
      have hPc := hP.sub (ws' := []) [] rfl
      refine vp_callSi (va_Run.run (va_runS (As := [.long 11, .long 0, .long 8]) (rest := []) ⟨hx, hb, hml, hown, hts⟩ (m_in l D cI cZ cB cJ cR 11 0 8) (cwS 3 hts gX6_count_X6_in rfl rfl rfl (by decide +kernel) ⟨Nat.le_of_ble_eq_true rfl, Nat.le_of_ble_eq_true rfl⟩) ⟨fbS, pS_at hPc hk⟩ rfl rfl hl.1 rfl (lv_room (Nat.le_of_ble_eq_true rfl)) dX6_count_11 ⟨show 0 ≤ 0 by decide, show 0 ≤ 0 by decide⟩)) (fun r68 hr68 => ?_)
      rcases hr68 with ⟨rfl, g69, g70⟩ | ⟨rfl, g71⟩
      · skip
        refine lv_if_eq (tgt := 24) hx hb dX6_count_14 (by decide) (fun c9 => absurd c9 (by decide)) (fun _ => ?_)
        refine lv_aload_n hx hb dX6_count_17 rfl (lv_at hl 0 rfl) ?_
        refine va_get (D := D) (ci := 6) (v := .ref (r 17)) (C := RX6) (T := TX6) (N := 36) hx hb hts hi6 hown hK hP 0 rfl rfl 17 (by decide) (hts (.fieldLink RX6 34 "AlibiRotaModel" "has" "[I") (by decide +kernel)) (fun _ h9 => h9) rfl dX6_count_18 ?_
        refine lv_iload_n hx hb dX6_count_21 rfl (lv_at hl 1 rfl) ?_
        refine va_iald hx hb hK hP 1 0 rfl rfl (inC 11 50 (by decide)) dX6_count_22 ?_
        refine lv_topi (fun v72 ev72 => ?_)
        obtain rfl : v72 = 0 := ev72
        exact W.iret (v := 0) hx hb hr (fun t ht _ => ⟨⟨0, (), rfl, (by (try simp only [lg_cmp_lt, lg_cmp_ge, lg_cmp_gt, lg_cmp_le, lg_cmp_eq, Int64.lt_iff_toInt_lt, Int64.le_iff_toInt_le, Int32.lt_iff_toInt_lt, Int32.le_iff_toInt_le, eqT32, eqT64, Int32.toInt_toInt64, Int64.reduceToInt, Int32.reduceToInt] at g69); (try simp only [lg_cmp_lt, lg_cmp_ge, lg_cmp_gt, lg_cmp_le, lg_cmp_eq, Int64.lt_iff_toInt_lt, Int64.le_iff_toInt_le, Int32.lt_iff_toInt_lt, Int32.le_iff_toInt_le, eqT32, eqT64, Int32.toInt_toInt64, Int64.reduceToInt, Int32.reduceToInt] at g70); (try unfold aCount); (try simp only [lg_cmp_lt, lg_cmp_ge, lg_cmp_gt, lg_cmp_le, lg_cmp_eq, Int64.lt_iff_toInt_lt, Int64.le_iff_toInt_le, Int32.lt_iff_toInt_lt, Int32.le_iff_toInt_le, eqT32, eqT64, Int32.toInt_toInt64, Int64.reduceToInt, Int32.reduceToInt]); (repeat' split) <;> first | rfl | (exfalso; omega) | omega | simp_all), trivial⟩, hS.F ht⟩) hS.2.2 dX6_count_23
      · skip
        refine lv_if_eq (tgt := 24) hx hb dX6_count_14 (by decide) (fun _ => ?_) (fun c9 => absurd (by decide) c9)
        refine lv_iconst (v := 0) hx hb dX6_count_24 (by decide) ?_
        refine lv_istore_n (lv' := [(2, .int 0), (0, .ref h), (1, .int 11)]) hx hb dX6_count_25 rfl hl (by decide) rfl (fun ls hl => ?_)
        refine lv_iload_n hx hb dX6_count_26 rfl (lv_at hl 2 rfl) ?_
        refine lv_tableIn (tgt := 64) hx hb dX6_count_27 (by decide) (by decide) rfl (by decide) ?_
        refine lv_iconst (v := 0) hx hb dX6_count_64 (by decide) ?_
        refine lv_istore_n (lv' := [(3, .int 0), (2, .int 0), (0, .ref h), (1, .int 11)]) hx hb dX6_count_65 rfl hl (by decide) rfl (fun ls hl => ?_)
        refine lv_iload_n hx hb dX6_count_66 rfl (lv_at hl 0 rfl) ?_
        refine lv_iconst (v := 4) hx hb dX6_count_67 (by decide) ?_
        refine lv_icmp_ge (tgt := 95) hx hb dX6_count_68 (by decide) (fun c9 => absurd c9 (by decide)) (fun _ => ?_)
        refine lv_iload_n hx hb dX6_count_71 rfl (lv_at hl 1 rfl) ?_
        refine lv_aload_n hx hb dX6_count_72 rfl (lv_at hl 2 rfl) ?_
        refine va_get (D := D) (ci := 6) (v := .ref (r 1)) (C := RX6) (T := TX6) (N := 36) hx hb hts hi6 hown hK hP 0 rfl rfl 1 (by decide) (hts (.fieldLink RX6 7 "AlibiRotaModel" "width" "[I") (by decide +kernel)) (fun _ h9 => h9) rfl dX6_count_73 ?_
        refine lv_iload_n hx hb dX6_count_76 rfl (lv_at hl 0 rfl) ?_
        refine va_iald hx hb hK hP 3 0 rfl rfl (inC 0 4 (by decide)) dX6_count_77 ?_
        refine lv_topi (fun v73 ev73 => ?_)
        obtain rfl : v73 = (-1) := ev73.trans (hw 0 (by decide))
        refine lv_iconst (v := (-1)) hx hb dX6_count_78 (by decide) ?_
        refine lv_icmp_ne (tgt := 86) hx hb dX6_count_79 (by decide) (fun c9 => absurd (by decide) c9) (fun _ => ?_)
        refine lv_iconst (v := 0) hx hb dX6_count_82 (by decide) ?_
        refine lv_goto (tgt := 87) hx hb dX6_count_83 (by decide) ?_
        refine lv_iadd hx hb dX6_count_87 ?_
        refine lv_topi (fun v74 ev74 => ?_)
        obtain rfl : v74 = 0 := ev74.trans (by decide)
        refine lv_istore_n (lv' := [(2, .int 0), (3, .int 0), (0, .ref h), (1, .int 11)]) hx hb dX6_count_88 rfl hl (by decide) rfl (fun ls hl => ?_)
        refine lv_iinc (v := 1) (lv' := [(3, .int 1), (2, .int 0), (0, .ref h), (1, .int 11)]) hx hb dX6_count_89 hl (k := 1) rfl (by decide) (by decide) rfl (fun ls hl => ?_)
        refine lv_goto (tgt := 66) hx hb dX6_count_92 (by decide) ?_
        refine lv_iload_n hx hb dX6_count_66 rfl (lv_at hl 0 rfl) ?_
        refine lv_iconst (v := 4) hx hb dX6_count_67 (by decide) ?_
        refine lv_icmp_ge (tgt := 95) hx hb dX6_count_68 (by decide) (fun c9 => absurd c9 (by decide)) (fun _ => ?_)
        refine lv_iload_n hx hb dX6_count_71 rfl (lv_at hl 1 rfl) ?_
        refine lv_aload_n hx hb dX6_count_72 rfl (lv_at hl 2 rfl) ?_
        refine va_get (D := D) (ci := 6) (v := .ref (r 1)) (C := RX6) (T := TX6) (N := 36) hx hb hts hi6 hown hK hP 0 rfl rfl 1 (by decide) (hts (.fieldLink RX6 7 "AlibiRotaModel" "width" "[I") (by decide +kernel)) (fun _ h9 => h9) rfl dX6_count_73 ?_
        refine lv_iload_n hx hb dX6_count_76 rfl (lv_at hl 0 rfl) ?_
        refine va_iald hx hb hK hP 3 0 rfl rfl (inC 1 4 (by decide)) dX6_count_77 ?_
        refine lv_topi (fun v75 ev75 => ?_)
        obtain rfl : v75 = (-1) := ev75.trans (hw 1 (by decide))
        refine lv_iconst (v := (-1)) hx hb dX6_count_78 (by decide) ?_
        refine lv_icmp_ne (tgt := 86) hx hb dX6_count_79 (by decide) (fun c9 => absurd (by decide) c9) (fun _ => ?_)
        refine lv_iconst (v := 0) hx hb dX6_count_82 (by decide) ?_
        refine lv_goto (tgt := 87) hx hb dX6_count_83 (by decide) ?_
        refine lv_iadd hx hb dX6_count_87 ?_
        refine lv_topi (fun v76 ev76 => ?_)
        obtain rfl : v76 = 0 := ev76.trans (by decide)
        refine lv_istore_n (lv' := [(2, .int 0), (3, .int 1), (0, .ref h), (1, .int 11)]) hx hb dX6_count_88 rfl hl (by decide) rfl (fun ls hl => ?_)
        refine lv_iinc (v := 2) (lv' := [(3, .int 2), (2, .int 0), (0, .ref h), (1, .int 11)]) hx hb dX6_count_89 hl (k := 1) rfl (by decide) (by decide) rfl (fun ls hl => ?_)
        refine lv_goto (tgt := 66) hx hb dX6_count_92 (by decide) ?_
        refine lv_iload_n hx hb dX6_count_66 rfl (lv_at hl 0 rfl) ?_
        refine lv_iconst (v := 4) hx hb dX6_count_67 (by decide) ?_
        refine lv_icmp_ge (tgt := 95) hx hb dX6_count_68 (by decide) (fun c9 => absurd c9 (by decide)) (fun _ => ?_)
        refine lv_iload_n hx hb dX6_count_71 rfl (lv_at hl 1 rfl) ?_
        refine lv_aload_n hx hb dX6_count_72 rfl (lv_at hl 2 rfl) ?_
        refine va_get (D := D) (ci := 6) (v := .ref (r 1)) (C := RX6) (T := TX6) (N := 36) hx hb hts hi6 hown hK hP 0 rfl rfl 1 (by decide) (hts (.fieldLink RX6 7 "AlibiRotaModel" "width" "[I") (by decide +kernel)) (fun _ h9 => h9) rfl dX6_count_73 ?_
        refine lv_iload_n hx hb dX6_count_76 rfl (lv_at hl 0 rfl) ?_
        refine va_iald hx hb hK hP 3 0 rfl rfl (inC 2 4 (by decide)) dX6_count_77 ?_
        refine lv_topi (fun v77 ev77 => ?_)
        obtain rfl : v77 = (-1) := ev77.trans (hw 2 (by decide))
        refine lv_iconst (v := (-1)) hx hb dX6_count_78 (by decide) ?_
        refine lv_icmp_ne (tgt := 86) hx hb dX6_count_79 (by decide) (fun c9 => absurd (by decide) c9) (fun _ => ?_)
        refine lv_iconst (v := 0) hx hb dX6_count_82 (by decide) ?_
        refine lv_goto (tgt := 87) hx hb dX6_count_83 (by decide) ?_
        refine lv_iadd hx hb dX6_count_87 ?_
        refine lv_topi (fun v78 ev78 => ?_)
        obtain rfl : v78 = 0 := ev78.trans (by decide)
        refine lv_istore_n (lv' := [(2, .int 0), (3, .int 2), (0, .ref h), (1, .int 11)]) hx hb dX6_count_88 rfl hl (by decide) rfl (fun ls hl => ?_)
        refine lv_iinc (v := 3) (lv' := [(3, .int 3), (2, .int 0), (0, .ref h), (1, .int 11)]) hx hb dX6_count_89 hl (k := 1) rfl (by decide) (by decide) rfl (fun ls hl => ?_)
        refine lv_goto (tgt := 66) hx hb dX6_count_92 (by decide) ?_
        refine lv_iload_n hx hb dX6_count_66 rfl (lv_at hl 0 rfl) ?_
        refine lv_iconst (v := 4) hx hb dX6_count_67 (by decide) ?_
        refine lv_icmp_ge (tgt := 95) hx hb dX6_count_68 (by decide) (fun c9 => absurd c9 (by decide)) (fun _ => ?_)
        refine lv_iload_n hx hb dX6_count_71 rfl (lv_at hl 1 rfl) ?_
        refine lv_aload_n hx hb dX6_count_72 rfl (lv_at hl 2 rfl) ?_
        refine va_get (D := D) (ci := 6) (v := .ref (r 1)) (C := RX6) (T := TX6) (N := 36) hx hb hts hi6 hown hK hP 0 rfl rfl 1 (by decide) (hts (.fieldLink RX6 7 "AlibiRotaModel" "width" "[I") (by decide +kernel)) (fun _ h9 => h9) rfl dX6_count_73 ?_
        refine lv_iload_n hx hb dX6_count_76 rfl (lv_at hl 0 rfl) ?_
        refine va_iald hx hb hK hP 3 0 rfl rfl (inC 3 4 (by decide)) dX6_count_77 ?_
        refine lv_topi (fun v79 ev79 => ?_)
        obtain rfl : v79 = (-1) := ev79.trans (hw 3 (by decide))
        refine lv_iconst (v := (-1)) hx hb dX6_count_78 (by decide) ?_
        refine lv_icmp_ne (tgt := 86) hx hb dX6_count_79 (by decide) (fun c9 => absurd (by decide) c9) (fun _ => ?_)
        refine lv_iconst (v := 0) hx hb dX6_count_82 (by decide) ?_
        refine lv_goto (tgt := 87) hx hb dX6_count_83 (by decide) ?_
        refine lv_iadd hx hb dX6_count_87 ?_
        refine lv_topi (fun v80 ev80 => ?_)
        obtain rfl : v80 = 0 := ev80.trans (by decide)
        refine lv_istore_n (lv' := [(2, .int 0), (3, .int 3), (0, .ref h), (1, .int 11)]) hx hb dX6_count_88 rfl hl (by decide) rfl (fun ls hl => ?_)
        refine lv_iinc (v := 4) (lv' := [(3, .int 4), (2, .int 0), (0, .ref h), (1, .int 11)]) hx hb dX6_count_89 hl (k := 1) rfl (by decide) (by decide) rfl (fun ls hl => ?_)
        refine lv_goto (tgt := 66) hx hb dX6_count_92 (by decide) ?_
        refine lv_iload_n hx hb dX6_count_66 rfl (lv_at hl 0 rfl) ?_
        refine lv_iconst (v := 4) hx hb dX6_count_67 (by decide) ?_
        refine lv_icmp_ge (tgt := 95) hx hb dX6_count_68 (by decide) (fun _ => ?_) (fun c9 => absurd (by decide) c9)
        refine lv_iload_n hx hb dX6_count_95 rfl (lv_at hl 1 rfl) ?_
        exact W.iret (v := 0) hx hb hr (fun t ht _ => ⟨⟨0, (), rfl, (by (try simp only [lg_cmp_lt, lg_cmp_ge, lg_cmp_gt, lg_cmp_le, lg_cmp_eq, Int64.lt_iff_toInt_lt, Int64.le_iff_toInt_le, Int32.lt_iff_toInt_lt, Int32.le_iff_toInt_le, eqT32, eqT64, Int32.toInt_toInt64, Int64.reduceToInt, Int32.reduceToInt] at g71); (try unfold aCount); (try simp only [lg_cmp_lt, lg_cmp_ge, lg_cmp_gt, lg_cmp_le, lg_cmp_eq, Int64.lt_iff_toInt_lt, Int64.le_iff_toInt_le, Int32.lt_iff_toInt_lt, Int32.le_iff_toInt_le, eqT32, eqT64, Int32.toInt_toInt64, Int64.reduceToInt, Int32.reduceToInt]); (repeat' split) <;> first | rfl | (exfalso; omega) | omega | simp_all), trivial⟩, hS.F ht⟩) hS.2.2 dX6_count_96
