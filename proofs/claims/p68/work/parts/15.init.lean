set_option maxHeartbeats 4000000 in
set_option maxRecDepth 100000 in
theorem k_Tape_init (l : Launch) (D : va_G) (cI cZ cB cJ cR : ClassId) (a sz : Nat) : Met l yX4_init wsX4_init ({ frames := 1, cells := 1, slots := 1200, locals := 12 }) (va_Pc [.ref a] (pQ D cI cZ cB cJ cR [(a, .inr (4, [.null, .int 0, .int 0, .int 0, .int 0, .int 0, .int 0, .int 0]))] sz)) (va_Qv (fun (_ : Nat) => True) (fun (u : Nat) t => va_P D vwCl [(a, .inr (4, [.ref u, .int 0, .int 0, .int (-1), .int 0, .int 0, .int 0, .int 0])), (u, .inl (cB, 1200, .inl (fun _ => 0)))] t.heap ∧ va_D (va_A [(a, .inr (4, [.null, .int 0, .int 0, .int 0, .int 0, .int 0, .int 0, .int 0]))] sz) [(a, .inr (4, [.ref u, .int 0, .int 0, .int (-1), .int 0, .int 0, .int 0, .int 0])), (u, .inl (cB, 1200, .inl (fun _ => 0)))]) (va_A [(a, .inr (4, [.null, .int 0, .int 0, .int 0, .int 0, .int 0, .int 0, .int 0]))] sz)) 1 1200 (va_A [(a, .inr (4, [.null, .int 0, .int 0, .int 0, .int 0, .int 0, .int 0, .int 0]))] sz) := by
  refine Met.ofW (cc := cX4_init) (maxL := 1) (ret := none) (by decide) rfl ?_
  intro p e s m args below meth c s₁ B hml hv
  obtain ⟨rfl, hsz, hP, hk, hD0⟩ := hv
  have hK := hk.1
  have hz := hk.2.1
  have hx := B.exec
  have hb := B.bytes
  have hr := B.returns
  have hts := atoms_spec (ws := wsX4_init) B.pre
  have hown : s.vm.findClass RX4 = some m.cls := findClass_of_methodNamed B.named
  have hlocks := B.notSynchronized
  have hin : meth.name = "<init>" := (name_of_methodNamed B.named B.method).1
  have hi4 : ∀ w ∈ wsX40, w ∈ wsX4_init := by decide +kernel
  subst hsz
  have hD := hD0.self (sz := s.heap.size)
  generalize hAe : va_A [(a, .inr (4, [.null, .int 0, .int 0, .int 0, .int 0, .int 0, .int 0, .int 0]))] s.heap.size = A at hD ⊢
  have hA : ∀ q : Nat, s.heap.size ≤ q → A q := fun q h => by rw [← hAe]; exact Or.inr h
  have hS : va_S A s.heap s.heap [] := va_S.rf
  have hP : va_P D vwCl [(a, .inr (4, [.null, .int 0, .int 0, .int 0, .int 0, .int 0, .int 0, .int 0]))] s.heap := hP
  have hl := lv_entry ([.ref a]) (n := 1) (Nat.le_of_ble_eq_true rfl)
  rw [lg_entry_eq]
  generalize (lg_sl ([.ref a]) ++ List.replicate (1 - (lg_sl ([.ref a])).length) Slot.unset).toArray = ls at hl ⊢
  have hl : lv_has ls 1 [(0, .ref a)] := hl
  refine lv_aload_n hx hb dX4_init_0 rfl (lv_at hl 0 rfl) ?_
  refine W.objInit hx hb hown (hts (.methodLink RX4 3 objectInit) (by decide +kernel)) (hts (.instanceMethod objectInit) (by decide +kernel)) (hts (.code objectInit ⟨#[0xb1]⟩ 1 none) (by decide +kernel)) rfl (by rw [hml]; exact hl.1) rfl dX4_init_1 (Nat.le_of_ble_eq_true rfl) (Nat.le_of_ble_eq_true rfl) ?_
  refine W.eq (g2 := F0 m 4 ls []) rfl ?_
  refine lv_aload_n hx hb dX4_init_4 rfl (lv_at hl 0 rfl) ?_
  refine lv_sipush (v := 1200) hx hb dX4_init_5 (by decide) ?_
  refine va_newaU (atype := .byte) (cA := cB) (ty := .byte) (a0 := (1200, .inl (fun _ => 0))) (N' := 1200) hx hb (hts (.arrayClass .byte) (by decide +kernel)) rfl hK hP hD hS hA 2 rfl (fun _ => zB _ _) (by decide) (by decide) (by decide +kernel) (show 1 ≤ 1 by decide) (show 1200 ≤ 1200 by decide) dX4_init_8 (fun q1 H hP hD hS => ?_)
  have hP : va_P D vwCl [(a, .inr (4, [.null, .int 0, .int 0, .int 0, .int 0, .int 0, .int 0, .int 0])), (q1, .inl (cB, 1200, .inl (fun _ => 0)))] H := hP
  have hD : va_D A [(a, .inr (4, [.null, .int 0, .int 0, .int 0, .int 0, .int 0, .int 0, .int 0])), (q1, .inl (cB, 1200, .inl (fun _ => 0)))] := hD
  refine W.widen (k := 1) (n := 1200) (show 1 ≤ 1 by decide) (show 1200 ≤ 1200 by decide) ?_
  refine va_putF (D := D) (ci := 4) (v := .ref q1) (ty := (.array .byte)) (C := RX4) (T := TX4) (N := 8) hx hb hts hi4 tyX4 tyX4_ok nmX4 hown hK hP hD hS 0 rfl rfl 0 (by decide) (hts (.fieldLink RX4 11 "AlibiRota$Tape" "bytes" "[B") (by decide +kernel)) (fun _ h9 => h9) rfl hin rfl (by decide +kernel) rfl rfl (Nat.le_of_ble_eq_true rfl) dX4_init_10 (fun H locs hP hD hS => ?_)
  have hP : va_P D vwCl [(a, .inr (4, [.ref q1, .int 0, .int 0, .int 0, .int 0, .int 0, .int 0, .int 0])), (q1, .inl (cB, 1200, .inl (fun _ => 0)))] H := hP
  have hD : va_D A [(a, .inr (4, [.ref q1, .int 0, .int 0, .int 0, .int 0, .int 0, .int 0, .int 0])), (q1, .inl (cB, 1200, .inl (fun _ => 0)))] := hD
  refine lv_aload_n hx hb dX4_init_13 rfl (lv_at hl 0 rfl) ?_
  refine lv_iconst (v := (-1)) hx hb dX4_init_14 (by decide) ?_
  refine va_put (D := D) (ci := 4) (v := .int (-1)) (ty := .int) (C := RX4) (T := TX4) (N := 8) hx hb hts hi4 tyX4 tyX4_ok nmX4 hown hK hP hD hS 0 rfl rfl 3 (by decide) (hts (.fieldLink RX4 15 "AlibiRota$Tape" "faultPlace" "I") (by decide +kernel)) (fun _ h9 => h9) rfl (by decide +kernel) rfl rfl (Nat.le_of_ble_eq_true rfl) dX4_init_15 (fun H locs hP hD hS => ?_)
  have hP : va_P D vwCl [(a, .inr (4, [.ref q1, .int 0, .int 0, .int (-1), .int 0, .int 0, .int 0, .int 0])), (q1, .inl (cB, 1200, .inl (fun _ => 0)))] H := hP
  have hD : va_D A [(a, .inr (4, [.ref q1, .int 0, .int 0, .int (-1), .int 0, .int 0, .int 0, .int 0])), (q1, .inl (cB, 1200, .inl (fun _ => 0)))] := hD
  have hP9 := hP.sub (ws' := [(a, .inr (4, [.ref q1, .int 0, .int 0, .int (-1), .int 0, .int 0, .int 0, .int 0])), (q1, .inl (cB, 1200, .inl (fun _ => 0)))]) [0, 1] rfl
  have hD9 := hD.sub (ws' := [(a, .inr (4, [.ref q1, .int 0, .int 0, .int (-1), .int 0, .int 0, .int 0, .int 0])), (q1, .inl (cB, 1200, .inl (fun _ => 0)))]) [0, 1] (by decide +kernel) rfl
  exact W.vret hx hb hr (fun t ht _ => ⟨⟨q1, rfl, trivial, by rw [ht]; exact hP9, hD9⟩, hS.F ht⟩) hS.2.2 dX4_init_18

set_option maxHeartbeats 4000000 in
set_option maxRecDepth 100000 in
theorem k_Slots_init (l : Launch) (D : va_G) (cI cZ cB cJ cR : ClassId) (a sz : Nat) : Met l yX3_init wsX3_init ({ frames := 1, cells := 4, slots := 252, locals := 12 }) (va_Pc [.ref a] (pQ D cI cZ cB cJ cR [(a, .inr (3, [.null, .null, .null, .null]))] sz)) (va_Qv (fun (_ : Nat → Nat) => True) (fun (u : Nat → Nat) t => va_P D vwCl [(a, .inr (3, [.ref (u 0), .ref (u 1), .ref (u 2), .ref (u 3)])), (u 0, .inl (cZ, 4, .inl (fun _ => 0))), (u 1, .inl (cI, 4, .inl (fun _ => 0))), (u 2, .inl (cI, 4, .inl (fun _ => 0))), (u 3, .inl (cJ, 240, .inr (.inl (fun _ => 0))))] t.heap ∧ va_D (va_A [(a, .inr (3, [.null, .null, .null, .null]))] sz) [(a, .inr (3, [.ref (u 0), .ref (u 1), .ref (u 2), .ref (u 3)])), (u 0, .inl (cZ, 4, .inl (fun _ => 0))), (u 1, .inl (cI, 4, .inl (fun _ => 0))), (u 2, .inl (cI, 4, .inl (fun _ => 0))), (u 3, .inl (cJ, 240, .inr (.inl (fun _ => 0))))]) (va_A [(a, .inr (3, [.null, .null, .null, .null]))] sz)) 4 252 (va_A [(a, .inr (3, [.null, .null, .null, .null]))] sz) := by
  refine Met.ofW (cc := cX3_init) (maxL := 1) (ret := none) (by decide) rfl ?_
  intro p e s m args below meth c s₁ B hml hv
  obtain ⟨rfl, hsz, hP, hk, hD0⟩ := hv
  have hK := hk.1
  have hz := hk.2.1
  have hx := B.exec
  have hb := B.bytes
  have hr := B.returns
  have hts := atoms_spec (ws := wsX3_init) B.pre
  have hown : s.vm.findClass RX3 = some m.cls := findClass_of_methodNamed B.named
  have hlocks := B.notSynchronized
  have hin : meth.name = "<init>" := (name_of_methodNamed B.named B.method).1
  have hi3 : ∀ w ∈ wsX30, w ∈ wsX3_init := by decide +kernel
  subst hsz
  have hD := hD0.self (sz := s.heap.size)
  generalize hAe : va_A [(a, .inr (3, [.null, .null, .null, .null]))] s.heap.size = A at hD ⊢
  have hA : ∀ q : Nat, s.heap.size ≤ q → A q := fun q h => by rw [← hAe]; exact Or.inr h
  have hS : va_S A s.heap s.heap [] := va_S.rf
  have hP : va_P D vwCl [(a, .inr (3, [.null, .null, .null, .null]))] s.heap := hP
  have hl := lv_entry ([.ref a]) (n := 1) (Nat.le_of_ble_eq_true rfl)
  rw [lg_entry_eq]
  generalize (lg_sl ([.ref a]) ++ List.replicate (1 - (lg_sl ([.ref a])).length) Slot.unset).toArray = ls at hl ⊢
  have hl : lv_has ls 1 [(0, .ref a)] := hl
  refine lv_aload_n hx hb dX3_init_0 rfl (lv_at hl 0 rfl) ?_
  refine W.objInit hx hb hown (hts (.methodLink RX3 1 objectInit) (by decide +kernel)) (hts (.instanceMethod objectInit) (by decide +kernel)) (hts (.code objectInit ⟨#[0xb1]⟩ 1 none) (by decide +kernel)) rfl (by rw [hml]; exact hl.1) rfl dX3_init_1 (Nat.le_of_ble_eq_true rfl) (Nat.le_of_ble_eq_true rfl) ?_
  refine W.eq (g2 := F0 m 4 ls []) rfl ?_
  refine lv_aload_n hx hb dX3_init_4 rfl (lv_at hl 0 rfl) ?_
  refine lv_iconst (v := 4) hx hb dX3_init_5 (by decide) ?_
  refine va_newaU (atype := .boolean) (cA := cZ) (ty := .boolean) (a0 := (4, .inl (fun _ => 0))) (N' := 4) hx hb (hts (.arrayClass .boolean) (by decide +kernel)) rfl hK hP hD hS hA 1 rfl (fun _ => zZ _ _) (by decide) (by decide) (by decide +kernel) (show 1 ≤ 4 by decide) (show 4 ≤ 252 by decide) dX3_init_6 (fun q1 H hP hD hS => ?_)
  have hP : va_P D vwCl [(a, .inr (3, [.null, .null, .null, .null])), (q1, .inl (cZ, 4, .inl (fun _ => 0)))] H := hP
  have hD : va_D A [(a, .inr (3, [.null, .null, .null, .null])), (q1, .inl (cZ, 4, .inl (fun _ => 0)))] := hD
  refine W.widen (k := 1) (n := 4) (show 1 ≤ 1 by decide) (show 4 ≤ 4 by decide) ?_
  refine va_putF (D := D) (ci := 3) (v := .ref q1) (ty := (.array .boolean)) (C := RX3) (T := TX3) (N := 4) hx hb hts hi3 tyX3 tyX3_ok nmX3 hown hK hP hD hS 0 rfl rfl 0 (by decide) (hts (.fieldLink RX3 9 "AlibiRota$Slots" "isLaid" "[Z") (by decide +kernel)) (fun _ h9 => h9) rfl hin rfl (by decide +kernel) rfl rfl (Nat.le_of_ble_eq_true rfl) dX3_init_8 (fun H locs hP hD hS => ?_)
  have hP : va_P D vwCl [(a, .inr (3, [.ref q1, .null, .null, .null])), (q1, .inl (cZ, 4, .inl (fun _ => 0)))] H := hP
  have hD : va_D A [(a, .inr (3, [.ref q1, .null, .null, .null])), (q1, .inl (cZ, 4, .inl (fun _ => 0)))] := hD
  refine lv_aload_n hx hb dX3_init_11 rfl (lv_at hl 0 rfl) ?_
  refine lv_iconst (v := 4) hx hb dX3_init_12 (by decide) ?_
  refine va_newaU (atype := .int) (cA := cI) (ty := .int) (a0 := (4, .inl (fun _ => 0))) (N' := 4) hx hb (hts (.arrayClass .int) (by decide +kernel)) rfl hK hP hD hS hA 0 rfl (fun _ => zI _ _) (by decide) (by decide) (by decide +kernel) (show 2 ≤ 4 by decide) (show 8 ≤ 252 by decide) dX3_init_13 (fun q2 H hP hD hS => ?_)
  have hP : va_P D vwCl [(a, .inr (3, [.ref q1, .null, .null, .null])), (q1, .inl (cZ, 4, .inl (fun _ => 0))), (q2, .inl (cI, 4, .inl (fun _ => 0)))] H := hP
  have hD : va_D A [(a, .inr (3, [.ref q1, .null, .null, .null])), (q1, .inl (cZ, 4, .inl (fun _ => 0))), (q2, .inl (cI, 4, .inl (fun _ => 0)))] := hD
  refine W.widen (k := 2) (n := 8) (show 2 ≤ 2 by decide) (show 8 ≤ 8 by decide) ?_
  refine va_putF (D := D) (ci := 3) (v := .ref q2) (ty := (.array .int)) (C := RX3) (T := TX3) (N := 4) hx hb hts hi3 tyX3 tyX3_ok nmX3 hown hK hP hD hS 0 rfl rfl 1 (by decide) (hts (.fieldLink RX3 13 "AlibiRota$Slots" "widths" "[I") (by decide +kernel)) (fun _ h9 => h9) rfl hin rfl (by decide +kernel) rfl rfl (Nat.le_of_ble_eq_true rfl) dX3_init_15 (fun H locs hP hD hS => ?_)
  have hP : va_P D vwCl [(a, .inr (3, [.ref q1, .ref q2, .null, .null])), (q1, .inl (cZ, 4, .inl (fun _ => 0))), (q2, .inl (cI, 4, .inl (fun _ => 0)))] H := hP
  have hD : va_D A [(a, .inr (3, [.ref q1, .ref q2, .null, .null])), (q1, .inl (cZ, 4, .inl (fun _ => 0))), (q2, .inl (cI, 4, .inl (fun _ => 0)))] := hD
  refine lv_aload_n hx hb dX3_init_18 rfl (lv_at hl 0 rfl) ?_
  refine lv_iconst (v := 4) hx hb dX3_init_19 (by decide) ?_
  refine va_newaU (atype := .int) (cA := cI) (ty := .int) (a0 := (4, .inl (fun _ => 0))) (N' := 4) hx hb (hts (.arrayClass .int) (by decide +kernel)) rfl hK hP hD hS hA 0 rfl (fun _ => zI _ _) (by decide) (by decide) (by decide +kernel) (show 3 ≤ 4 by decide) (show 12 ≤ 252 by decide) dX3_init_20 (fun q3 H hP hD hS => ?_)
  have hP : va_P D vwCl [(a, .inr (3, [.ref q1, .ref q2, .null, .null])), (q1, .inl (cZ, 4, .inl (fun _ => 0))), (q2, .inl (cI, 4, .inl (fun _ => 0))), (q3, .inl (cI, 4, .inl (fun _ => 0)))] H := hP
  have hD : va_D A [(a, .inr (3, [.ref q1, .ref q2, .null, .null])), (q1, .inl (cZ, 4, .inl (fun _ => 0))), (q2, .inl (cI, 4, .inl (fun _ => 0))), (q3, .inl (cI, 4, .inl (fun _ => 0)))] := hD
  refine W.widen (k := 3) (n := 12) (show 3 ≤ 3 by decide) (show 12 ≤ 12 by decide) ?_
  refine va_putF (D := D) (ci := 3) (v := .ref q3) (ty := (.array .int)) (C := RX3) (T := TX3) (N := 4) hx hb hts hi3 tyX3 tyX3_ok nmX3 hown hK hP hD hS 0 rfl rfl 2 (by decide) (hts (.fieldLink RX3 17 "AlibiRota$Slots" "sizes" "[I") (by decide +kernel)) (fun _ h9 => h9) rfl hin rfl (by decide +kernel) rfl rfl (Nat.le_of_ble_eq_true rfl) dX3_init_22 (fun H locs hP hD hS => ?_)
  have hP : va_P D vwCl [(a, .inr (3, [.ref q1, .ref q2, .ref q3, .null])), (q1, .inl (cZ, 4, .inl (fun _ => 0))), (q2, .inl (cI, 4, .inl (fun _ => 0))), (q3, .inl (cI, 4, .inl (fun _ => 0)))] H := hP
  have hD : va_D A [(a, .inr (3, [.ref q1, .ref q2, .ref q3, .null])), (q1, .inl (cZ, 4, .inl (fun _ => 0))), (q2, .inl (cI, 4, .inl (fun _ => 0))), (q3, .inl (cI, 4, .inl (fun _ => 0)))] := hD
  refine lv_aload_n hx hb dX3_init_25 rfl (lv_at hl 0 rfl) ?_
  refine lv_sipush (v := 240) hx hb dX3_init_26 (by decide) ?_
  refine va_newaU (atype := .long) (cA := cJ) (ty := .long) (a0 := (240, .inr (.inl (fun _ => 0)))) (N' := 240) hx hb (hts (.arrayClass .long) (by decide +kernel)) rfl hK hP hD hS hA 3 rfl (fun _ => zJ _ _) (by decide) (by decide) (by decide +kernel) (show 4 ≤ 4 by decide) (show 252 ≤ 252 by decide) dX3_init_29 (fun q4 H hP hD hS => ?_)
  have hP : va_P D vwCl [(a, .inr (3, [.ref q1, .ref q2, .ref q3, .null])), (q1, .inl (cZ, 4, .inl (fun _ => 0))), (q2, .inl (cI, 4, .inl (fun _ => 0))), (q3, .inl (cI, 4, .inl (fun _ => 0))), (q4, .inl (cJ, 240, .inr (.inl (fun _ => 0))))] H := hP
  have hD : va_D A [(a, .inr (3, [.ref q1, .ref q2, .ref q3, .null])), (q1, .inl (cZ, 4, .inl (fun _ => 0))), (q2, .inl (cI, 4, .inl (fun _ => 0))), (q3, .inl (cI, 4, .inl (fun _ => 0))), (q4, .inl (cJ, 240, .inr (.inl (fun _ => 0))))] := hD
  refine W.widen (k := 4) (n := 252) (show 4 ≤ 4 by decide) (show 252 ≤ 252 by decide) ?_
  refine va_putF (D := D) (ci := 3) (v := .ref q4) (ty := (.array .long)) (C := RX3) (T := TX3) (N := 4) hx hb hts hi3 tyX3 tyX3_ok nmX3 hown hK hP hD hS 0 rfl rfl 3 (by decide) (hts (.fieldLink RX3 20 "AlibiRota$Slots" "cells" "[J") (by decide +kernel)) (fun _ h9 => h9) rfl hin rfl (by decide +kernel) rfl rfl (Nat.le_of_ble_eq_true rfl) dX3_init_31 (fun H locs hP hD hS => ?_)
  have hP : va_P D vwCl [(a, .inr (3, [.ref q1, .ref q2, .ref q3, .ref q4])), (q1, .inl (cZ, 4, .inl (fun _ => 0))), (q2, .inl (cI, 4, .inl (fun _ => 0))), (q3, .inl (cI, 4, .inl (fun _ => 0))), (q4, .inl (cJ, 240, .inr (.inl (fun _ => 0))))] H := hP
  have hD : va_D A [(a, .inr (3, [.ref q1, .ref q2, .ref q3, .ref q4])), (q1, .inl (cZ, 4, .inl (fun _ => 0))), (q2, .inl (cI, 4, .inl (fun _ => 0))), (q3, .inl (cI, 4, .inl (fun _ => 0))), (q4, .inl (cJ, 240, .inr (.inl (fun _ => 0))))] := hD
  have hP9 := hP.sub (ws' := [(a, .inr (3, [.ref q1, .ref q2, .ref q3, .ref q4])), (q1, .inl (cZ, 4, .inl (fun _ => 0))), (q2, .inl (cI, 4, .inl (fun _ => 0))), (q3, .inl (cI, 4, .inl (fun _ => 0))), (q4, .inl (cJ, 240, .inr (.inl (fun _ => 0))))]) [0, 1, 2, 3, 4] rfl
  have hD9 := hD.sub (ws' := [(a, .inr (3, [.ref q1, .ref q2, .ref q3, .ref q4])), (q1, .inl (cZ, 4, .inl (fun _ => 0))), (q2, .inl (cI, 4, .inl (fun _ => 0))), (q3, .inl (cI, 4, .inl (fun _ => 0))), (q4, .inl (cJ, 240, .inr (.inl (fun _ => 0))))]) [0, 1, 2, 3, 4] (by decide +kernel) rfl
  exact W.vret hx hb hr (fun t ht _ => ⟨⟨(fun k => List.getD [q1, q2, q3, q4] k 0), rfl, trivial, by rw [ht]; exact hP9, hD9⟩, hS.F ht⟩) hS.2.2 dX3_init_34

set_option maxHeartbeats 4000000 in
set_option maxRecDepth 100000 in
theorem k_Rotas_init (l : Launch) (D : va_G) (cI cZ cB cJ cR : ClassId) (a sz : Nat) : Met l yX2_init wsX2_init ({ frames := 1, cells := 8, slots := 98, locals := 12 }) (va_Pc [.ref a] (pQ D cI cZ cB cJ cR [(a, .inr (2, [.int 0, .int 0, .int 0, .int 0, .null, .null, .null, .null, .null, .int 0, .int 0, .int 0, .int 0, .int 0, .null, .int 0, .null, .null]))] sz)) (va_Qv (fun (_ : Nat → Nat) => True) (fun (u : Nat → Nat) t => va_P D vwCl [(a, .inr (2, [.int 0, .int 0, .int 0, .int 0, .ref (u 4), .ref (u 5), .ref (u 6), .ref (u 7), .ref (u 8), .int 0, .int 0, .int 0, .int 0, .int 0, .ref (u 14), .int 0, .ref (u 16), .ref (u 17)])), (u 4, .inl (cI, 7, .inl (fun _ => 0))), (u 5, .inl (cI, 7, .inl (fun _ => 0))), (u 6, .inl (cI, 7, .inl (fun _ => 0))), (u 7, .inl (cI, 7, .inl (fun _ => 0))), (u 8, .inl (cI, 49, .inl (fun _ => 0))), (u 14, .inl (cI, 7, .inl (fun _ => 0))), (u 16, .inl (cI, 7, .inl (fun _ => 0))), (u 17, .inl (cI, 7, .inl (fun _ => 0)))] t.heap ∧ va_D (va_A [(a, .inr (2, [.int 0, .int 0, .int 0, .int 0, .null, .null, .null, .null, .null, .int 0, .int 0, .int 0, .int 0, .int 0, .null, .int 0, .null, .null]))] sz) [(a, .inr (2, [.int 0, .int 0, .int 0, .int 0, .ref (u 4), .ref (u 5), .ref (u 6), .ref (u 7), .ref (u 8), .int 0, .int 0, .int 0, .int 0, .int 0, .ref (u 14), .int 0, .ref (u 16), .ref (u 17)])), (u 4, .inl (cI, 7, .inl (fun _ => 0))), (u 5, .inl (cI, 7, .inl (fun _ => 0))), (u 6, .inl (cI, 7, .inl (fun _ => 0))), (u 7, .inl (cI, 7, .inl (fun _ => 0))), (u 8, .inl (cI, 49, .inl (fun _ => 0))), (u 14, .inl (cI, 7, .inl (fun _ => 0))), (u 16, .inl (cI, 7, .inl (fun _ => 0))), (u 17, .inl (cI, 7, .inl (fun _ => 0)))]) (va_A [(a, .inr (2, [.int 0, .int 0, .int 0, .int 0, .null, .null, .null, .null, .null, .int 0, .int 0, .int 0, .int 0, .int 0, .null, .int 0, .null, .null]))] sz)) 8 98 (va_A [(a, .inr (2, [.int 0, .int 0, .int 0, .int 0, .null, .null, .null, .null, .null, .int 0, .int 0, .int 0, .int 0, .int 0, .null, .int 0, .null, .null]))] sz) := by
  refine Met.ofW (cc := cX2_init) (maxL := 1) (ret := none) (by decide) rfl ?_
  intro p e s m args below meth c s₁ B hml hv
  obtain ⟨rfl, hsz, hP, hk, hD0⟩ := hv
  have hK := hk.1
  have hz := hk.2.1
  have hx := B.exec
  have hb := B.bytes
  have hr := B.returns
  have hts := atoms_spec (ws := wsX2_init) B.pre
  have hown : s.vm.findClass RX2 = some m.cls := findClass_of_methodNamed B.named
  have hlocks := B.notSynchronized
  have hin : meth.name = "<init>" := (name_of_methodNamed B.named B.method).1
  have hi2 : ∀ w ∈ wsX20, w ∈ wsX2_init := by decide +kernel
  subst hsz
  have hD := hD0.self (sz := s.heap.size)
  generalize hAe : va_A [(a, .inr (2, [.int 0, .int 0, .int 0, .int 0, .null, .null, .null, .null, .null, .int 0, .int 0, .int 0, .int 0, .int 0, .null, .int 0, .null, .null]))] s.heap.size = A at hD ⊢
  have hA : ∀ q : Nat, s.heap.size ≤ q → A q := fun q h => by rw [← hAe]; exact Or.inr h
  have hS : va_S A s.heap s.heap [] := va_S.rf
  have hP : va_P D vwCl [(a, .inr (2, [.int 0, .int 0, .int 0, .int 0, .null, .null, .null, .null, .null, .int 0, .int 0, .int 0, .int 0, .int 0, .null, .int 0, .null, .null]))] s.heap := hP
  have hl := lv_entry ([.ref a]) (n := 1) (Nat.le_of_ble_eq_true rfl)
  rw [lg_entry_eq]
  generalize (lg_sl ([.ref a]) ++ List.replicate (1 - (lg_sl ([.ref a])).length) Slot.unset).toArray = ls at hl ⊢
  have hl : lv_has ls 1 [(0, .ref a)] := hl
  refine lv_aload_n hx hb dX2_init_0 rfl (lv_at hl 0 rfl) ?_
  refine W.objInit hx hb hown (hts (.methodLink RX2 3 objectInit) (by decide +kernel)) (hts (.instanceMethod objectInit) (by decide +kernel)) (hts (.code objectInit ⟨#[0xb1]⟩ 1 none) (by decide +kernel)) rfl (by rw [hml]; exact hl.1) rfl dX2_init_1 (Nat.le_of_ble_eq_true rfl) (Nat.le_of_ble_eq_true rfl) ?_
  refine W.eq (g2 := F0 m 4 ls []) rfl ?_
  refine lv_aload_n hx hb dX2_init_4 rfl (lv_at hl 0 rfl) ?_
  refine lv_bipush (v := 7) hx hb dX2_init_5 (by decide) ?_
  refine va_newaU (atype := .int) (cA := cI) (ty := .int) (a0 := (7, .inl (fun _ => 0))) (N' := 7) hx hb (hts (.arrayClass .int) (by decide +kernel)) rfl hK hP hD hS hA 0 rfl (fun _ => zI _ _) (by decide) (by decide) (by decide +kernel) (show 1 ≤ 8 by decide) (show 7 ≤ 98 by decide) dX2_init_7 (fun q1 H hP hD hS => ?_)
  have hP : va_P D vwCl [(a, .inr (2, [.int 0, .int 0, .int 0, .int 0, .null, .null, .null, .null, .null, .int 0, .int 0, .int 0, .int 0, .int 0, .null, .int 0, .null, .null])), (q1, .inl (cI, 7, .inl (fun _ => 0)))] H := hP
  have hD : va_D A [(a, .inr (2, [.int 0, .int 0, .int 0, .int 0, .null, .null, .null, .null, .null, .int 0, .int 0, .int 0, .int 0, .int 0, .null, .int 0, .null, .null])), (q1, .inl (cI, 7, .inl (fun _ => 0)))] := hD
  refine W.widen (k := 1) (n := 7) (show 1 ≤ 1 by decide) (show 7 ≤ 7 by decide) ?_
  refine va_putF (D := D) (ci := 2) (v := .ref q1) (ty := (.array .int)) (C := RX2) (T := TX2) (N := 18) hx hb hts hi2 tyX2 tyX2_ok nmX2 hown hK hP hD hS 0 rfl rfl 4 (by decide) (hts (.fieldLink RX2 9 "AlibiRota$Rotas" "row" "[I") (by decide +kernel)) (fun _ h9 => h9) rfl hin rfl (by decide +kernel) rfl rfl (Nat.le_of_ble_eq_true rfl) dX2_init_9 (fun H locs hP hD hS => ?_)
  have hP : va_P D vwCl [(a, .inr (2, [.int 0, .int 0, .int 0, .int 0, .ref q1, .null, .null, .null, .null, .int 0, .int 0, .int 0, .int 0, .int 0, .null, .int 0, .null, .null])), (q1, .inl (cI, 7, .inl (fun _ => 0)))] H := hP
  have hD : va_D A [(a, .inr (2, [.int 0, .int 0, .int 0, .int 0, .ref q1, .null, .null, .null, .null, .int 0, .int 0, .int 0, .int 0, .int 0, .null, .int 0, .null, .null])), (q1, .inl (cI, 7, .inl (fun _ => 0)))] := hD
  refine lv_aload_n hx hb dX2_init_12 rfl (lv_at hl 0 rfl) ?_
  refine lv_bipush (v := 7) hx hb dX2_init_13 (by decide) ?_
  refine va_newaU (atype := .int) (cA := cI) (ty := .int) (a0 := (7, .inl (fun _ => 0))) (N' := 7) hx hb (hts (.arrayClass .int) (by decide +kernel)) rfl hK hP hD hS hA 0 rfl (fun _ => zI _ _) (by decide) (by decide) (by decide +kernel) (show 2 ≤ 8 by decide) (show 14 ≤ 98 by decide) dX2_init_15 (fun q2 H hP hD hS => ?_)
  have hP : va_P D vwCl [(a, .inr (2, [.int 0, .int 0, .int 0, .int 0, .ref q1, .null, .null, .null, .null, .int 0, .int 0, .int 0, .int 0, .int 0, .null, .int 0, .null, .null])), (q1, .inl (cI, 7, .inl (fun _ => 0))), (q2, .inl (cI, 7, .inl (fun _ => 0)))] H := hP
  have hD : va_D A [(a, .inr (2, [.int 0, .int 0, .int 0, .int 0, .ref q1, .null, .null, .null, .null, .int 0, .int 0, .int 0, .int 0, .int 0, .null, .int 0, .null, .null])), (q1, .inl (cI, 7, .inl (fun _ => 0))), (q2, .inl (cI, 7, .inl (fun _ => 0)))] := hD
  refine W.widen (k := 2) (n := 14) (show 2 ≤ 2 by decide) (show 14 ≤ 14 by decide) ?_
  refine va_putF (D := D) (ci := 2) (v := .ref q2) (ty := (.array .int)) (C := RX2) (T := TX2) (N := 18) hx hb hts hi2 tyX2 tyX2_ok nmX2 hown hK hP hD hS 0 rfl rfl 5 (by decide) (hts (.fieldLink RX2 15 "AlibiRota$Rotas" "allowed" "[I") (by decide +kernel)) (fun _ h9 => h9) rfl hin rfl (by decide +kernel) rfl rfl (Nat.le_of_ble_eq_true rfl) dX2_init_17 (fun H locs hP hD hS => ?_)
  have hP : va_P D vwCl [(a, .inr (2, [.int 0, .int 0, .int 0, .int 0, .ref q1, .ref q2, .null, .null, .null, .int 0, .int 0, .int 0, .int 0, .int 0, .null, .int 0, .null, .null])), (q1, .inl (cI, 7, .inl (fun _ => 0))), (q2, .inl (cI, 7, .inl (fun _ => 0)))] H := hP
  have hD : va_D A [(a, .inr (2, [.int 0, .int 0, .int 0, .int 0, .ref q1, .ref q2, .null, .null, .null, .int 0, .int 0, .int 0, .int 0, .int 0, .null, .int 0, .null, .null])), (q1, .inl (cI, 7, .inl (fun _ => 0))), (q2, .inl (cI, 7, .inl (fun _ => 0)))] := hD
  refine lv_aload_n hx hb dX2_init_20 rfl (lv_at hl 0 rfl) ?_
  refine lv_bipush (v := 7) hx hb dX2_init_21 (by decide) ?_
  refine va_newaU (atype := .int) (cA := cI) (ty := .int) (a0 := (7, .inl (fun _ => 0))) (N' := 7) hx hb (hts (.arrayClass .int) (by decide +kernel)) rfl hK hP hD hS hA 0 rfl (fun _ => zI _ _) (by decide) (by decide) (by decide +kernel) (show 3 ≤ 8 by decide) (show 21 ≤ 98 by decide) dX2_init_23 (fun q3 H hP hD hS => ?_)
  have hP : va_P D vwCl [(a, .inr (2, [.int 0, .int 0, .int 0, .int 0, .ref q1, .ref q2, .null, .null, .null, .int 0, .int 0, .int 0, .int 0, .int 0, .null, .int 0, .null, .null])), (q1, .inl (cI, 7, .inl (fun _ => 0))), (q2, .inl (cI, 7, .inl (fun _ => 0))), (q3, .inl (cI, 7, .inl (fun _ => 0)))] H := hP
  have hD : va_D A [(a, .inr (2, [.int 0, .int 0, .int 0, .int 0, .ref q1, .ref q2, .null, .null, .null, .int 0, .int 0, .int 0, .int 0, .int 0, .null, .int 0, .null, .null])), (q1, .inl (cI, 7, .inl (fun _ => 0))), (q2, .inl (cI, 7, .inl (fun _ => 0))), (q3, .inl (cI, 7, .inl (fun _ => 0)))] := hD
  refine W.widen (k := 3) (n := 21) (show 3 ≤ 3 by decide) (show 21 ≤ 21 by decide) ?_
  refine va_putF (D := D) (ci := 2) (v := .ref q3) (ty := (.array .int)) (C := RX2) (T := TX2) (N := 18) hx hb hts hi2 tyX2 tyX2_ok nmX2 hown hK hP hD hS 0 rfl rfl 6 (by decide) (hts (.fieldLink RX2 18 "AlibiRota$Rotas" "withGap" "[I") (by decide +kernel)) (fun _ h9 => h9) rfl hin rfl (by decide +kernel) rfl rfl (Nat.le_of_ble_eq_true rfl) dX2_init_25 (fun H locs hP hD hS => ?_)
  have hP : va_P D vwCl [(a, .inr (2, [.int 0, .int 0, .int 0, .int 0, .ref q1, .ref q2, .ref q3, .null, .null, .int 0, .int 0, .int 0, .int 0, .int 0, .null, .int 0, .null, .null])), (q1, .inl (cI, 7, .inl (fun _ => 0))), (q2, .inl (cI, 7, .inl (fun _ => 0))), (q3, .inl (cI, 7, .inl (fun _ => 0)))] H := hP
  have hD : va_D A [(a, .inr (2, [.int 0, .int 0, .int 0, .int 0, .ref q1, .ref q2, .ref q3, .null, .null, .int 0, .int 0, .int 0, .int 0, .int 0, .null, .int 0, .null, .null])), (q1, .inl (cI, 7, .inl (fun _ => 0))), (q2, .inl (cI, 7, .inl (fun _ => 0))), (q3, .inl (cI, 7, .inl (fun _ => 0)))] := hD
  refine lv_aload_n hx hb dX2_init_28 rfl (lv_at hl 0 rfl) ?_
  refine lv_bipush (v := 7) hx hb dX2_init_29 (by decide) ?_
  refine va_newaU (atype := .int) (cA := cI) (ty := .int) (a0 := (7, .inl (fun _ => 0))) (N' := 7) hx hb (hts (.arrayClass .int) (by decide +kernel)) rfl hK hP hD hS hA 0 rfl (fun _ => zI _ _) (by decide) (by decide) (by decide +kernel) (show 4 ≤ 8 by decide) (show 28 ≤ 98 by decide) dX2_init_31 (fun q4 H hP hD hS => ?_)
  have hP : va_P D vwCl [(a, .inr (2, [.int 0, .int 0, .int 0, .int 0, .ref q1, .ref q2, .ref q3, .null, .null, .int 0, .int 0, .int 0, .int 0, .int 0, .null, .int 0, .null, .null])), (q1, .inl (cI, 7, .inl (fun _ => 0))), (q2, .inl (cI, 7, .inl (fun _ => 0))), (q3, .inl (cI, 7, .inl (fun _ => 0))), (q4, .inl (cI, 7, .inl (fun _ => 0)))] H := hP
  have hD : va_D A [(a, .inr (2, [.int 0, .int 0, .int 0, .int 0, .ref q1, .ref q2, .ref q3, .null, .null, .int 0, .int 0, .int 0, .int 0, .int 0, .null, .int 0, .null, .null])), (q1, .inl (cI, 7, .inl (fun _ => 0))), (q2, .inl (cI, 7, .inl (fun _ => 0))), (q3, .inl (cI, 7, .inl (fun _ => 0))), (q4, .inl (cI, 7, .inl (fun _ => 0)))] := hD
  refine W.widen (k := 4) (n := 28) (show 4 ≤ 4 by decide) (show 28 ≤ 28 by decide) ?_
  refine va_putF (D := D) (ci := 2) (v := .ref q4) (ty := (.array .int)) (C := RX2) (T := TX2) (N := 18) hx hb hts hi2 tyX2 tyX2_ok nmX2 hown hK hP hD hS 0 rfl rfl 7 (by decide) (hts (.fieldLink RX2 21 "AlibiRota$Rotas" "withoutGap" "[I") (by decide +kernel)) (fun _ h9 => h9) rfl hin rfl (by decide +kernel) rfl rfl (Nat.le_of_ble_eq_true rfl) dX2_init_33 (fun H locs hP hD hS => ?_)
  have hP : va_P D vwCl [(a, .inr (2, [.int 0, .int 0, .int 0, .int 0, .ref q1, .ref q2, .ref q3, .ref q4, .null, .int 0, .int 0, .int 0, .int 0, .int 0, .null, .int 0, .null, .null])), (q1, .inl (cI, 7, .inl (fun _ => 0))), (q2, .inl (cI, 7, .inl (fun _ => 0))), (q3, .inl (cI, 7, .inl (fun _ => 0))), (q4, .inl (cI, 7, .inl (fun _ => 0)))] H := hP
  have hD : va_D A [(a, .inr (2, [.int 0, .int 0, .int 0, .int 0, .ref q1, .ref q2, .ref q3, .ref q4, .null, .int 0, .int 0, .int 0, .int 0, .int 0, .null, .int 0, .null, .null])), (q1, .inl (cI, 7, .inl (fun _ => 0))), (q2, .inl (cI, 7, .inl (fun _ => 0))), (q3, .inl (cI, 7, .inl (fun _ => 0))), (q4, .inl (cI, 7, .inl (fun _ => 0)))] := hD
  refine lv_aload_n hx hb dX2_init_36 rfl (lv_at hl 0 rfl) ?_
  refine lv_bipush (v := 49) hx hb dX2_init_37 (by decide) ?_
  refine va_newaU (atype := .int) (cA := cI) (ty := .int) (a0 := (49, .inl (fun _ => 0))) (N' := 49) hx hb (hts (.arrayClass .int) (by decide +kernel)) rfl hK hP hD hS hA 0 rfl (fun _ => zI _ _) (by decide) (by decide) (by decide +kernel) (show 5 ≤ 8 by decide) (show 77 ≤ 98 by decide) dX2_init_39 (fun q5 H hP hD hS => ?_)
  have hP : va_P D vwCl [(a, .inr (2, [.int 0, .int 0, .int 0, .int 0, .ref q1, .ref q2, .ref q3, .ref q4, .null, .int 0, .int 0, .int 0, .int 0, .int 0, .null, .int 0, .null, .null])), (q1, .inl (cI, 7, .inl (fun _ => 0))), (q2, .inl (cI, 7, .inl (fun _ => 0))), (q3, .inl (cI, 7, .inl (fun _ => 0))), (q4, .inl (cI, 7, .inl (fun _ => 0))), (q5, .inl (cI, 49, .inl (fun _ => 0)))] H := hP
  have hD : va_D A [(a, .inr (2, [.int 0, .int 0, .int 0, .int 0, .ref q1, .ref q2, .ref q3, .ref q4, .null, .int 0, .int 0, .int 0, .int 0, .int 0, .null, .int 0, .null, .null])), (q1, .inl (cI, 7, .inl (fun _ => 0))), (q2, .inl (cI, 7, .inl (fun _ => 0))), (q3, .inl (cI, 7, .inl (fun _ => 0))), (q4, .inl (cI, 7, .inl (fun _ => 0))), (q5, .inl (cI, 49, .inl (fun _ => 0)))] := hD
  refine W.widen (k := 5) (n := 77) (show 5 ≤ 5 by decide) (show 77 ≤ 77 by decide) ?_
  refine va_putF (D := D) (ci := 2) (v := .ref q5) (ty := (.array .int)) (C := RX2) (T := TX2) (N := 18) hx hb hts hi2 tyX2 tyX2_ok nmX2 hown hK hP hD hS 0 rfl rfl 8 (by decide) (hts (.fieldLink RX2 24 "AlibiRota$Rotas" "missed" "[I") (by decide +kernel)) (fun _ h9 => h9) rfl hin rfl (by decide +kernel) rfl rfl (Nat.le_of_ble_eq_true rfl) dX2_init_41 (fun H locs hP hD hS => ?_)
  have hP : va_P D vwCl [(a, .inr (2, [.int 0, .int 0, .int 0, .int 0, .ref q1, .ref q2, .ref q3, .ref q4, .ref q5, .int 0, .int 0, .int 0, .int 0, .int 0, .null, .int 0, .null, .null])), (q1, .inl (cI, 7, .inl (fun _ => 0))), (q2, .inl (cI, 7, .inl (fun _ => 0))), (q3, .inl (cI, 7, .inl (fun _ => 0))), (q4, .inl (cI, 7, .inl (fun _ => 0))), (q5, .inl (cI, 49, .inl (fun _ => 0)))] H := hP
  have hD : va_D A [(a, .inr (2, [.int 0, .int 0, .int 0, .int 0, .ref q1, .ref q2, .ref q3, .ref q4, .ref q5, .int 0, .int 0, .int 0, .int 0, .int 0, .null, .int 0, .null, .null])), (q1, .inl (cI, 7, .inl (fun _ => 0))), (q2, .inl (cI, 7, .inl (fun _ => 0))), (q3, .inl (cI, 7, .inl (fun _ => 0))), (q4, .inl (cI, 7, .inl (fun _ => 0))), (q5, .inl (cI, 49, .inl (fun _ => 0)))] := hD
  refine lv_aload_n hx hb dX2_init_44 rfl (lv_at hl 0 rfl) ?_
  refine lv_bipush (v := 7) hx hb dX2_init_45 (by decide) ?_
  refine va_newaU (atype := .int) (cA := cI) (ty := .int) (a0 := (7, .inl (fun _ => 0))) (N' := 7) hx hb (hts (.arrayClass .int) (by decide +kernel)) rfl hK hP hD hS hA 0 rfl (fun _ => zI _ _) (by decide) (by decide) (by decide +kernel) (show 6 ≤ 8 by decide) (show 84 ≤ 98 by decide) dX2_init_47 (fun q6 H hP hD hS => ?_)
  have hP : va_P D vwCl [(a, .inr (2, [.int 0, .int 0, .int 0, .int 0, .ref q1, .ref q2, .ref q3, .ref q4, .ref q5, .int 0, .int 0, .int 0, .int 0, .int 0, .null, .int 0, .null, .null])), (q1, .inl (cI, 7, .inl (fun _ => 0))), (q2, .inl (cI, 7, .inl (fun _ => 0))), (q3, .inl (cI, 7, .inl (fun _ => 0))), (q4, .inl (cI, 7, .inl (fun _ => 0))), (q5, .inl (cI, 49, .inl (fun _ => 0))), (q6, .inl (cI, 7, .inl (fun _ => 0)))] H := hP
  have hD : va_D A [(a, .inr (2, [.int 0, .int 0, .int 0, .int 0, .ref q1, .ref q2, .ref q3, .ref q4, .ref q5, .int 0, .int 0, .int 0, .int 0, .int 0, .null, .int 0, .null, .null])), (q1, .inl (cI, 7, .inl (fun _ => 0))), (q2, .inl (cI, 7, .inl (fun _ => 0))), (q3, .inl (cI, 7, .inl (fun _ => 0))), (q4, .inl (cI, 7, .inl (fun _ => 0))), (q5, .inl (cI, 49, .inl (fun _ => 0))), (q6, .inl (cI, 7, .inl (fun _ => 0)))] := hD
  refine W.widen (k := 6) (n := 84) (show 6 ≤ 6 by decide) (show 84 ≤ 84 by decide) ?_
  refine va_putF (D := D) (ci := 2) (v := .ref q6) (ty := (.array .int)) (C := RX2) (T := TX2) (N := 18) hx hb hts hi2 tyX2 tyX2_ok nmX2 hown hK hP hD hS 0 rfl rfl 14 (by decide) (hts (.fieldLink RX2 27 "AlibiRota$Rotas" "fewestRow" "[I") (by decide +kernel)) (fun _ h9 => h9) rfl hin rfl (by decide +kernel) rfl rfl (Nat.le_of_ble_eq_true rfl) dX2_init_49 (fun H locs hP hD hS => ?_)
  have hP : va_P D vwCl [(a, .inr (2, [.int 0, .int 0, .int 0, .int 0, .ref q1, .ref q2, .ref q3, .ref q4, .ref q5, .int 0, .int 0, .int 0, .int 0, .int 0, .ref q6, .int 0, .null, .null])), (q1, .inl (cI, 7, .inl (fun _ => 0))), (q2, .inl (cI, 7, .inl (fun _ => 0))), (q3, .inl (cI, 7, .inl (fun _ => 0))), (q4, .inl (cI, 7, .inl (fun _ => 0))), (q5, .inl (cI, 49, .inl (fun _ => 0))), (q6, .inl (cI, 7, .inl (fun _ => 0)))] H := hP
  have hD : va_D A [(a, .inr (2, [.int 0, .int 0, .int 0, .int 0, .ref q1, .ref q2, .ref q3, .ref q4, .ref q5, .int 0, .int 0, .int 0, .int 0, .int 0, .ref q6, .int 0, .null, .null])), (q1, .inl (cI, 7, .inl (fun _ => 0))), (q2, .inl (cI, 7, .inl (fun _ => 0))), (q3, .inl (cI, 7, .inl (fun _ => 0))), (q4, .inl (cI, 7, .inl (fun _ => 0))), (q5, .inl (cI, 49, .inl (fun _ => 0))), (q6, .inl (cI, 7, .inl (fun _ => 0)))] := hD
  refine lv_aload_n hx hb dX2_init_52 rfl (lv_at hl 0 rfl) ?_
  refine lv_bipush (v := 7) hx hb dX2_init_53 (by decide) ?_
  refine va_newaU (atype := .int) (cA := cI) (ty := .int) (a0 := (7, .inl (fun _ => 0))) (N' := 7) hx hb (hts (.arrayClass .int) (by decide +kernel)) rfl hK hP hD hS hA 0 rfl (fun _ => zI _ _) (by decide) (by decide) (by decide +kernel) (show 7 ≤ 8 by decide) (show 91 ≤ 98 by decide) dX2_init_55 (fun q7 H hP hD hS => ?_)
  have hP : va_P D vwCl [(a, .inr (2, [.int 0, .int 0, .int 0, .int 0, .ref q1, .ref q2, .ref q3, .ref q4, .ref q5, .int 0, .int 0, .int 0, .int 0, .int 0, .ref q6, .int 0, .null, .null])), (q1, .inl (cI, 7, .inl (fun _ => 0))), (q2, .inl (cI, 7, .inl (fun _ => 0))), (q3, .inl (cI, 7, .inl (fun _ => 0))), (q4, .inl (cI, 7, .inl (fun _ => 0))), (q5, .inl (cI, 49, .inl (fun _ => 0))), (q6, .inl (cI, 7, .inl (fun _ => 0))), (q7, .inl (cI, 7, .inl (fun _ => 0)))] H := hP
  have hD : va_D A [(a, .inr (2, [.int 0, .int 0, .int 0, .int 0, .ref q1, .ref q2, .ref q3, .ref q4, .ref q5, .int 0, .int 0, .int 0, .int 0, .int 0, .ref q6, .int 0, .null, .null])), (q1, .inl (cI, 7, .inl (fun _ => 0))), (q2, .inl (cI, 7, .inl (fun _ => 0))), (q3, .inl (cI, 7, .inl (fun _ => 0))), (q4, .inl (cI, 7, .inl (fun _ => 0))), (q5, .inl (cI, 49, .inl (fun _ => 0))), (q6, .inl (cI, 7, .inl (fun _ => 0))), (q7, .inl (cI, 7, .inl (fun _ => 0)))] := hD
  refine W.widen (k := 7) (n := 91) (show 7 ≤ 7 by decide) (show 91 ≤ 91 by decide) ?_
  refine va_putF (D := D) (ci := 2) (v := .ref q7) (ty := (.array .int)) (C := RX2) (T := TX2) (N := 18) hx hb hts hi2 tyX2 tyX2_ok nmX2 hown hK hP hD hS 0 rfl rfl 16 (by decide) (hts (.fieldLink RX2 30 "AlibiRota$Rotas" "fittingRow" "[I") (by decide +kernel)) (fun _ h9 => h9) rfl hin rfl (by decide +kernel) rfl rfl (Nat.le_of_ble_eq_true rfl) dX2_init_57 (fun H locs hP hD hS => ?_)
  have hP : va_P D vwCl [(a, .inr (2, [.int 0, .int 0, .int 0, .int 0, .ref q1, .ref q2, .ref q3, .ref q4, .ref q5, .int 0, .int 0, .int 0, .int 0, .int 0, .ref q6, .int 0, .ref q7, .null])), (q1, .inl (cI, 7, .inl (fun _ => 0))), (q2, .inl (cI, 7, .inl (fun _ => 0))), (q3, .inl (cI, 7, .inl (fun _ => 0))), (q4, .inl (cI, 7, .inl (fun _ => 0))), (q5, .inl (cI, 49, .inl (fun _ => 0))), (q6, .inl (cI, 7, .inl (fun _ => 0))), (q7, .inl (cI, 7, .inl (fun _ => 0)))] H := hP
  have hD : va_D A [(a, .inr (2, [.int 0, .int 0, .int 0, .int 0, .ref q1, .ref q2, .ref q3, .ref q4, .ref q5, .int 0, .int 0, .int 0, .int 0, .int 0, .ref q6, .int 0, .ref q7, .null])), (q1, .inl (cI, 7, .inl (fun _ => 0))), (q2, .inl (cI, 7, .inl (fun _ => 0))), (q3, .inl (cI, 7, .inl (fun _ => 0))), (q4, .inl (cI, 7, .inl (fun _ => 0))), (q5, .inl (cI, 49, .inl (fun _ => 0))), (q6, .inl (cI, 7, .inl (fun _ => 0))), (q7, .inl (cI, 7, .inl (fun _ => 0)))] := hD
  refine lv_aload_n hx hb dX2_init_60 rfl (lv_at hl 0 rfl) ?_
  refine lv_bipush (v := 7) hx hb dX2_init_61 (by decide) ?_
  refine va_newaU (atype := .int) (cA := cI) (ty := .int) (a0 := (7, .inl (fun _ => 0))) (N' := 7) hx hb (hts (.arrayClass .int) (by decide +kernel)) rfl hK hP hD hS hA 0 rfl (fun _ => zI _ _) (by decide) (by decide) (by decide +kernel) (show 8 ≤ 8 by decide) (show 98 ≤ 98 by decide) dX2_init_63 (fun q8 H hP hD hS => ?_)
  have hP : va_P D vwCl [(a, .inr (2, [.int 0, .int 0, .int 0, .int 0, .ref q1, .ref q2, .ref q3, .ref q4, .ref q5, .int 0, .int 0, .int 0, .int 0, .int 0, .ref q6, .int 0, .ref q7, .null])), (q1, .inl (cI, 7, .inl (fun _ => 0))), (q2, .inl (cI, 7, .inl (fun _ => 0))), (q3, .inl (cI, 7, .inl (fun _ => 0))), (q4, .inl (cI, 7, .inl (fun _ => 0))), (q5, .inl (cI, 49, .inl (fun _ => 0))), (q6, .inl (cI, 7, .inl (fun _ => 0))), (q7, .inl (cI, 7, .inl (fun _ => 0))), (q8, .inl (cI, 7, .inl (fun _ => 0)))] H := hP
  have hD : va_D A [(a, .inr (2, [.int 0, .int 0, .int 0, .int 0, .ref q1, .ref q2, .ref q3, .ref q4, .ref q5, .int 0, .int 0, .int 0, .int 0, .int 0, .ref q6, .int 0, .ref q7, .null])), (q1, .inl (cI, 7, .inl (fun _ => 0))), (q2, .inl (cI, 7, .inl (fun _ => 0))), (q3, .inl (cI, 7, .inl (fun _ => 0))), (q4, .inl (cI, 7, .inl (fun _ => 0))), (q5, .inl (cI, 49, .inl (fun _ => 0))), (q6, .inl (cI, 7, .inl (fun _ => 0))), (q7, .inl (cI, 7, .inl (fun _ => 0))), (q8, .inl (cI, 7, .inl (fun _ => 0)))] := hD
  refine W.widen (k := 8) (n := 98) (show 8 ≤ 8 by decide) (show 98 ≤ 98 by decide) ?_
  refine va_putF (D := D) (ci := 2) (v := .ref q8) (ty := (.array .int)) (C := RX2) (T := TX2) (N := 18) hx hb hts hi2 tyX2 tyX2_ok nmX2 hown hK hP hD hS 0 rfl rfl 17 (by decide) (hts (.fieldLink RX2 33 "AlibiRota$Rotas" "fittingTargets" "[I") (by decide +kernel)) (fun _ h9 => h9) rfl hin rfl (by decide +kernel) rfl rfl (Nat.le_of_ble_eq_true rfl) dX2_init_65 (fun H locs hP hD hS => ?_)
  have hP : va_P D vwCl [(a, .inr (2, [.int 0, .int 0, .int 0, .int 0, .ref q1, .ref q2, .ref q3, .ref q4, .ref q5, .int 0, .int 0, .int 0, .int 0, .int 0, .ref q6, .int 0, .ref q7, .ref q8])), (q1, .inl (cI, 7, .inl (fun _ => 0))), (q2, .inl (cI, 7, .inl (fun _ => 0))), (q3, .inl (cI, 7, .inl (fun _ => 0))), (q4, .inl (cI, 7, .inl (fun _ => 0))), (q5, .inl (cI, 49, .inl (fun _ => 0))), (q6, .inl (cI, 7, .inl (fun _ => 0))), (q7, .inl (cI, 7, .inl (fun _ => 0))), (q8, .inl (cI, 7, .inl (fun _ => 0)))] H := hP
  have hD : va_D A [(a, .inr (2, [.int 0, .int 0, .int 0, .int 0, .ref q1, .ref q2, .ref q3, .ref q4, .ref q5, .int 0, .int 0, .int 0, .int 0, .int 0, .ref q6, .int 0, .ref q7, .ref q8])), (q1, .inl (cI, 7, .inl (fun _ => 0))), (q2, .inl (cI, 7, .inl (fun _ => 0))), (q3, .inl (cI, 7, .inl (fun _ => 0))), (q4, .inl (cI, 7, .inl (fun _ => 0))), (q5, .inl (cI, 49, .inl (fun _ => 0))), (q6, .inl (cI, 7, .inl (fun _ => 0))), (q7, .inl (cI, 7, .inl (fun _ => 0))), (q8, .inl (cI, 7, .inl (fun _ => 0)))] := hD
  have hP9 := hP.sub (ws' := [(a, .inr (2, [.int 0, .int 0, .int 0, .int 0, .ref q1, .ref q2, .ref q3, .ref q4, .ref q5, .int 0, .int 0, .int 0, .int 0, .int 0, .ref q6, .int 0, .ref q7, .ref q8])), (q1, .inl (cI, 7, .inl (fun _ => 0))), (q2, .inl (cI, 7, .inl (fun _ => 0))), (q3, .inl (cI, 7, .inl (fun _ => 0))), (q4, .inl (cI, 7, .inl (fun _ => 0))), (q5, .inl (cI, 49, .inl (fun _ => 0))), (q6, .inl (cI, 7, .inl (fun _ => 0))), (q7, .inl (cI, 7, .inl (fun _ => 0))), (q8, .inl (cI, 7, .inl (fun _ => 0)))]) [0, 1, 2, 3, 4, 5, 6, 7, 8] rfl
  have hD9 := hD.sub (ws' := [(a, .inr (2, [.int 0, .int 0, .int 0, .int 0, .ref q1, .ref q2, .ref q3, .ref q4, .ref q5, .int 0, .int 0, .int 0, .int 0, .int 0, .ref q6, .int 0, .ref q7, .ref q8])), (q1, .inl (cI, 7, .inl (fun _ => 0))), (q2, .inl (cI, 7, .inl (fun _ => 0))), (q3, .inl (cI, 7, .inl (fun _ => 0))), (q4, .inl (cI, 7, .inl (fun _ => 0))), (q5, .inl (cI, 49, .inl (fun _ => 0))), (q6, .inl (cI, 7, .inl (fun _ => 0))), (q7, .inl (cI, 7, .inl (fun _ => 0))), (q8, .inl (cI, 7, .inl (fun _ => 0)))]) [0, 1, 2, 3, 4, 5, 6, 7, 8] (by decide +kernel) rfl
  exact W.vret hx hb hr (fun t ht _ => ⟨⟨(fun k => List.getD [0, 0, 0, 0, q1, q2, q3, q4, q5, 0, 0, 0, 0, 0, q6, 0, q7, q8] k 0), rfl, trivial, by rw [ht]; exact hP9, hD9⟩, hS.F ht⟩) hS.2.2 dX2_init_68

set_option maxHeartbeats 4000000 in
set_option maxRecDepth 100000 in
theorem k_Days_init (l : Launch) (D : va_G) (cI cZ cB cJ cR : ClassId) (a sz : Nat) : Met l yX1_init wsX1_init ({ frames := 1, cells := 4, slots := 480, locals := 12 }) (va_Pc [.ref a] (pQ D cI cZ cB cJ cR [(a, .inr (1, [.int 0, .int 0, .int 0, .null, .null, .null, .null]))] sz)) (va_Qv (fun (_ : Nat → Nat) => True) (fun (u : Nat → Nat) t => va_P D vwCl [(a, .inr (1, [.int 0, .int 0, .int 0, .ref (u 3), .ref (u 4), .ref (u 5), .ref (u 6)])), (u 3, .inl (cZ, 120, .inl (fun _ => 0))), (u 4, .inl (cI, 120, .inl (fun _ => 0))), (u 5, .inl (cI, 120, .inl (fun _ => 0))), (u 6, .inl (cI, 120, .inl (fun _ => 0)))] t.heap ∧ va_D (va_A [(a, .inr (1, [.int 0, .int 0, .int 0, .null, .null, .null, .null]))] sz) [(a, .inr (1, [.int 0, .int 0, .int 0, .ref (u 3), .ref (u 4), .ref (u 5), .ref (u 6)])), (u 3, .inl (cZ, 120, .inl (fun _ => 0))), (u 4, .inl (cI, 120, .inl (fun _ => 0))), (u 5, .inl (cI, 120, .inl (fun _ => 0))), (u 6, .inl (cI, 120, .inl (fun _ => 0)))]) (va_A [(a, .inr (1, [.int 0, .int 0, .int 0, .null, .null, .null, .null]))] sz)) 4 480 (va_A [(a, .inr (1, [.int 0, .int 0, .int 0, .null, .null, .null, .null]))] sz) := by
  refine Met.ofW (cc := cX1_init) (maxL := 1) (ret := none) (by decide) rfl ?_
  intro p e s m args below meth c s₁ B hml hv
  obtain ⟨rfl, hsz, hP, hk, hD0⟩ := hv
  have hK := hk.1
  have hz := hk.2.1
  have hx := B.exec
  have hb := B.bytes
  have hr := B.returns
  have hts := atoms_spec (ws := wsX1_init) B.pre
  have hown : s.vm.findClass RX1 = some m.cls := findClass_of_methodNamed B.named
  have hlocks := B.notSynchronized
  have hin : meth.name = "<init>" := (name_of_methodNamed B.named B.method).1
  have hi1 : ∀ w ∈ wsX10, w ∈ wsX1_init := by decide +kernel
  subst hsz
  have hD := hD0.self (sz := s.heap.size)
  generalize hAe : va_A [(a, .inr (1, [.int 0, .int 0, .int 0, .null, .null, .null, .null]))] s.heap.size = A at hD ⊢
  have hA : ∀ q : Nat, s.heap.size ≤ q → A q := fun q h => by rw [← hAe]; exact Or.inr h
  have hS : va_S A s.heap s.heap [] := va_S.rf
  have hP : va_P D vwCl [(a, .inr (1, [.int 0, .int 0, .int 0, .null, .null, .null, .null]))] s.heap := hP
  have hl := lv_entry ([.ref a]) (n := 1) (Nat.le_of_ble_eq_true rfl)
  rw [lg_entry_eq]
  generalize (lg_sl ([.ref a]) ++ List.replicate (1 - (lg_sl ([.ref a])).length) Slot.unset).toArray = ls at hl ⊢
  have hl : lv_has ls 1 [(0, .ref a)] := hl
  refine lv_aload_n hx hb dX1_init_0 rfl (lv_at hl 0 rfl) ?_
  refine W.objInit hx hb hown (hts (.methodLink RX1 3 objectInit) (by decide +kernel)) (hts (.instanceMethod objectInit) (by decide +kernel)) (hts (.code objectInit ⟨#[0xb1]⟩ 1 none) (by decide +kernel)) rfl (by rw [hml]; exact hl.1) rfl dX1_init_1 (Nat.le_of_ble_eq_true rfl) (Nat.le_of_ble_eq_true rfl) ?_
  refine W.eq (g2 := F0 m 4 ls []) rfl ?_
  refine lv_aload_n hx hb dX1_init_4 rfl (lv_at hl 0 rfl) ?_
  refine lv_bipush (v := 120) hx hb dX1_init_5 (by decide) ?_
  refine va_newaU (atype := .boolean) (cA := cZ) (ty := .boolean) (a0 := (120, .inl (fun _ => 0))) (N' := 120) hx hb (hts (.arrayClass .boolean) (by decide +kernel)) rfl hK hP hD hS hA 1 rfl (fun _ => zZ _ _) (by decide) (by decide) (by decide +kernel) (show 1 ≤ 4 by decide) (show 120 ≤ 480 by decide) dX1_init_7 (fun q1 H hP hD hS => ?_)
  have hP : va_P D vwCl [(a, .inr (1, [.int 0, .int 0, .int 0, .null, .null, .null, .null])), (q1, .inl (cZ, 120, .inl (fun _ => 0)))] H := hP
  have hD : va_D A [(a, .inr (1, [.int 0, .int 0, .int 0, .null, .null, .null, .null])), (q1, .inl (cZ, 120, .inl (fun _ => 0)))] := hD
  refine W.widen (k := 1) (n := 120) (show 1 ≤ 1 by decide) (show 120 ≤ 120 by decide) ?_
  refine va_putF (D := D) (ci := 1) (v := .ref q1) (ty := (.array .boolean)) (C := RX1) (T := TX1) (N := 7) hx hb hts hi1 tyX1 tyX1_ok nmX1 hown hK hP hD hS 0 rfl rfl 3 (by decide) (hts (.fieldLink RX1 9 "AlibiRota$Days" "isOpen" "[Z") (by decide +kernel)) (fun _ h9 => h9) rfl hin rfl (by decide +kernel) rfl rfl (Nat.le_of_ble_eq_true rfl) dX1_init_9 (fun H locs hP hD hS => ?_)
  have hP : va_P D vwCl [(a, .inr (1, [.int 0, .int 0, .int 0, .ref q1, .null, .null, .null])), (q1, .inl (cZ, 120, .inl (fun _ => 0)))] H := hP
  have hD : va_D A [(a, .inr (1, [.int 0, .int 0, .int 0, .ref q1, .null, .null, .null])), (q1, .inl (cZ, 120, .inl (fun _ => 0)))] := hD
  refine lv_aload_n hx hb dX1_init_12 rfl (lv_at hl 0 rfl) ?_
  refine lv_bipush (v := 120) hx hb dX1_init_13 (by decide) ?_
  refine va_newaU (atype := .int) (cA := cI) (ty := .int) (a0 := (120, .inl (fun _ => 0))) (N' := 120) hx hb (hts (.arrayClass .int) (by decide +kernel)) rfl hK hP hD hS hA 0 rfl (fun _ => zI _ _) (by decide) (by decide) (by decide +kernel) (show 2 ≤ 4 by decide) (show 240 ≤ 480 by decide) dX1_init_15 (fun q2 H hP hD hS => ?_)
  have hP : va_P D vwCl [(a, .inr (1, [.int 0, .int 0, .int 0, .ref q1, .null, .null, .null])), (q1, .inl (cZ, 120, .inl (fun _ => 0))), (q2, .inl (cI, 120, .inl (fun _ => 0)))] H := hP
  have hD : va_D A [(a, .inr (1, [.int 0, .int 0, .int 0, .ref q1, .null, .null, .null])), (q1, .inl (cZ, 120, .inl (fun _ => 0))), (q2, .inl (cI, 120, .inl (fun _ => 0)))] := hD
  refine W.widen (k := 2) (n := 240) (show 2 ≤ 2 by decide) (show 240 ≤ 240 by decide) ?_
  refine va_putF (D := D) (ci := 1) (v := .ref q2) (ty := (.array .int)) (C := RX1) (T := TX1) (N := 7) hx hb hts hi1 tyX1 tyX1_ok nmX1 hown hK hP hD hS 0 rfl rfl 4 (by decide) (hts (.fieldLink RX1 15 "AlibiRota$Days" "seenThere" "[I") (by decide +kernel)) (fun _ h9 => h9) rfl hin rfl (by decide +kernel) rfl rfl (Nat.le_of_ble_eq_true rfl) dX1_init_17 (fun H locs hP hD hS => ?_)
  have hP : va_P D vwCl [(a, .inr (1, [.int 0, .int 0, .int 0, .ref q1, .ref q2, .null, .null])), (q1, .inl (cZ, 120, .inl (fun _ => 0))), (q2, .inl (cI, 120, .inl (fun _ => 0)))] H := hP
  have hD : va_D A [(a, .inr (1, [.int 0, .int 0, .int 0, .ref q1, .ref q2, .null, .null])), (q1, .inl (cZ, 120, .inl (fun _ => 0))), (q2, .inl (cI, 120, .inl (fun _ => 0)))] := hD
  refine lv_aload_n hx hb dX1_init_20 rfl (lv_at hl 0 rfl) ?_
  refine lv_bipush (v := 120) hx hb dX1_init_21 (by decide) ?_
  refine va_newaU (atype := .int) (cA := cI) (ty := .int) (a0 := (120, .inl (fun _ => 0))) (N' := 120) hx hb (hts (.arrayClass .int) (by decide +kernel)) rfl hK hP hD hS hA 0 rfl (fun _ => zI _ _) (by decide) (by decide) (by decide +kernel) (show 3 ≤ 4 by decide) (show 360 ≤ 480 by decide) dX1_init_23 (fun q3 H hP hD hS => ?_)
  have hP : va_P D vwCl [(a, .inr (1, [.int 0, .int 0, .int 0, .ref q1, .ref q2, .null, .null])), (q1, .inl (cZ, 120, .inl (fun _ => 0))), (q2, .inl (cI, 120, .inl (fun _ => 0))), (q3, .inl (cI, 120, .inl (fun _ => 0)))] H := hP
  have hD : va_D A [(a, .inr (1, [.int 0, .int 0, .int 0, .ref q1, .ref q2, .null, .null])), (q1, .inl (cZ, 120, .inl (fun _ => 0))), (q2, .inl (cI, 120, .inl (fun _ => 0))), (q3, .inl (cI, 120, .inl (fun _ => 0)))] := hD
  refine W.widen (k := 3) (n := 360) (show 3 ≤ 3 by decide) (show 360 ≤ 360 by decide) ?_
  refine va_putF (D := D) (ci := 1) (v := .ref q3) (ty := (.array .int)) (C := RX1) (T := TX1) (N := 7) hx hb hts hi1 tyX1 tyX1_ok nmX1 hown hK hP hD hS 0 rfl rfl 5 (by decide) (hts (.fieldLink RX1 19 "AlibiRota$Days" "hoursFrom" "[I") (by decide +kernel)) (fun _ h9 => h9) rfl hin rfl (by decide +kernel) rfl rfl (Nat.le_of_ble_eq_true rfl) dX1_init_25 (fun H locs hP hD hS => ?_)
  have hP : va_P D vwCl [(a, .inr (1, [.int 0, .int 0, .int 0, .ref q1, .ref q2, .ref q3, .null])), (q1, .inl (cZ, 120, .inl (fun _ => 0))), (q2, .inl (cI, 120, .inl (fun _ => 0))), (q3, .inl (cI, 120, .inl (fun _ => 0)))] H := hP
  have hD : va_D A [(a, .inr (1, [.int 0, .int 0, .int 0, .ref q1, .ref q2, .ref q3, .null])), (q1, .inl (cZ, 120, .inl (fun _ => 0))), (q2, .inl (cI, 120, .inl (fun _ => 0))), (q3, .inl (cI, 120, .inl (fun _ => 0)))] := hD
  refine lv_aload_n hx hb dX1_init_28 rfl (lv_at hl 0 rfl) ?_
  refine lv_bipush (v := 120) hx hb dX1_init_29 (by decide) ?_
  refine va_newaU (atype := .int) (cA := cI) (ty := .int) (a0 := (120, .inl (fun _ => 0))) (N' := 120) hx hb (hts (.arrayClass .int) (by decide +kernel)) rfl hK hP hD hS hA 0 rfl (fun _ => zI _ _) (by decide) (by decide) (by decide +kernel) (show 4 ≤ 4 by decide) (show 480 ≤ 480 by decide) dX1_init_31 (fun q4 H hP hD hS => ?_)
  have hP : va_P D vwCl [(a, .inr (1, [.int 0, .int 0, .int 0, .ref q1, .ref q2, .ref q3, .null])), (q1, .inl (cZ, 120, .inl (fun _ => 0))), (q2, .inl (cI, 120, .inl (fun _ => 0))), (q3, .inl (cI, 120, .inl (fun _ => 0))), (q4, .inl (cI, 120, .inl (fun _ => 0)))] H := hP
  have hD : va_D A [(a, .inr (1, [.int 0, .int 0, .int 0, .ref q1, .ref q2, .ref q3, .null])), (q1, .inl (cZ, 120, .inl (fun _ => 0))), (q2, .inl (cI, 120, .inl (fun _ => 0))), (q3, .inl (cI, 120, .inl (fun _ => 0))), (q4, .inl (cI, 120, .inl (fun _ => 0)))] := hD
  refine W.widen (k := 4) (n := 480) (show 4 ≤ 4 by decide) (show 480 ≤ 480 by decide) ?_
  refine va_putF (D := D) (ci := 1) (v := .ref q4) (ty := (.array .int)) (C := RX1) (T := TX1) (N := 7) hx hb hts hi1 tyX1 tyX1_ok nmX1 hown hK hP hD hS 0 rfl rfl 6 (by decide) (hts (.fieldLink RX1 22 "AlibiRota$Days" "stepsFrom" "[I") (by decide +kernel)) (fun _ h9 => h9) rfl hin rfl (by decide +kernel) rfl rfl (Nat.le_of_ble_eq_true rfl) dX1_init_33 (fun H locs hP hD hS => ?_)
  have hP : va_P D vwCl [(a, .inr (1, [.int 0, .int 0, .int 0, .ref q1, .ref q2, .ref q3, .ref q4])), (q1, .inl (cZ, 120, .inl (fun _ => 0))), (q2, .inl (cI, 120, .inl (fun _ => 0))), (q3, .inl (cI, 120, .inl (fun _ => 0))), (q4, .inl (cI, 120, .inl (fun _ => 0)))] H := hP
  have hD : va_D A [(a, .inr (1, [.int 0, .int 0, .int 0, .ref q1, .ref q2, .ref q3, .ref q4])), (q1, .inl (cZ, 120, .inl (fun _ => 0))), (q2, .inl (cI, 120, .inl (fun _ => 0))), (q3, .inl (cI, 120, .inl (fun _ => 0))), (q4, .inl (cI, 120, .inl (fun _ => 0)))] := hD
  have hP9 := hP.sub (ws' := [(a, .inr (1, [.int 0, .int 0, .int 0, .ref q1, .ref q2, .ref q3, .ref q4])), (q1, .inl (cZ, 120, .inl (fun _ => 0))), (q2, .inl (cI, 120, .inl (fun _ => 0))), (q3, .inl (cI, 120, .inl (fun _ => 0))), (q4, .inl (cI, 120, .inl (fun _ => 0)))]) [0, 1, 2, 3, 4] rfl
  have hD9 := hD.sub (ws' := [(a, .inr (1, [.int 0, .int 0, .int 0, .ref q1, .ref q2, .ref q3, .ref q4])), (q1, .inl (cZ, 120, .inl (fun _ => 0))), (q2, .inl (cI, 120, .inl (fun _ => 0))), (q3, .inl (cI, 120, .inl (fun _ => 0))), (q4, .inl (cI, 120, .inl (fun _ => 0)))]) [0, 1, 2, 3, 4] (by decide +kernel) rfl
  exact W.vret hx hb hr (fun t ht _ => ⟨⟨(fun k => List.getD [0, 0, 0, q1, q2, q3, q4] k 0), rfl, trivial, by rw [ht]; exact hP9, hD9⟩, hS.F ht⟩) hS.2.2 dX1_init_36

set_option maxHeartbeats 4000000 in
set_option maxRecDepth 100000 in
theorem k_City_init (l : Launch) (D : va_G) (cI cZ cB cJ cR : ClassId) (a sz : Nat) : Met l yX0_init wsX0_init ({ frames := 1, cells := 10, slots := 321, locals := 12 }) (va_Pc [.ref a] (pQ D cI cZ cB cJ cR [(a, .inr (0, [.null, .int 0, .int 0, .int 0, .null, .null, .null, .null, .null, .int 0, .null, .null, .null, .null]))] sz)) (va_Qv (fun (_ : Nat → Nat) => True) (fun (u : Nat → Nat) t => va_P D vwCl [(a, .inr (0, [.ref (u 0), .int 0, .int 0, .int 0, .ref (u 4), .ref (u 5), .ref (u 6), .ref (u 7), .ref (u 8), .int 0, .ref (u 10), .ref (u 11), .ref (u 12), .ref (u 13)])), (u 0, .inl (cI, 7, .inl (fun _ => 0))), (u 4, .inl (cI, 7, .inl (fun _ => 0))), (u 5, .inl (cI, 7, .inl (fun _ => 0))), (u 6, .inl (cI, 84, .inl (fun _ => 0))), (u 7, .inl (cI, 7, .inl (fun _ => 0))), (u 8, .inl (cI, 49, .inl (fun _ => 0))), (u 10, .inl (cI, 40, .inl (fun _ => 0))), (u 11, .inl (cI, 40, .inl (fun _ => 0))), (u 12, .inl (cI, 40, .inl (fun _ => 0))), (u 13, .inl (cI, 40, .inl (fun _ => 0)))] t.heap ∧ va_D (va_A [(a, .inr (0, [.null, .int 0, .int 0, .int 0, .null, .null, .null, .null, .null, .int 0, .null, .null, .null, .null]))] sz) [(a, .inr (0, [.ref (u 0), .int 0, .int 0, .int 0, .ref (u 4), .ref (u 5), .ref (u 6), .ref (u 7), .ref (u 8), .int 0, .ref (u 10), .ref (u 11), .ref (u 12), .ref (u 13)])), (u 0, .inl (cI, 7, .inl (fun _ => 0))), (u 4, .inl (cI, 7, .inl (fun _ => 0))), (u 5, .inl (cI, 7, .inl (fun _ => 0))), (u 6, .inl (cI, 84, .inl (fun _ => 0))), (u 7, .inl (cI, 7, .inl (fun _ => 0))), (u 8, .inl (cI, 49, .inl (fun _ => 0))), (u 10, .inl (cI, 40, .inl (fun _ => 0))), (u 11, .inl (cI, 40, .inl (fun _ => 0))), (u 12, .inl (cI, 40, .inl (fun _ => 0))), (u 13, .inl (cI, 40, .inl (fun _ => 0)))]) (va_A [(a, .inr (0, [.null, .int 0, .int 0, .int 0, .null, .null, .null, .null, .null, .int 0, .null, .null, .null, .null]))] sz)) 10 321 (va_A [(a, .inr (0, [.null, .int 0, .int 0, .int 0, .null, .null, .null, .null, .null, .int 0, .null, .null, .null, .null]))] sz) := by
  refine Met.ofW (cc := cX0_init) (maxL := 1) (ret := none) (by decide) rfl ?_
  intro p e s m args below meth c s₁ B hml hv
  obtain ⟨rfl, hsz, hP, hk, hD0⟩ := hv
  have hK := hk.1
  have hz := hk.2.1
  have hx := B.exec
  have hb := B.bytes
  have hr := B.returns
  have hts := atoms_spec (ws := wsX0_init) B.pre
  have hown : s.vm.findClass RX0 = some m.cls := findClass_of_methodNamed B.named
  have hlocks := B.notSynchronized
  have hin : meth.name = "<init>" := (name_of_methodNamed B.named B.method).1
  have hi0 : ∀ w ∈ wsX00, w ∈ wsX0_init := by decide +kernel
  subst hsz
  have hD := hD0.self (sz := s.heap.size)
  generalize hAe : va_A [(a, .inr (0, [.null, .int 0, .int 0, .int 0, .null, .null, .null, .null, .null, .int 0, .null, .null, .null, .null]))] s.heap.size = A at hD ⊢
  have hA : ∀ q : Nat, s.heap.size ≤ q → A q := fun q h => by rw [← hAe]; exact Or.inr h
  have hS : va_S A s.heap s.heap [] := va_S.rf
  have hP : va_P D vwCl [(a, .inr (0, [.null, .int 0, .int 0, .int 0, .null, .null, .null, .null, .null, .int 0, .null, .null, .null, .null]))] s.heap := hP
  have hl := lv_entry ([.ref a]) (n := 1) (Nat.le_of_ble_eq_true rfl)
  rw [lg_entry_eq]
  generalize (lg_sl ([.ref a]) ++ List.replicate (1 - (lg_sl ([.ref a])).length) Slot.unset).toArray = ls at hl ⊢
  have hl : lv_has ls 1 [(0, .ref a)] := hl
  refine lv_aload_n hx hb dX0_init_0 rfl (lv_at hl 0 rfl) ?_
  refine W.objInit hx hb hown (hts (.methodLink RX0 3 objectInit) (by decide +kernel)) (hts (.instanceMethod objectInit) (by decide +kernel)) (hts (.code objectInit ⟨#[0xb1]⟩ 1 none) (by decide +kernel)) rfl (by rw [hml]; exact hl.1) rfl dX0_init_1 (Nat.le_of_ble_eq_true rfl) (Nat.le_of_ble_eq_true rfl) ?_
  refine W.eq (g2 := F0 m 4 ls []) rfl ?_
  refine lv_aload_n hx hb dX0_init_4 rfl (lv_at hl 0 rfl) ?_
  refine lv_bipush (v := 7) hx hb dX0_init_5 (by decide) ?_
  refine va_newaU (atype := .int) (cA := cI) (ty := .int) (a0 := (7, .inl (fun _ => 0))) (N' := 7) hx hb (hts (.arrayClass .int) (by decide +kernel)) rfl hK hP hD hS hA 0 rfl (fun _ => zI _ _) (by decide) (by decide) (by decide +kernel) (show 1 ≤ 10 by decide) (show 7 ≤ 321 by decide) dX0_init_7 (fun q1 H hP hD hS => ?_)
  have hP : va_P D vwCl [(a, .inr (0, [.null, .int 0, .int 0, .int 0, .null, .null, .null, .null, .null, .int 0, .null, .null, .null, .null])), (q1, .inl (cI, 7, .inl (fun _ => 0)))] H := hP
  have hD : va_D A [(a, .inr (0, [.null, .int 0, .int 0, .int 0, .null, .null, .null, .null, .null, .int 0, .null, .null, .null, .null])), (q1, .inl (cI, 7, .inl (fun _ => 0)))] := hD
  refine W.widen (k := 1) (n := 7) (show 1 ≤ 1 by decide) (show 7 ≤ 7 by decide) ?_
  refine va_putF (D := D) (ci := 0) (v := .ref q1) (ty := (.array .int)) (C := RX0) (T := TX0) (N := 14) hx hb hts hi0 tyX0 tyX0_ok nmX0 hown hK hP hD hS 0 rfl rfl 0 (by decide) (hts (.fieldLink RX0 9 "AlibiRota$City" "numbers" "[I") (by decide +kernel)) (fun _ h9 => h9) rfl hin rfl (by decide +kernel) rfl rfl (Nat.le_of_ble_eq_true rfl) dX0_init_9 (fun H locs hP hD hS => ?_)
  have hP : va_P D vwCl [(a, .inr (0, [.ref q1, .int 0, .int 0, .int 0, .null, .null, .null, .null, .null, .int 0, .null, .null, .null, .null])), (q1, .inl (cI, 7, .inl (fun _ => 0)))] H := hP
  have hD : va_D A [(a, .inr (0, [.ref q1, .int 0, .int 0, .int 0, .null, .null, .null, .null, .null, .int 0, .null, .null, .null, .null])), (q1, .inl (cI, 7, .inl (fun _ => 0)))] := hD
  refine lv_aload_n hx hb dX0_init_12 rfl (lv_at hl 0 rfl) ?_
  refine lv_bipush (v := 7) hx hb dX0_init_13 (by decide) ?_
  refine va_newaU (atype := .int) (cA := cI) (ty := .int) (a0 := (7, .inl (fun _ => 0))) (N' := 7) hx hb (hts (.arrayClass .int) (by decide +kernel)) rfl hK hP hD hS hA 0 rfl (fun _ => zI _ _) (by decide) (by decide) (by decide +kernel) (show 2 ≤ 10 by decide) (show 14 ≤ 321 by decide) dX0_init_15 (fun q2 H hP hD hS => ?_)
  have hP : va_P D vwCl [(a, .inr (0, [.ref q1, .int 0, .int 0, .int 0, .null, .null, .null, .null, .null, .int 0, .null, .null, .null, .null])), (q1, .inl (cI, 7, .inl (fun _ => 0))), (q2, .inl (cI, 7, .inl (fun _ => 0)))] H := hP
  have hD : va_D A [(a, .inr (0, [.ref q1, .int 0, .int 0, .int 0, .null, .null, .null, .null, .null, .int 0, .null, .null, .null, .null])), (q1, .inl (cI, 7, .inl (fun _ => 0))), (q2, .inl (cI, 7, .inl (fun _ => 0)))] := hD
  refine W.widen (k := 2) (n := 14) (show 2 ≤ 2 by decide) (show 14 ≤ 14 by decide) ?_
  refine va_putF (D := D) (ci := 0) (v := .ref q2) (ty := (.array .int)) (C := RX0) (T := TX0) (N := 14) hx hb hts hi0 tyX0 tyX0_ok nmX0 hown hK hP hD hS 0 rfl rfl 4 (by decide) (hts (.fieldLink RX0 15 "AlibiRota$City" "home" "[I") (by decide +kernel)) (fun _ h9 => h9) rfl hin rfl (by decide +kernel) rfl rfl (Nat.le_of_ble_eq_true rfl) dX0_init_17 (fun H locs hP hD hS => ?_)
  have hP : va_P D vwCl [(a, .inr (0, [.ref q1, .int 0, .int 0, .int 0, .ref q2, .null, .null, .null, .null, .int 0, .null, .null, .null, .null])), (q1, .inl (cI, 7, .inl (fun _ => 0))), (q2, .inl (cI, 7, .inl (fun _ => 0)))] H := hP
  have hD : va_D A [(a, .inr (0, [.ref q1, .int 0, .int 0, .int 0, .ref q2, .null, .null, .null, .null, .int 0, .null, .null, .null, .null])), (q1, .inl (cI, 7, .inl (fun _ => 0))), (q2, .inl (cI, 7, .inl (fun _ => 0)))] := hD
  refine lv_aload_n hx hb dX0_init_20 rfl (lv_at hl 0 rfl) ?_
  refine lv_bipush (v := 7) hx hb dX0_init_21 (by decide) ?_
  refine va_newaU (atype := .int) (cA := cI) (ty := .int) (a0 := (7, .inl (fun _ => 0))) (N' := 7) hx hb (hts (.arrayClass .int) (by decide +kernel)) rfl hK hP hD hS hA 0 rfl (fun _ => zI _ _) (by decide) (by decide) (by decide +kernel) (show 3 ≤ 10 by decide) (show 21 ≤ 321 by decide) dX0_init_23 (fun q3 H hP hD hS => ?_)
  have hP : va_P D vwCl [(a, .inr (0, [.ref q1, .int 0, .int 0, .int 0, .ref q2, .null, .null, .null, .null, .int 0, .null, .null, .null, .null])), (q1, .inl (cI, 7, .inl (fun _ => 0))), (q2, .inl (cI, 7, .inl (fun _ => 0))), (q3, .inl (cI, 7, .inl (fun _ => 0)))] H := hP
  have hD : va_D A [(a, .inr (0, [.ref q1, .int 0, .int 0, .int 0, .ref q2, .null, .null, .null, .null, .int 0, .null, .null, .null, .null])), (q1, .inl (cI, 7, .inl (fun _ => 0))), (q2, .inl (cI, 7, .inl (fun _ => 0))), (q3, .inl (cI, 7, .inl (fun _ => 0)))] := hD
  refine W.widen (k := 3) (n := 21) (show 3 ≤ 3 by decide) (show 21 ≤ 21 by decide) ?_
  refine va_putF (D := D) (ci := 0) (v := .ref q3) (ty := (.array .int)) (C := RX0) (T := TX0) (N := 14) hx hb hts hi0 tyX0 tyX0_ok nmX0 hown hK hP hD hS 0 rfl rfl 5 (by decide) (hts (.fieldLink RX0 18 "AlibiRota$City" "oath" "[I") (by decide +kernel)) (fun _ h9 => h9) rfl hin rfl (by decide +kernel) rfl rfl (Nat.le_of_ble_eq_true rfl) dX0_init_25 (fun H locs hP hD hS => ?_)
  have hP : va_P D vwCl [(a, .inr (0, [.ref q1, .int 0, .int 0, .int 0, .ref q2, .ref q3, .null, .null, .null, .int 0, .null, .null, .null, .null])), (q1, .inl (cI, 7, .inl (fun _ => 0))), (q2, .inl (cI, 7, .inl (fun _ => 0))), (q3, .inl (cI, 7, .inl (fun _ => 0)))] H := hP
  have hD : va_D A [(a, .inr (0, [.ref q1, .int 0, .int 0, .int 0, .ref q2, .ref q3, .null, .null, .null, .int 0, .null, .null, .null, .null])), (q1, .inl (cI, 7, .inl (fun _ => 0))), (q2, .inl (cI, 7, .inl (fun _ => 0))), (q3, .inl (cI, 7, .inl (fun _ => 0)))] := hD
  refine lv_aload_n hx hb dX0_init_28 rfl (lv_at hl 0 rfl) ?_
  refine lv_bipush (v := 84) hx hb dX0_init_29 (by decide) ?_
  refine va_newaU (atype := .int) (cA := cI) (ty := .int) (a0 := (84, .inl (fun _ => 0))) (N' := 84) hx hb (hts (.arrayClass .int) (by decide +kernel)) rfl hK hP hD hS hA 0 rfl (fun _ => zI _ _) (by decide) (by decide) (by decide +kernel) (show 4 ≤ 10 by decide) (show 105 ≤ 321 by decide) dX0_init_31 (fun q4 H hP hD hS => ?_)
  have hP : va_P D vwCl [(a, .inr (0, [.ref q1, .int 0, .int 0, .int 0, .ref q2, .ref q3, .null, .null, .null, .int 0, .null, .null, .null, .null])), (q1, .inl (cI, 7, .inl (fun _ => 0))), (q2, .inl (cI, 7, .inl (fun _ => 0))), (q3, .inl (cI, 7, .inl (fun _ => 0))), (q4, .inl (cI, 84, .inl (fun _ => 0)))] H := hP
  have hD : va_D A [(a, .inr (0, [.ref q1, .int 0, .int 0, .int 0, .ref q2, .ref q3, .null, .null, .null, .int 0, .null, .null, .null, .null])), (q1, .inl (cI, 7, .inl (fun _ => 0))), (q2, .inl (cI, 7, .inl (fun _ => 0))), (q3, .inl (cI, 7, .inl (fun _ => 0))), (q4, .inl (cI, 84, .inl (fun _ => 0)))] := hD
  refine W.widen (k := 4) (n := 105) (show 4 ≤ 4 by decide) (show 105 ≤ 105 by decide) ?_
  refine va_putF (D := D) (ci := 0) (v := .ref q4) (ty := (.array .int)) (C := RX0) (T := TX0) (N := 14) hx hb hts hi0 tyX0 tyX0_ok nmX0 hown hK hP hD hS 0 rfl rfl 6 (by decide) (hts (.fieldLink RX0 21 "AlibiRota$City" "place" "[I") (by decide +kernel)) (fun _ h9 => h9) rfl hin rfl (by decide +kernel) rfl rfl (Nat.le_of_ble_eq_true rfl) dX0_init_33 (fun H locs hP hD hS => ?_)
  have hP : va_P D vwCl [(a, .inr (0, [.ref q1, .int 0, .int 0, .int 0, .ref q2, .ref q3, .ref q4, .null, .null, .int 0, .null, .null, .null, .null])), (q1, .inl (cI, 7, .inl (fun _ => 0))), (q2, .inl (cI, 7, .inl (fun _ => 0))), (q3, .inl (cI, 7, .inl (fun _ => 0))), (q4, .inl (cI, 84, .inl (fun _ => 0)))] H := hP
  have hD : va_D A [(a, .inr (0, [.ref q1, .int 0, .int 0, .int 0, .ref q2, .ref q3, .ref q4, .null, .null, .int 0, .null, .null, .null, .null])), (q1, .inl (cI, 7, .inl (fun _ => 0))), (q2, .inl (cI, 7, .inl (fun _ => 0))), (q3, .inl (cI, 7, .inl (fun _ => 0))), (q4, .inl (cI, 84, .inl (fun _ => 0)))] := hD
  refine lv_aload_n hx hb dX0_init_36 rfl (lv_at hl 0 rfl) ?_
  refine lv_bipush (v := 7) hx hb dX0_init_37 (by decide) ?_
  refine va_newaU (atype := .int) (cA := cI) (ty := .int) (a0 := (7, .inl (fun _ => 0))) (N' := 7) hx hb (hts (.arrayClass .int) (by decide +kernel)) rfl hK hP hD hS hA 0 rfl (fun _ => zI _ _) (by decide) (by decide) (by decide +kernel) (show 5 ≤ 10 by decide) (show 112 ≤ 321 by decide) dX0_init_39 (fun q5 H hP hD hS => ?_)
  have hP : va_P D vwCl [(a, .inr (0, [.ref q1, .int 0, .int 0, .int 0, .ref q2, .ref q3, .ref q4, .null, .null, .int 0, .null, .null, .null, .null])), (q1, .inl (cI, 7, .inl (fun _ => 0))), (q2, .inl (cI, 7, .inl (fun _ => 0))), (q3, .inl (cI, 7, .inl (fun _ => 0))), (q4, .inl (cI, 84, .inl (fun _ => 0))), (q5, .inl (cI, 7, .inl (fun _ => 0)))] H := hP
  have hD : va_D A [(a, .inr (0, [.ref q1, .int 0, .int 0, .int 0, .ref q2, .ref q3, .ref q4, .null, .null, .int 0, .null, .null, .null, .null])), (q1, .inl (cI, 7, .inl (fun _ => 0))), (q2, .inl (cI, 7, .inl (fun _ => 0))), (q3, .inl (cI, 7, .inl (fun _ => 0))), (q4, .inl (cI, 84, .inl (fun _ => 0))), (q5, .inl (cI, 7, .inl (fun _ => 0)))] := hD
  refine W.widen (k := 5) (n := 112) (show 5 ≤ 5 by decide) (show 112 ≤ 112 by decide) ?_
  refine va_putF (D := D) (ci := 0) (v := .ref q5) (ty := (.array .int)) (C := RX0) (T := TX0) (N := 14) hx hb hts hi0 tyX0 tyX0_ok nmX0 hown hK hP hD hS 0 rfl rfl 7 (by decide) (hts (.fieldLink RX0 24 "AlibiRota$City" "errands" "[I") (by decide +kernel)) (fun _ h9 => h9) rfl hin rfl (by decide +kernel) rfl rfl (Nat.le_of_ble_eq_true rfl) dX0_init_41 (fun H locs hP hD hS => ?_)
  have hP : va_P D vwCl [(a, .inr (0, [.ref q1, .int 0, .int 0, .int 0, .ref q2, .ref q3, .ref q4, .ref q5, .null, .int 0, .null, .null, .null, .null])), (q1, .inl (cI, 7, .inl (fun _ => 0))), (q2, .inl (cI, 7, .inl (fun _ => 0))), (q3, .inl (cI, 7, .inl (fun _ => 0))), (q4, .inl (cI, 84, .inl (fun _ => 0))), (q5, .inl (cI, 7, .inl (fun _ => 0)))] H := hP
  have hD : va_D A [(a, .inr (0, [.ref q1, .int 0, .int 0, .int 0, .ref q2, .ref q3, .ref q4, .ref q5, .null, .int 0, .null, .null, .null, .null])), (q1, .inl (cI, 7, .inl (fun _ => 0))), (q2, .inl (cI, 7, .inl (fun _ => 0))), (q3, .inl (cI, 7, .inl (fun _ => 0))), (q4, .inl (cI, 84, .inl (fun _ => 0))), (q5, .inl (cI, 7, .inl (fun _ => 0)))] := hD
  refine lv_aload_n hx hb dX0_init_44 rfl (lv_at hl 0 rfl) ?_
  refine lv_bipush (v := 49) hx hb dX0_init_45 (by decide) ?_
  refine va_newaU (atype := .int) (cA := cI) (ty := .int) (a0 := (49, .inl (fun _ => 0))) (N' := 49) hx hb (hts (.arrayClass .int) (by decide +kernel)) rfl hK hP hD hS hA 0 rfl (fun _ => zI _ _) (by decide) (by decide) (by decide +kernel) (show 6 ≤ 10 by decide) (show 161 ≤ 321 by decide) dX0_init_47 (fun q6 H hP hD hS => ?_)
  have hP : va_P D vwCl [(a, .inr (0, [.ref q1, .int 0, .int 0, .int 0, .ref q2, .ref q3, .ref q4, .ref q5, .null, .int 0, .null, .null, .null, .null])), (q1, .inl (cI, 7, .inl (fun _ => 0))), (q2, .inl (cI, 7, .inl (fun _ => 0))), (q3, .inl (cI, 7, .inl (fun _ => 0))), (q4, .inl (cI, 84, .inl (fun _ => 0))), (q5, .inl (cI, 7, .inl (fun _ => 0))), (q6, .inl (cI, 49, .inl (fun _ => 0)))] H := hP
  have hD : va_D A [(a, .inr (0, [.ref q1, .int 0, .int 0, .int 0, .ref q2, .ref q3, .ref q4, .ref q5, .null, .int 0, .null, .null, .null, .null])), (q1, .inl (cI, 7, .inl (fun _ => 0))), (q2, .inl (cI, 7, .inl (fun _ => 0))), (q3, .inl (cI, 7, .inl (fun _ => 0))), (q4, .inl (cI, 84, .inl (fun _ => 0))), (q5, .inl (cI, 7, .inl (fun _ => 0))), (q6, .inl (cI, 49, .inl (fun _ => 0)))] := hD
  refine W.widen (k := 6) (n := 161) (show 6 ≤ 6 by decide) (show 161 ≤ 161 by decide) ?_
  refine va_putF (D := D) (ci := 0) (v := .ref q6) (ty := (.array .int)) (C := RX0) (T := TX0) (N := 14) hx hb hts hi0 tyX0 tyX0_ok nmX0 hown hK hP hD hS 0 rfl rfl 8 (by decide) (hts (.fieldLink RX0 27 "AlibiRota$City" "seen" "[I") (by decide +kernel)) (fun _ h9 => h9) rfl hin rfl (by decide +kernel) rfl rfl (Nat.le_of_ble_eq_true rfl) dX0_init_49 (fun H locs hP hD hS => ?_)
  have hP : va_P D vwCl [(a, .inr (0, [.ref q1, .int 0, .int 0, .int 0, .ref q2, .ref q3, .ref q4, .ref q5, .ref q6, .int 0, .null, .null, .null, .null])), (q1, .inl (cI, 7, .inl (fun _ => 0))), (q2, .inl (cI, 7, .inl (fun _ => 0))), (q3, .inl (cI, 7, .inl (fun _ => 0))), (q4, .inl (cI, 84, .inl (fun _ => 0))), (q5, .inl (cI, 7, .inl (fun _ => 0))), (q6, .inl (cI, 49, .inl (fun _ => 0)))] H := hP
  have hD : va_D A [(a, .inr (0, [.ref q1, .int 0, .int 0, .int 0, .ref q2, .ref q3, .ref q4, .ref q5, .ref q6, .int 0, .null, .null, .null, .null])), (q1, .inl (cI, 7, .inl (fun _ => 0))), (q2, .inl (cI, 7, .inl (fun _ => 0))), (q3, .inl (cI, 7, .inl (fun _ => 0))), (q4, .inl (cI, 84, .inl (fun _ => 0))), (q5, .inl (cI, 7, .inl (fun _ => 0))), (q6, .inl (cI, 49, .inl (fun _ => 0)))] := hD
  refine lv_aload_n hx hb dX0_init_52 rfl (lv_at hl 0 rfl) ?_
  refine lv_bipush (v := 40) hx hb dX0_init_53 (by decide) ?_
  refine va_newaU (atype := .int) (cA := cI) (ty := .int) (a0 := (40, .inl (fun _ => 0))) (N' := 40) hx hb (hts (.arrayClass .int) (by decide +kernel)) rfl hK hP hD hS hA 0 rfl (fun _ => zI _ _) (by decide) (by decide) (by decide +kernel) (show 7 ≤ 10 by decide) (show 201 ≤ 321 by decide) dX0_init_55 (fun q7 H hP hD hS => ?_)
  have hP : va_P D vwCl [(a, .inr (0, [.ref q1, .int 0, .int 0, .int 0, .ref q2, .ref q3, .ref q4, .ref q5, .ref q6, .int 0, .null, .null, .null, .null])), (q1, .inl (cI, 7, .inl (fun _ => 0))), (q2, .inl (cI, 7, .inl (fun _ => 0))), (q3, .inl (cI, 7, .inl (fun _ => 0))), (q4, .inl (cI, 84, .inl (fun _ => 0))), (q5, .inl (cI, 7, .inl (fun _ => 0))), (q6, .inl (cI, 49, .inl (fun _ => 0))), (q7, .inl (cI, 40, .inl (fun _ => 0)))] H := hP
  have hD : va_D A [(a, .inr (0, [.ref q1, .int 0, .int 0, .int 0, .ref q2, .ref q3, .ref q4, .ref q5, .ref q6, .int 0, .null, .null, .null, .null])), (q1, .inl (cI, 7, .inl (fun _ => 0))), (q2, .inl (cI, 7, .inl (fun _ => 0))), (q3, .inl (cI, 7, .inl (fun _ => 0))), (q4, .inl (cI, 84, .inl (fun _ => 0))), (q5, .inl (cI, 7, .inl (fun _ => 0))), (q6, .inl (cI, 49, .inl (fun _ => 0))), (q7, .inl (cI, 40, .inl (fun _ => 0)))] := hD
  refine W.widen (k := 7) (n := 201) (show 7 ≤ 7 by decide) (show 201 ≤ 201 by decide) ?_
  refine va_putF (D := D) (ci := 0) (v := .ref q7) (ty := (.array .int)) (C := RX0) (T := TX0) (N := 14) hx hb hts hi0 tyX0 tyX0_ok nmX0 hown hK hP hD hS 0 rfl rfl 10 (by decide) (hts (.fieldLink RX0 30 "AlibiRota$City" "actPerson" "[I") (by decide +kernel)) (fun _ h9 => h9) rfl hin rfl (by decide +kernel) rfl rfl (Nat.le_of_ble_eq_true rfl) dX0_init_57 (fun H locs hP hD hS => ?_)
  have hP : va_P D vwCl [(a, .inr (0, [.ref q1, .int 0, .int 0, .int 0, .ref q2, .ref q3, .ref q4, .ref q5, .ref q6, .int 0, .ref q7, .null, .null, .null])), (q1, .inl (cI, 7, .inl (fun _ => 0))), (q2, .inl (cI, 7, .inl (fun _ => 0))), (q3, .inl (cI, 7, .inl (fun _ => 0))), (q4, .inl (cI, 84, .inl (fun _ => 0))), (q5, .inl (cI, 7, .inl (fun _ => 0))), (q6, .inl (cI, 49, .inl (fun _ => 0))), (q7, .inl (cI, 40, .inl (fun _ => 0)))] H := hP
  have hD : va_D A [(a, .inr (0, [.ref q1, .int 0, .int 0, .int 0, .ref q2, .ref q3, .ref q4, .ref q5, .ref q6, .int 0, .ref q7, .null, .null, .null])), (q1, .inl (cI, 7, .inl (fun _ => 0))), (q2, .inl (cI, 7, .inl (fun _ => 0))), (q3, .inl (cI, 7, .inl (fun _ => 0))), (q4, .inl (cI, 84, .inl (fun _ => 0))), (q5, .inl (cI, 7, .inl (fun _ => 0))), (q6, .inl (cI, 49, .inl (fun _ => 0))), (q7, .inl (cI, 40, .inl (fun _ => 0)))] := hD
  refine lv_aload_n hx hb dX0_init_60 rfl (lv_at hl 0 rfl) ?_
  refine lv_bipush (v := 40) hx hb dX0_init_61 (by decide) ?_
  refine va_newaU (atype := .int) (cA := cI) (ty := .int) (a0 := (40, .inl (fun _ => 0))) (N' := 40) hx hb (hts (.arrayClass .int) (by decide +kernel)) rfl hK hP hD hS hA 0 rfl (fun _ => zI _ _) (by decide) (by decide) (by decide +kernel) (show 8 ≤ 10 by decide) (show 241 ≤ 321 by decide) dX0_init_63 (fun q8 H hP hD hS => ?_)
  have hP : va_P D vwCl [(a, .inr (0, [.ref q1, .int 0, .int 0, .int 0, .ref q2, .ref q3, .ref q4, .ref q5, .ref q6, .int 0, .ref q7, .null, .null, .null])), (q1, .inl (cI, 7, .inl (fun _ => 0))), (q2, .inl (cI, 7, .inl (fun _ => 0))), (q3, .inl (cI, 7, .inl (fun _ => 0))), (q4, .inl (cI, 84, .inl (fun _ => 0))), (q5, .inl (cI, 7, .inl (fun _ => 0))), (q6, .inl (cI, 49, .inl (fun _ => 0))), (q7, .inl (cI, 40, .inl (fun _ => 0))), (q8, .inl (cI, 40, .inl (fun _ => 0)))] H := hP
  have hD : va_D A [(a, .inr (0, [.ref q1, .int 0, .int 0, .int 0, .ref q2, .ref q3, .ref q4, .ref q5, .ref q6, .int 0, .ref q7, .null, .null, .null])), (q1, .inl (cI, 7, .inl (fun _ => 0))), (q2, .inl (cI, 7, .inl (fun _ => 0))), (q3, .inl (cI, 7, .inl (fun _ => 0))), (q4, .inl (cI, 84, .inl (fun _ => 0))), (q5, .inl (cI, 7, .inl (fun _ => 0))), (q6, .inl (cI, 49, .inl (fun _ => 0))), (q7, .inl (cI, 40, .inl (fun _ => 0))), (q8, .inl (cI, 40, .inl (fun _ => 0)))] := hD
  refine W.widen (k := 8) (n := 241) (show 8 ≤ 8 by decide) (show 241 ≤ 241 by decide) ?_
  refine va_putF (D := D) (ci := 0) (v := .ref q8) (ty := (.array .int)) (C := RX0) (T := TX0) (N := 14) hx hb hts hi0 tyX0 tyX0_ok nmX0 hown hK hP hD hS 0 rfl rfl 11 (by decide) (hts (.fieldLink RX0 33 "AlibiRota$City" "actHour" "[I") (by decide +kernel)) (fun _ h9 => h9) rfl hin rfl (by decide +kernel) rfl rfl (Nat.le_of_ble_eq_true rfl) dX0_init_65 (fun H locs hP hD hS => ?_)
  have hP : va_P D vwCl [(a, .inr (0, [.ref q1, .int 0, .int 0, .int 0, .ref q2, .ref q3, .ref q4, .ref q5, .ref q6, .int 0, .ref q7, .ref q8, .null, .null])), (q1, .inl (cI, 7, .inl (fun _ => 0))), (q2, .inl (cI, 7, .inl (fun _ => 0))), (q3, .inl (cI, 7, .inl (fun _ => 0))), (q4, .inl (cI, 84, .inl (fun _ => 0))), (q5, .inl (cI, 7, .inl (fun _ => 0))), (q6, .inl (cI, 49, .inl (fun _ => 0))), (q7, .inl (cI, 40, .inl (fun _ => 0))), (q8, .inl (cI, 40, .inl (fun _ => 0)))] H := hP
  have hD : va_D A [(a, .inr (0, [.ref q1, .int 0, .int 0, .int 0, .ref q2, .ref q3, .ref q4, .ref q5, .ref q6, .int 0, .ref q7, .ref q8, .null, .null])), (q1, .inl (cI, 7, .inl (fun _ => 0))), (q2, .inl (cI, 7, .inl (fun _ => 0))), (q3, .inl (cI, 7, .inl (fun _ => 0))), (q4, .inl (cI, 84, .inl (fun _ => 0))), (q5, .inl (cI, 7, .inl (fun _ => 0))), (q6, .inl (cI, 49, .inl (fun _ => 0))), (q7, .inl (cI, 40, .inl (fun _ => 0))), (q8, .inl (cI, 40, .inl (fun _ => 0)))] := hD
  refine lv_aload_n hx hb dX0_init_68 rfl (lv_at hl 0 rfl) ?_
  refine lv_bipush (v := 40) hx hb dX0_init_69 (by decide) ?_
  refine va_newaU (atype := .int) (cA := cI) (ty := .int) (a0 := (40, .inl (fun _ => 0))) (N' := 40) hx hb (hts (.arrayClass .int) (by decide +kernel)) rfl hK hP hD hS hA 0 rfl (fun _ => zI _ _) (by decide) (by decide) (by decide +kernel) (show 9 ≤ 10 by decide) (show 281 ≤ 321 by decide) dX0_init_71 (fun q9 H hP hD hS => ?_)
  have hP : va_P D vwCl [(a, .inr (0, [.ref q1, .int 0, .int 0, .int 0, .ref q2, .ref q3, .ref q4, .ref q5, .ref q6, .int 0, .ref q7, .ref q8, .null, .null])), (q1, .inl (cI, 7, .inl (fun _ => 0))), (q2, .inl (cI, 7, .inl (fun _ => 0))), (q3, .inl (cI, 7, .inl (fun _ => 0))), (q4, .inl (cI, 84, .inl (fun _ => 0))), (q5, .inl (cI, 7, .inl (fun _ => 0))), (q6, .inl (cI, 49, .inl (fun _ => 0))), (q7, .inl (cI, 40, .inl (fun _ => 0))), (q8, .inl (cI, 40, .inl (fun _ => 0))), (q9, .inl (cI, 40, .inl (fun _ => 0)))] H := hP
  have hD : va_D A [(a, .inr (0, [.ref q1, .int 0, .int 0, .int 0, .ref q2, .ref q3, .ref q4, .ref q5, .ref q6, .int 0, .ref q7, .ref q8, .null, .null])), (q1, .inl (cI, 7, .inl (fun _ => 0))), (q2, .inl (cI, 7, .inl (fun _ => 0))), (q3, .inl (cI, 7, .inl (fun _ => 0))), (q4, .inl (cI, 84, .inl (fun _ => 0))), (q5, .inl (cI, 7, .inl (fun _ => 0))), (q6, .inl (cI, 49, .inl (fun _ => 0))), (q7, .inl (cI, 40, .inl (fun _ => 0))), (q8, .inl (cI, 40, .inl (fun _ => 0))), (q9, .inl (cI, 40, .inl (fun _ => 0)))] := hD
  refine W.widen (k := 9) (n := 281) (show 9 ≤ 9 by decide) (show 281 ≤ 281 by decide) ?_
  refine va_putF (D := D) (ci := 0) (v := .ref q9) (ty := (.array .int)) (C := RX0) (T := TX0) (N := 14) hx hb hts hi0 tyX0 tyX0_ok nmX0 hown hK hP hD hS 0 rfl rfl 12 (by decide) (hts (.fieldLink RX0 36 "AlibiRota$City" "actBefore" "[I") (by decide +kernel)) (fun _ h9 => h9) rfl hin rfl (by decide +kernel) rfl rfl (Nat.le_of_ble_eq_true rfl) dX0_init_73 (fun H locs hP hD hS => ?_)
  have hP : va_P D vwCl [(a, .inr (0, [.ref q1, .int 0, .int 0, .int 0, .ref q2, .ref q3, .ref q4, .ref q5, .ref q6, .int 0, .ref q7, .ref q8, .ref q9, .null])), (q1, .inl (cI, 7, .inl (fun _ => 0))), (q2, .inl (cI, 7, .inl (fun _ => 0))), (q3, .inl (cI, 7, .inl (fun _ => 0))), (q4, .inl (cI, 84, .inl (fun _ => 0))), (q5, .inl (cI, 7, .inl (fun _ => 0))), (q6, .inl (cI, 49, .inl (fun _ => 0))), (q7, .inl (cI, 40, .inl (fun _ => 0))), (q8, .inl (cI, 40, .inl (fun _ => 0))), (q9, .inl (cI, 40, .inl (fun _ => 0)))] H := hP
  have hD : va_D A [(a, .inr (0, [.ref q1, .int 0, .int 0, .int 0, .ref q2, .ref q3, .ref q4, .ref q5, .ref q6, .int 0, .ref q7, .ref q8, .ref q9, .null])), (q1, .inl (cI, 7, .inl (fun _ => 0))), (q2, .inl (cI, 7, .inl (fun _ => 0))), (q3, .inl (cI, 7, .inl (fun _ => 0))), (q4, .inl (cI, 84, .inl (fun _ => 0))), (q5, .inl (cI, 7, .inl (fun _ => 0))), (q6, .inl (cI, 49, .inl (fun _ => 0))), (q7, .inl (cI, 40, .inl (fun _ => 0))), (q8, .inl (cI, 40, .inl (fun _ => 0))), (q9, .inl (cI, 40, .inl (fun _ => 0)))] := hD
  refine lv_aload_n hx hb dX0_init_76 rfl (lv_at hl 0 rfl) ?_
  refine lv_bipush (v := 40) hx hb dX0_init_77 (by decide) ?_
  refine va_newaU (atype := .int) (cA := cI) (ty := .int) (a0 := (40, .inl (fun _ => 0))) (N' := 40) hx hb (hts (.arrayClass .int) (by decide +kernel)) rfl hK hP hD hS hA 0 rfl (fun _ => zI _ _) (by decide) (by decide) (by decide +kernel) (show 10 ≤ 10 by decide) (show 321 ≤ 321 by decide) dX0_init_79 (fun q10 H hP hD hS => ?_)
  have hP : va_P D vwCl [(a, .inr (0, [.ref q1, .int 0, .int 0, .int 0, .ref q2, .ref q3, .ref q4, .ref q5, .ref q6, .int 0, .ref q7, .ref q8, .ref q9, .null])), (q1, .inl (cI, 7, .inl (fun _ => 0))), (q2, .inl (cI, 7, .inl (fun _ => 0))), (q3, .inl (cI, 7, .inl (fun _ => 0))), (q4, .inl (cI, 84, .inl (fun _ => 0))), (q5, .inl (cI, 7, .inl (fun _ => 0))), (q6, .inl (cI, 49, .inl (fun _ => 0))), (q7, .inl (cI, 40, .inl (fun _ => 0))), (q8, .inl (cI, 40, .inl (fun _ => 0))), (q9, .inl (cI, 40, .inl (fun _ => 0))), (q10, .inl (cI, 40, .inl (fun _ => 0)))] H := hP
  have hD : va_D A [(a, .inr (0, [.ref q1, .int 0, .int 0, .int 0, .ref q2, .ref q3, .ref q4, .ref q5, .ref q6, .int 0, .ref q7, .ref q8, .ref q9, .null])), (q1, .inl (cI, 7, .inl (fun _ => 0))), (q2, .inl (cI, 7, .inl (fun _ => 0))), (q3, .inl (cI, 7, .inl (fun _ => 0))), (q4, .inl (cI, 84, .inl (fun _ => 0))), (q5, .inl (cI, 7, .inl (fun _ => 0))), (q6, .inl (cI, 49, .inl (fun _ => 0))), (q7, .inl (cI, 40, .inl (fun _ => 0))), (q8, .inl (cI, 40, .inl (fun _ => 0))), (q9, .inl (cI, 40, .inl (fun _ => 0))), (q10, .inl (cI, 40, .inl (fun _ => 0)))] := hD
  refine W.widen (k := 10) (n := 321) (show 10 ≤ 10 by decide) (show 321 ≤ 321 by decide) ?_
  refine va_putF (D := D) (ci := 0) (v := .ref q10) (ty := (.array .int)) (C := RX0) (T := TX0) (N := 14) hx hb hts hi0 tyX0 tyX0_ok nmX0 hown hK hP hD hS 0 rfl rfl 13 (by decide) (hts (.fieldLink RX0 39 "AlibiRota$City" "actErrands" "[I") (by decide +kernel)) (fun _ h9 => h9) rfl hin rfl (by decide +kernel) rfl rfl (Nat.le_of_ble_eq_true rfl) dX0_init_81 (fun H locs hP hD hS => ?_)
  have hP : va_P D vwCl [(a, .inr (0, [.ref q1, .int 0, .int 0, .int 0, .ref q2, .ref q3, .ref q4, .ref q5, .ref q6, .int 0, .ref q7, .ref q8, .ref q9, .ref q10])), (q1, .inl (cI, 7, .inl (fun _ => 0))), (q2, .inl (cI, 7, .inl (fun _ => 0))), (q3, .inl (cI, 7, .inl (fun _ => 0))), (q4, .inl (cI, 84, .inl (fun _ => 0))), (q5, .inl (cI, 7, .inl (fun _ => 0))), (q6, .inl (cI, 49, .inl (fun _ => 0))), (q7, .inl (cI, 40, .inl (fun _ => 0))), (q8, .inl (cI, 40, .inl (fun _ => 0))), (q9, .inl (cI, 40, .inl (fun _ => 0))), (q10, .inl (cI, 40, .inl (fun _ => 0)))] H := hP
  have hD : va_D A [(a, .inr (0, [.ref q1, .int 0, .int 0, .int 0, .ref q2, .ref q3, .ref q4, .ref q5, .ref q6, .int 0, .ref q7, .ref q8, .ref q9, .ref q10])), (q1, .inl (cI, 7, .inl (fun _ => 0))), (q2, .inl (cI, 7, .inl (fun _ => 0))), (q3, .inl (cI, 7, .inl (fun _ => 0))), (q4, .inl (cI, 84, .inl (fun _ => 0))), (q5, .inl (cI, 7, .inl (fun _ => 0))), (q6, .inl (cI, 49, .inl (fun _ => 0))), (q7, .inl (cI, 40, .inl (fun _ => 0))), (q8, .inl (cI, 40, .inl (fun _ => 0))), (q9, .inl (cI, 40, .inl (fun _ => 0))), (q10, .inl (cI, 40, .inl (fun _ => 0)))] := hD
  have hP9 := hP.sub (ws' := [(a, .inr (0, [.ref q1, .int 0, .int 0, .int 0, .ref q2, .ref q3, .ref q4, .ref q5, .ref q6, .int 0, .ref q7, .ref q8, .ref q9, .ref q10])), (q1, .inl (cI, 7, .inl (fun _ => 0))), (q2, .inl (cI, 7, .inl (fun _ => 0))), (q3, .inl (cI, 7, .inl (fun _ => 0))), (q4, .inl (cI, 84, .inl (fun _ => 0))), (q5, .inl (cI, 7, .inl (fun _ => 0))), (q6, .inl (cI, 49, .inl (fun _ => 0))), (q7, .inl (cI, 40, .inl (fun _ => 0))), (q8, .inl (cI, 40, .inl (fun _ => 0))), (q9, .inl (cI, 40, .inl (fun _ => 0))), (q10, .inl (cI, 40, .inl (fun _ => 0)))]) [0, 1, 2, 3, 4, 5, 6, 7, 8, 9, 10] rfl
  have hD9 := hD.sub (ws' := [(a, .inr (0, [.ref q1, .int 0, .int 0, .int 0, .ref q2, .ref q3, .ref q4, .ref q5, .ref q6, .int 0, .ref q7, .ref q8, .ref q9, .ref q10])), (q1, .inl (cI, 7, .inl (fun _ => 0))), (q2, .inl (cI, 7, .inl (fun _ => 0))), (q3, .inl (cI, 7, .inl (fun _ => 0))), (q4, .inl (cI, 84, .inl (fun _ => 0))), (q5, .inl (cI, 7, .inl (fun _ => 0))), (q6, .inl (cI, 49, .inl (fun _ => 0))), (q7, .inl (cI, 40, .inl (fun _ => 0))), (q8, .inl (cI, 40, .inl (fun _ => 0))), (q9, .inl (cI, 40, .inl (fun _ => 0))), (q10, .inl (cI, 40, .inl (fun _ => 0)))]) [0, 1, 2, 3, 4, 5, 6, 7, 8, 9, 10] (by decide +kernel) rfl
  exact W.vret hx hb hr (fun t ht _ => ⟨⟨(fun k => List.getD [q1, 0, 0, 0, q2, q3, q4, q5, q6, 0, q7, q8, q9, q10] k 0), rfl, trivial, by rw [ht]; exact hP9, hD9⟩, hS.F ht⟩) hS.2.2 dX0_init_84
