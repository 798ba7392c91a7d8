set_option maxHeartbeats 4000000 in
set_option maxRecDepth 100000 in
theorem k_hasRoom (l : Launch) (D : va_G) (cI cZ cB cJ cR : ClassId) (a b : Nat) : Met l yX4_hasRoom wsX4_hasRoom ({ frames := 0, cells := 0, slots := 0, locals := 0 }) (va_Pc [.ref a] (pS D cI cZ cB cJ cR [(a, .inr (4, [.ref b, .int 0, .int 0, .int (-1), .int 0, .int 0, .int 0, .int 0]))])) (vp_Si (fun r => r = 1)) 0 0 (fun _ => False) := by
  refine Met.ofW (cc := cX4_hasRoom) (maxL := 1) (ret := (some .boolean)) (by decide) rfl ?_
  intro p e s m args below meth c s₁ B hml hv
  obtain ⟨rfl, hP, hk⟩ := hv
  have hK := hk.1
  have hz := hk.2.1
  have hx := B.exec
  have hb := B.bytes
  have hr := B.returns
  have hts := atoms_spec (ws := wsX4_hasRoom) B.pre
  have hown : s.vm.findClass RX4 = some m.cls := findClass_of_methodNamed B.named
  have hlocks := B.notSynchronized
  have hi4 : ∀ w ∈ wsX40, w ∈ wsX4_hasRoom := by decide +kernel
  have hl := lv_entry ([.ref a]) (n := 1) (Nat.le_of_ble_eq_true rfl)
  rw [lg_entry_eq]
  generalize (lg_sl ([.ref a]) ++ List.replicate (1 - (lg_sl ([.ref a])).length) Slot.unset).toArray = ls at hl ⊢
  have hl : lv_has ls 1 [(0, .ref a)] := hl
  refine lv_aload_n hx hb dX4_hasRoom_0 rfl (lv_at hl 0 rfl) ?_
  refine va_get (D := D) (ci := 4) (v := .int 0) (C := RX4) (T := TX4) (N := 8) hx hb hts hi4 hown hK hP 0 rfl rfl 1 (by decide) (hts (.fieldLink RX4 19 "AlibiRota$Tape" "length" "I") (by decide +kernel)) (fun _ h9 => h9) rfl dX4_hasRoom_1 ?_
  refine lv_sipush (v := 1180) hx hb dX4_hasRoom_4 (by decide) ?_
  refine lv_icmp_gt (tgt := 14) hx hb dX4_hasRoom_7 (by decide) (fun c9 => absurd c9 (by decide)) (fun _ => ?_)
  refine lv_iconst (v := 1) hx hb dX4_hasRoom_10 (by decide) ?_
  refine lv_goto (tgt := 15) hx hb dX4_hasRoom_11 (by decide) ?_
  exact W.zret (v := 1) (ty := .boolean) hx hb hr rfl (fun t ht _ => ⟨1, rfl, rfl, ht⟩) (fun _ h => by cases h) dX4_hasRoom_15

set_option maxHeartbeats 4000000 in
set_option maxRecDepth 100000 in
theorem k_append0 (l : Launch) (D : va_G) (cI cZ cB cJ cR : ClassId) (a b : Nat) (f : Nat → Int32) (sz : Nat) (p0 : Int32) : Met l yX4_append wsX4_append ({ frames := 0, cells := 0, slots := 0, locals := 0 }) (va_Pc [.ref a, .int p0] (pQ D cI cZ cB cJ cR [(a, .inr (4, [.ref b, .int 0, .int 0, .int (-1), .int 0, .int 0, .int 0, .int 0])), (b, .inl (cB, 1200, .inl f))] sz)) (va_Qv (fun (_ : Nat → Int32) => True) (fun (u : Nat → Int32) t => va_P D vwCl [(a, .inr (4, [.ref b, .int 4, .int 0, .int (-1), .int 0, .int 0, .int 0, .int 0])), (b, .inl (cB, 1200, .inl u))] t.heap ∧ va_D (va_A [(a, .inr (4, [.ref b, .int 0, .int 0, .int (-1), .int 0, .int 0, .int 0, .int 0])), (b, .inl (cB, 1200, .inl f))] sz) [(a, .inr (4, [.ref b, .int 4, .int 0, .int (-1), .int 0, .int 0, .int 0, .int 0])), (b, .inl (cB, 1200, .inl u))]) (va_A [(a, .inr (4, [.ref b, .int 0, .int 0, .int (-1), .int 0, .int 0, .int 0, .int 0])), (b, .inl (cB, 1200, .inl f))] sz)) 0 0 (va_A [(a, .inr (4, [.ref b, .int 0, .int 0, .int (-1), .int 0, .int 0, .int 0, .int 0])), (b, .inl (cB, 1200, .inl f))] sz) := by
  refine Met.ofW (cc := cX4_append) (maxL := 3) (ret := none) (by decide) rfl ?_
  intro p e s m args below meth c s₁ B hml hv
  obtain ⟨rfl, hsz, hP, hk, hD0⟩ := hv
  have hK := hk.1
  have hz := hk.2.1
  have hx := B.exec
  have hb := B.bytes
  have hr := B.returns
  have hts := atoms_spec (ws := wsX4_append) B.pre
  have hown : s.vm.findClass RX4 = some m.cls := findClass_of_methodNamed B.named
  have hlocks := B.notSynchronized
  have hi4 : ∀ w ∈ wsX40, w ∈ wsX4_append := by decide +kernel
  subst hsz
  have hD := hD0.self (sz := s.heap.size)
  generalize hAe : va_A [(a, .inr (4, [.ref b, .int 0, .int 0, .int (-1), .int 0, .int 0, .int 0, .int 0])), (b, .inl (cB, 1200, .inl f))] s.heap.size = A at hD ⊢
  have hA : ∀ q : Nat, s.heap.size ≤ q → A q := fun q h => by rw [← hAe]; exact Or.inr h
  have hS : va_S A s.heap s.heap [] := va_S.rf
  have hP : va_P D vwCl [(a, .inr (4, [.ref b, .int 0, .int 0, .int (-1), .int 0, .int 0, .int 0, .int 0])), (b, .inl (cB, 1200, .inl f))] s.heap := hP
  have hl := lv_entry ([.ref a, .int p0]) (n := 3) (Nat.le_of_ble_eq_true rfl)
  rw [lg_entry_eq]
  generalize (lg_sl ([.ref a, .int p0]) ++ List.replicate (3 - (lg_sl ([.ref a, .int p0])).length) Slot.unset).toArray = ls at hl ⊢
  have hl : lv_has ls 3 [(0, .ref a), (1, .int p0)] := hl
  refine lv_bipush (v := 24) hx hb dX4_append_0 (by decide) ?_
  refine lv_istore_n (lv' := [(2, .int 24), (0, .ref a), (1, .int p0)]) hx hb dX4_append_2 rfl hl (by decide) rfl (fun ls hl => ?_)
  refine lv_iload_n hx hb dX4_append_3 rfl (lv_at hl 0 rfl) ?_
  refine lv_if_lt (tgt := 46) hx hb dX4_append_4 (by decide) (fun c9 => absurd c9 (by decide)) (fun _ => ?_)
  refine lv_aload_n hx hb dX4_append_7 rfl (lv_at hl 1 rfl) ?_
  refine va_get (D := D) (ci := 4) (v := .int 0) (C := RX4) (T := TX4) (N := 8) hx hb hts hi4 hown hK hP 0 rfl rfl 1 (by decide) (hts (.fieldLink RX4 19 "AlibiRota$Tape" "length" "I") (by decide +kernel)) (fun _ h9 => h9) rfl dX4_append_8 ?_
  refine lv_sipush (v := 1200) hx hb dX4_append_11 (by decide) ?_
  refine lv_icmp_ge (tgt := 46) hx hb dX4_append_14 (by decide) (fun c9 => absurd c9 (by decide)) (fun _ => ?_)
  refine lv_aload_n hx hb dX4_append_17 rfl (lv_at hl 1 rfl) ?_
  refine va_get (D := D) (ci := 4) (v := .ref b) (C := RX4) (T := TX4) (N := 8) hx hb hts hi4 hown hK hP 0 rfl rfl 0 (by decide) (hts (.fieldLink RX4 11 "AlibiRota$Tape" "bytes" "[B") (by decide +kernel)) (fun _ h9 => h9) rfl dX4_append_18 ?_
  refine lv_aload_n hx hb dX4_append_21 rfl (lv_at hl 1 rfl) ?_
  refine va_get (D := D) (ci := 4) (v := .int 0) (C := RX4) (T := TX4) (N := 8) hx hb hts hi4 hown hK hP 0 rfl rfl 1 (by decide) (hts (.fieldLink RX4 19 "AlibiRota$Tape" "length" "I") (by decide +kernel)) (fun _ h9 => h9) rfl dX4_append_22 ?_
  refine lv_iload_n hx hb dX4_append_25 rfl (lv_at hl 2 rfl) ?_
  refine lv_iload_n hx hb dX4_append_26 rfl (lv_at hl 0 rfl) ?_
  refine lv_ishr hx hb dX4_append_27 ?_
  refine lv_topi (fun v1 ev1 => ?_)
  refine lv_i2b (v := v1.toInt8.toInt32) hx hb dX4_append_28 rfl ?_
  refine va_bast hx hb hK hP hD hS 1 2 rfl rfl (inC 0 1200 (by decide)) dX4_append_29 (fun H locs hP hD hS => ?_)
  obtain ⟨f2, hP, hD⟩ : ∃ f9 : Nat → Int32, va_P D vwCl [(a, .inr (4, [.ref b, .int 0, .int 0, .int (-1), .int 0, .int 0, .int 0, .int 0])), (b, .inl (cB, 1200, .inl f9))] H ∧ va_D A [(a, .inr (4, [.ref b, .int 0, .int 0, .int (-1), .int 0, .int 0, .int 0, .int 0])), (b, .inl (cB, 1200, .inl f9))] := ⟨_, hP, hD⟩
  have hP : va_P D vwCl [(a, .inr (4, [.ref b, .int 0, .int 0, .int (-1), .int 0, .int 0, .int 0, .int 0])), (b, .inl (cB, 1200, .inl f2))] H := hP
  have hD : va_D A [(a, .inr (4, [.ref b, .int 0, .int 0, .int (-1), .int 0, .int 0, .int 0, .int 0])), (b, .inl (cB, 1200, .inl f2))] := hD
  refine lv_aload_n hx hb dX4_append_30 rfl (lv_at hl 1 rfl) ?_
  refine lv_dup hx hb dX4_append_31 rfl ?_
  refine va_get (D := D) (ci := 4) (v := .int 0) (C := RX4) (T := TX4) (N := 8) hx hb hts hi4 hown hK hP 0 rfl rfl 1 (by decide) (hts (.fieldLink RX4 19 "AlibiRota$Tape" "length" "I") (by decide +kernel)) (fun _ h9 => h9) rfl dX4_append_32 ?_
  refine lv_iconst (v := 1) hx hb dX4_append_35 (by decide) ?_
  refine lv_iadd hx hb dX4_append_36 ?_
  refine lv_topi (fun v3 ev3 => ?_)
  obtain rfl : v3 = 1 := ev3.trans (by decide)
  refine va_put (D := D) (ci := 4) (v := .int 1) (ty := .int) (C := RX4) (T := TX4) (N := 8) hx hb hts hi4 tyX4 tyX4_ok nmX4 hown hK hP hD hS 0 rfl rfl 1 (by decide) (hts (.fieldLink RX4 19 "AlibiRota$Tape" "length" "I") (by decide +kernel)) (fun _ h9 => h9) rfl (by decide +kernel) rfl rfl (Nat.le_of_ble_eq_true rfl) dX4_append_37 (fun H locs hP hD hS => ?_)
  have hP : va_P D vwCl [(a, .inr (4, [.ref b, .int 1, .int 0, .int (-1), .int 0, .int 0, .int 0, .int 0])), (b, .inl (cB, 1200, .inl f2))] H := hP
  have hD : va_D A [(a, .inr (4, [.ref b, .int 1, .int 0, .int (-1), .int 0, .int 0, .int 0, .int 0])), (b, .inl (cB, 1200, .inl f2))] := hD
  refine lv_iinc (v := 16) (lv' := [(2, .int 16), (0, .ref a), (1, .int p0)]) hx hb dX4_append_40 hl (k := 0) rfl (by decide) (by decide) rfl (fun ls hl => ?_)
  refine lv_goto (tgt := 3) hx hb dX4_append_43 (by decide) ?_
  refine lv_iload_n hx hb dX4_append_3 rfl (lv_at hl 0 rfl) ?_
  refine lv_if_lt (tgt := 46) hx hb dX4_append_4 (by decide) (fun c9 => absurd c9 (by decide)) (fun _ => ?_)
  refine lv_aload_n hx hb dX4_append_7 rfl (lv_at hl 1 rfl) ?_
  refine va_get (D := D) (ci := 4) (v := .int 1) (C := RX4) (T := TX4) (N := 8) hx hb hts hi4 hown hK hP 0 rfl rfl 1 (by decide) (hts (.fieldLink RX4 19 "AlibiRota$Tape" "length" "I") (by decide +kernel)) (fun _ h9 => h9) rfl dX4_append_8 ?_
  refine lv_sipush (v := 1200) hx hb dX4_append_11 (by decide) ?_
  refine lv_icmp_ge (tgt := 46) hx hb dX4_append_14 (by decide) (fun c9 => absurd c9 (by decide)) (fun _ => ?_)
  refine lv_aload_n hx hb dX4_append_17 rfl (lv_at hl 1 rfl) ?_
  refine va_get (D := D) (ci := 4) (v := .ref b) (C := RX4) (T := TX4) (N := 8) hx hb hts hi4 hown hK hP 0 rfl rfl 0 (by decide) (hts (.fieldLink RX4 11 "AlibiRota$Tape" "bytes" "[B") (by decide +kernel)) (fun _ h9 => h9) rfl dX4_append_18 ?_
  refine lv_aload_n hx hb dX4_append_21 rfl (lv_at hl 1 rfl) ?_
  refine va_get (D := D) (ci := 4) (v := .int 1) (C := RX4) (T := TX4) (N := 8) hx hb hts hi4 hown hK hP 0 rfl rfl 1 (by decide) (hts (.fieldLink RX4 19 "AlibiRota$Tape" "length" "I") (by decide +kernel)) (fun _ h9 => h9) rfl dX4_append_22 ?_
  refine lv_iload_n hx hb dX4_append_25 rfl (lv_at hl 2 rfl) ?_
  refine lv_iload_n hx hb dX4_append_26 rfl (lv_at hl 0 rfl) ?_
  refine lv_ishr hx hb dX4_append_27 ?_
  refine lv_topi (fun v4 ev4 => ?_)
  refine lv_i2b (v := v4.toInt8.toInt32) hx hb dX4_append_28 rfl ?_
  refine va_bast hx hb hK hP hD hS 1 2 rfl rfl (inC 1 1200 (by decide)) dX4_append_29 (fun H locs hP hD hS => ?_)
  obtain ⟨f5, hP, hD⟩ : ∃ f9 : Nat → Int32, va_P D vwCl [(a, .inr (4, [.ref b, .int 1, .int 0, .int (-1), .int 0, .int 0, .int 0, .int 0])), (b, .inl (cB, 1200, .inl f9))] H ∧ va_D A [(a, .inr (4, [.ref b, .int 1, .int 0, .int (-1), .int 0, .int 0, .int 0, .int 0])), (b, .inl (cB, 1200, .inl f9))] := ⟨_, hP, hD⟩
  have hP : va_P D vwCl [(a, .inr (4, [.ref b, .int 1, .int 0, .int (-1), .int 0, .int 0, .int 0, .int 0])), (b, .inl (cB, 1200, .inl f5))] H := hP
  have hD : va_D A [(a, .inr (4, [.ref b, .int 1, .int 0, .int (-1), .int 0, .int 0, .int 0, .int 0])), (b, .inl (cB, 1200, .inl f5))] := hD
  refine lv_aload_n hx hb dX4_append_30 rfl (lv_at hl 1 rfl) ?_
  refine lv_dup hx hb dX4_append_31 rfl ?_
  refine va_get (D := D) (ci := 4) (v := .int 1) (C := RX4) (T := TX4) (N := 8) hx hb hts hi4 hown hK hP 0 rfl rfl 1 (by decide) (hts (.fieldLink RX4 19 "AlibiRota$Tape" "length" "I") (by decide +kernel)) (fun _ h9 => h9) rfl dX4_append_32 ?_
  refine lv_iconst (v := 1) hx hb dX4_append_35 (by decide) ?_
  refine lv_iadd hx hb dX4_append_36 ?_
  refine lv_topi (fun v6 ev6 => ?_)
  obtain rfl : v6 = 2 := ev6.trans (by decide)
  refine va_put (D := D) (ci := 4) (v := .int 2) (ty := .int) (C := RX4) (T := TX4) (N := 8) hx hb hts hi4 tyX4 tyX4_ok nmX4 hown hK hP hD hS 0 rfl rfl 1 (by decide) (hts (.fieldLink RX4 19 "AlibiRota$Tape" "length" "I") (by decide +kernel)) (fun _ h9 => h9) rfl (by decide +kernel) rfl rfl (Nat.le_of_ble_eq_true rfl) dX4_append_37 (fun H locs hP hD hS => ?_)
  have hP : va_P D vwCl [(a, .inr (4, [.ref b, .int 2, .int 0, .int (-1), .int 0, .int 0, .int 0, .int 0])), (b, .inl (cB, 1200, .inl f5))] H := hP
  have hD : va_D A [(a, .inr (4, [.ref b, .int 2, .int 0, .int (-1), .int 0, .int 0, .int 0, .int 0])), (b, .inl (cB, 1200, .inl f5))] := hD
  refine lv_iinc (v := 8) (lv' := [(2, .int 8), (0, .ref a), (1, .int p0)]) hx hb dX4_append_40 hl (k := 0) rfl (by decide) (by decide) rfl (fun ls hl => ?_)
  refine lv_goto (tgt := 3) hx hb dX4_append_43 (by decide) ?_
  refine lv_iload_n hx hb dX4_append_3 rfl (lv_at hl 0 rfl) ?_
  refine lv_if_lt (tgt := 46) hx hb dX4_append_4 (by decide) (fun c9 => absurd c9 (by decide)) (fun _ => ?_)
  refine lv_aload_n hx hb dX4_append_7 rfl (lv_at hl 1 rfl) ?_
  refine va_get (D := D) (ci := 4) (v := .int 2) (C := RX4) (T := TX4) (N := 8) hx hb hts hi4 hown hK hP 0 rfl rfl 1 (by decide) (hts (.fieldLink RX4 19 "AlibiRota$Tape" "length" "I") (by decide +kernel)) (fun _ h9 => h9) rfl dX4_append_8 ?_
  refine lv_sipush (v := 1200) hx hb dX4_append_11 (by decide) ?_
  refine lv_icmp_ge (tgt := 46) hx hb dX4_append_14 (by decide) (fun c9 => absurd c9 (by decide)) (fun _ => ?_)
  refine lv_aload_n hx hb dX4_append_17 rfl (lv_at hl 1 rfl) ?_
  refine va_get (D := D) (ci := 4) (v := .ref b) (C := RX4) (T := TX4) (N := 8) hx hb hts hi4 hown hK hP 0 rfl rfl 0 (by decide) (hts (.fieldLink RX4 11 "AlibiRota$Tape" "bytes" "[B") (by decide +kernel)) (fun _ h9 => h9) rfl dX4_append_18 ?_
  refine lv_aload_n hx hb dX4_append_21 rfl (lv_at hl 1 rfl) ?_
  refine va_get (D := D) (ci := 4) (v := .int 2) (C := RX4) (T := TX4) (N := 8) hx hb hts hi4 hown hK hP 0 rfl rfl 1 (by decide) (hts (.fieldLink RX4 19 "AlibiRota$Tape" "length" "I") (by decide +kernel)) (fun _ h9 => h9) rfl dX4_append_22 ?_
  refine lv_iload_n hx hb dX4_append_25 rfl (lv_at hl 2 rfl) ?_
  refine lv_iload_n hx hb dX4_append_26 rfl (lv_at hl 0 rfl) ?_
  refine lv_ishr hx hb dX4_append_27 ?_
  refine lv_topi (fun v7 ev7 => ?_)
  refine lv_i2b (v := v7.toInt8.toInt32) hx hb dX4_append_28 rfl ?_
  refine va_bast hx hb hK hP hD hS 1 2 rfl rfl (inC 2 1200 (by decide)) dX4_append_29 (fun H locs hP hD hS => ?_)
  obtain ⟨f8, hP, hD⟩ : ∃ f9 : Nat → Int32, va_P D vwCl [(a, .inr (4, [.ref b, .int 2, .int 0, .int (-1), .int 0, .int 0, .int 0, .int 0])), (b, .inl (cB, 1200, .inl f9))] H ∧ va_D A [(a, .inr (4, [.ref b, .int 2, .int 0, .int (-1), .int 0, .int 0, .int 0, .int 0])), (b, .inl (cB, 1200, .inl f9))] := ⟨_, hP, hD⟩
  have hP : va_P D vwCl [(a, .inr (4, [.ref b, .int 2, .int 0, .int (-1), .int 0, .int 0, .int 0, .int 0])), (b, .inl (cB, 1200, .inl f8))] H := hP
  have hD : va_D A [(a, .inr (4, [.ref b, .int 2, .int 0, .int (-1), .int 0, .int 0, .int 0, .int 0])), (b, .inl (cB, 1200, .inl f8))] := hD
  refine lv_aload_n hx hb dX4_append_30 rfl (lv_at hl 1 rfl) ?_
  refine lv_dup hx hb dX4_append_31 rfl ?_
  refine va_get (D := D) (ci := 4) (v := .int 2) (C := RX4) (T := TX4) (N := 8) hx hb hts hi4 hown hK hP 0 rfl rfl 1 (by decide) (hts (.fieldLink RX4 19 "AlibiRota$Tape" "length" "I") (by decide +kernel)) (fun _ h9 => h9) rfl dX4_append_32 ?_
  refine lv_iconst (v := 1) hx hb dX4_append_35 (by decide) ?_
  refine lv_iadd hx hb dX4_append_36 ?_
  refine lv_topi (fun v9 ev9 => ?_)
  obtain rfl : v9 = 3 := ev9.trans (by decide)
  refine va_put (D := D) (ci := 4) (v := .int 3) (ty := .int) (C := RX4) (T := TX4) (N := 8) hx hb hts hi4 tyX4 tyX4_ok nmX4 hown hK hP hD hS 0 rfl rfl 1 (by decide) (hts (.fieldLink RX4 19 "AlibiRota$Tape" "length" "I") (by decide +kernel)) (fun _ h9 => h9) rfl (by decide +kernel) rfl rfl (Nat.le_of_ble_eq_true rfl) dX4_append_37 (fun H locs hP hD hS => ?_)
  have hP : va_P D vwCl [(a, .inr (4, [.ref b, .int 3, .int 0, .int (-1), .int 0, .int 0, .int 0, .int 0])), (b, .inl (cB, 1200, .inl f8))] H := hP
  have hD : va_D A [(a, .inr (4, [.ref b, .int 3, .int 0, .int (-1), .int 0, .int 0, .int 0, .int 0])), (b, .inl (cB, 1200, .inl f8))] := hD
  refine lv_iinc (v := 0) (lv' := [(2, .int 0), (0, .ref a), (1, .int p0)]) hx hb dX4_append_40 hl (k := 0) rfl (by decide) (by decide) rfl (fun ls hl => ?_)
  refine lv_goto (tgt := 3) hx hb dX4_append_43 (by decide) ?_
  refine lv_iload_n hx hb dX4_append_3 rfl (lv_at hl 0 rfl) ?_
  refine lv_if_lt (tgt := 46) hx hb dX4_append_4 (by decide) (fun c9 => absurd c9 (by decide)) (fun _ => ?_)
  refine lv_aload_n hx hb dX4_append_7 rfl (lv_at hl 1 rfl) ?_
  refine va_get (D := D) (ci := 4) (v := .int 3) (C := RX4) (T := TX4) (N := 8) hx hb hts hi4 hown hK hP 0 rfl rfl 1 (by decide) (hts (.fieldLink RX4 19 "AlibiRota$Tape" "length" "I") (by decide +kernel)) (fun _ h9 => h9) rfl dX4_append_8 ?_
  refine lv_sipush (v := 1200) hx hb dX4_append_11 (by decide) ?_
  refine lv_icmp_ge (tgt := 46) hx hb dX4_append_14 (by decide) (fun c9 => absurd c9 (by decide)) (fun _ => ?_)
  refine lv_aload_n hx hb dX4_append_17 rfl (lv_at hl 1 rfl) ?_
  refine va_get (D := D) (ci := 4) (v := .ref b) (C := RX4) (T := TX4) (N := 8) hx hb hts hi4 hown hK hP 0 rfl rfl 0 (by decide) (hts (.fieldLink RX4 11 "AlibiRota$Tape" "bytes" "[B") (by decide +kernel)) (fun _ h9 => h9) rfl dX4_append_18 ?_
  refine lv_aload_n hx hb dX4_append_21 rfl (lv_at hl 1 rfl) ?_
  refine va_get (D := D) (ci := 4) (v := .int 3) (C := RX4) (T := TX4) (N := 8) hx hb hts hi4 hown hK hP 0 rfl rfl 1 (by decide) (hts (.fieldLink RX4 19 "AlibiRota$Tape" "length" "I") (by decide +kernel)) (fun _ h9 => h9) rfl dX4_append_22 ?_
  refine lv_iload_n hx hb dX4_append_25 rfl (lv_at hl 2 rfl) ?_
  refine lv_iload_n hx hb dX4_append_26 rfl (lv_at hl 0 rfl) ?_
  refine lv_ishr hx hb dX4_append_27 ?_
  refine lv_topi (fun v10 ev10 => ?_)
  refine lv_i2b (v := v10.toInt8.toInt32) hx hb dX4_append_28 rfl ?_
  refine va_bast hx hb hK hP hD hS 1 2 rfl rfl (inC 3 1200 (by decide)) dX4_append_29 (fun H locs hP hD hS => ?_)
  obtain ⟨f11, hP, hD⟩ : ∃ f9 : Nat → Int32, va_P D vwCl [(a, .inr (4, [.ref b, .int 3, .int 0, .int (-1), .int 0, .int 0, .int 0, .int 0])), (b, .inl (cB, 1200, .inl f9))] H ∧ va_D A [(a, .inr (4, [.ref b, .int 3, .int 0, .int (-1), .int 0, .int 0, .int 0, .int 0])), (b, .inl (cB, 1200, .inl f9))] := ⟨_, hP, hD⟩
  have hP : va_P D vwCl [(a, .inr (4, [.ref b, .int 3, .int 0, .int (-1), .int 0, .int 0, .int 0, .int 0])), (b, .inl (cB, 1200, .inl f11))] H := hP
  have hD : va_D A [(a, .inr (4, [.ref b, .int 3, .int 0, .int (-1), .int 0, .int 0, .int 0, .int 0])), (b, .inl (cB, 1200, .inl f11))] := hD
  refine lv_aload_n hx hb dX4_append_30 rfl (lv_at hl 1 rfl) ?_
  refine lv_dup hx hb dX4_append_31 rfl ?_
  refine va_get (D := D) (ci := 4) (v := .int 3) (C := RX4) (T := TX4) (N := 8) hx hb hts hi4 hown hK hP 0 rfl rfl 1 (by decide) (hts (.fieldLink RX4 19 "AlibiRota$Tape" "length" "I") (by decide +kernel)) (fun _ h9 => h9) rfl dX4_append_32 ?_
  refine lv_iconst (v := 1) hx hb dX4_append_35 (by decide) ?_
  refine lv_iadd hx hb dX4_append_36 ?_
  refine lv_topi (fun v12 ev12 => ?_)
  obtain rfl : v12 = 4 := ev12.trans (by decide)
  refine va_put (D := D) (ci := 4) (v := .int 4) (ty := .int) (C := RX4) (T := TX4) (N := 8) hx hb hts hi4 tyX4 tyX4_ok nmX4 hown hK hP hD hS 0 rfl rfl 1 (by decide) (hts (.fieldLink RX4 19 "AlibiRota$Tape" "length" "I") (by decide +kernel)) (fun _ h9 => h9) rfl (by decide +kernel) rfl rfl (Nat.le_of_ble_eq_true rfl) dX4_append_37 (fun H locs hP hD hS => ?_)
  have hP : va_P D vwCl [(a, .inr (4, [.ref b, .int 4, .int 0, .int (-1), .int 0, .int 0, .int 0, .int 0])), (b, .inl (cB, 1200, .inl f11))] H := hP
  have hD : va_D A [(a, .inr (4, [.ref b, .int 4, .int 0, .int (-1), .int 0, .int 0, .int 0, .int 0])), (b, .inl (cB, 1200, .inl f11))] := hD
  refine lv_iinc (v := (-8)) (lv' := [(2, .int (-8)), (0, .ref a), (1, .int p0)]) hx hb dX4_append_40 hl (k := 0) rfl (by decide) (by decide) rfl (fun ls hl => ?_)
  refine lv_goto (tgt := 3) hx hb dX4_append_43 (by decide) ?_
  refine lv_iload_n hx hb dX4_append_3 rfl (lv_at hl 0 rfl) ?_
  refine lv_if_lt (tgt := 46) hx hb dX4_append_4 (by decide) (fun _ => ?_) (fun c9 => absurd (by decide) c9)
  have hP9 := hP.sub (ws' := [(a, .inr (4, [.ref b, .int 4, .int 0, .int (-1), .int 0, .int 0, .int 0, .int 0])), (b, .inl (cB, 1200, .inl f11))]) [0, 1] rfl
  have hD9 := hD.sub (ws' := [(a, .inr (4, [.ref b, .int 4, .int 0, .int (-1), .int 0, .int 0, .int 0, .int 0])), (b, .inl (cB, 1200, .inl f11))]) [0, 1] (by decide +kernel) rfl
  exact W.vret hx hb hr (fun t ht _ => ⟨⟨f11, rfl, trivial, by rw [ht]; exact hP9, hD9⟩, hS.F ht⟩) hS.2.2 dX4_append_46

set_option maxHeartbeats 4000000 in
set_option maxRecDepth 100000 in
theorem k_append4 (l : Launch) (D : va_G) (cI cZ cB cJ cR : ClassId) (a b : Nat) (f : Nat → Int32) (sz : Nat) (p0 : Int32) : Met l yX4_append wsX4_append ({ frames := 0, cells := 0, slots := 0, locals := 0 }) (va_Pc [.ref a, .int p0] (pQ D cI cZ cB cJ cR [(a, .inr (4, [.ref b, .int 4, .int 0, .int (-1), .int 0, .int 0, .int 0, .int 0])), (b, .inl (cB, 1200, .inl f))] sz)) (va_Qv (fun (_ : Nat → Int32) => True) (fun (u : Nat → Int32) t => va_P D vwCl [(a, .inr (4, [.ref b, .int 8, .int 0, .int (-1), .int 0, .int 0, .int 0, .int 0])), (b, .inl (cB, 1200, .inl u))] t.heap ∧ va_D (va_A [(a, .inr (4, [.ref b, .int 4, .int 0, .int (-1), .int 0, .int 0, .int 0, .int 0])), (b, .inl (cB, 1200, .inl f))] sz) [(a, .inr (4, [.ref b, .int 8, .int 0, .int (-1), .int 0, .int 0, .int 0, .int 0])), (b, .inl (cB, 1200, .inl u))]) (va_A [(a, .inr (4, [.ref b, .int 4, .int 0, .int (-1), .int 0, .int 0, .int 0, .int 0])), (b, .inl (cB, 1200, .inl f))] sz)) 0 0 (va_A [(a, .inr (4, [.ref b, .int 4, .int 0, .int (-1), .int 0, .int 0, .int 0, .int 0])), (b, .inl (cB, 1200, .inl f))] sz) := by
  refine Met.ofW (cc := cX4_append) (maxL := 3) (ret := none) (by decide) rfl ?_
  intro p e s m args below meth c s₁ B hml hv
  obtain ⟨rfl, hsz, hP, hk, hD0⟩ := hv
  have hK := hk.1
  have hz := hk.2.1
  have hx := B.exec
  have hb := B.bytes
  have hr := B.returns
  have hts := atoms_spec (ws := wsX4_append) B.pre
  have hown : s.vm.findClass RX4 = some m.cls := findClass_of_methodNamed B.named
  have hlocks := B.notSynchronized
  have hi4 : ∀ w ∈ wsX40, w ∈ wsX4_append := by decide +kernel
  subst hsz
  have hD := hD0.self (sz := s.heap.size)
  generalize hAe : va_A [(a, .inr (4, [.ref b, .int 4, .int 0, .int (-1), .int 0, .int 0, .int 0, .int 0])), (b, .inl (cB, 1200, .inl f))] s.heap.size = A at hD ⊢
  have hA : ∀ q : Nat, s.heap.size ≤ q → A q := fun q h => by rw [← hAe]; exact Or.inr h
  have hS : va_S A s.heap s.heap [] := va_S.rf
  have hP : va_P D vwCl [(a, .inr (4, [.ref b, .int 4, .int 0, .int (-1), .int 0, .int 0, .int 0, .int 0])), (b, .inl (cB, 1200, .inl f))] s.heap := hP
  have hl := lv_entry ([.ref a, .int p0]) (n := 3) (Nat.le_of_ble_eq_true rfl)
  rw [lg_entry_eq]
  generalize (lg_sl ([.ref a, .int p0]) ++ List.replicate (3 - (lg_sl ([.ref a, .int p0])).length) Slot.unset).toArray = ls at hl ⊢
  have hl : lv_has ls 3 [(0, .ref a), (1, .int p0)] := hl
  refine lv_bipush (v := 24) hx hb dX4_append_0 (by decide) ?_
  refine lv_istore_n (lv' := [(2, .int 24), (0, .ref a), (1, .int p0)]) hx hb dX4_append_2 rfl hl (by decide) rfl (fun ls hl => ?_)
  refine lv_iload_n hx hb dX4_append_3 rfl (lv_at hl 0 rfl) ?_
  refine lv_if_lt (tgt := 46) hx hb dX4_append_4 (by decide) (fun c9 => absurd c9 (by decide)) (fun _ => ?_)
  refine lv_aload_n hx hb dX4_append_7 rfl (lv_at hl 1 rfl) ?_
  refine va_get (D := D) (ci := 4) (v := .int 4) (C := RX4) (T := TX4) (N := 8) hx hb hts hi4 hown hK hP 0 rfl rfl 1 (by decide) (hts (.fieldLink RX4 19 "AlibiRota$Tape" "length" "I") (by decide +kernel)) (fun _ h9 => h9) rfl dX4_append_8 ?_
  refine lv_sipush (v := 1200) hx hb dX4_append_11 (by decide) ?_
  refine lv_icmp_ge (tgt := 46) hx hb dX4_append_14 (by decide) (fun c9 => absurd c9 (by decide)) (fun _ => ?_)
  refine lv_aload_n hx hb dX4_append_17 rfl (lv_at hl 1 rfl) ?_
  refine va_get (D := D) (ci := 4) (v := .ref b) (C := RX4) (T := TX4) (N := 8) hx hb hts hi4 hown hK hP 0 rfl rfl 0 (by decide) (hts (.fieldLink RX4 11 "AlibiRota$Tape" "bytes" "[B") (by decide +kernel)) (fun _ h9 => h9) rfl dX4_append_18 ?_
  refine lv_aload_n hx hb dX4_append_21 rfl (lv_at hl 1 rfl) ?_
  refine va_get (D := D) (ci := 4) (v := .int 4) (C := RX4) (T := TX4) (N := 8) hx hb hts hi4 hown hK hP 0 rfl rfl 1 (by decide) (hts (.fieldLink RX4 19 "AlibiRota$Tape" "length" "I") (by decide +kernel)) (fun _ h9 => h9) rfl dX4_append_22 ?_
  refine lv_iload_n hx hb dX4_append_25 rfl (lv_at hl 2 rfl) ?_
  refine lv_iload_n hx hb dX4_append_26 rfl (lv_at hl 0 rfl) ?_
  refine lv_ishr hx hb dX4_append_27 ?_
  refine lv_topi (fun v1 ev1 => ?_)
  refine lv_i2b (v := v1.toInt8.toInt32) hx hb dX4_append_28 rfl ?_
  refine va_bast hx hb hK hP hD hS 1 2 rfl rfl (inC 4 1200 (by decide)) dX4_append_29 (fun H locs hP hD hS => ?_)
  obtain ⟨f2, hP, hD⟩ : ∃ f9 : Nat → Int32, va_P D vwCl [(a, .inr (4, [.ref b, .int 4, .int 0, .int (-1), .int 0, .int 0, .int 0, .int 0])), (b, .inl (cB, 1200, .inl f9))] H ∧ va_D A [(a, .inr (4, [.ref b, .int 4, .int 0, .int (-1), .int 0, .int 0, .int 0, .int 0])), (b, .inl (cB, 1200, .inl f9))] := ⟨_, hP, hD⟩
  have hP : va_P D vwCl [(a, .inr (4, [.ref b, .int 4, .int 0, .int (-1), .int 0, .int 0, .int 0, .int 0])), (b, .inl (cB, 1200, .inl f2))] H := hP
  have hD : va_D A [(a, .inr (4, [.ref b, .int 4, .int 0, .int (-1), .int 0, .int 0, .int 0, .int 0])), (b, .inl (cB, 1200, .inl f2))] := hD
  refine lv_aload_n hx hb dX4_append_30 rfl (lv_at hl 1 rfl) ?_
  refine lv_dup hx hb dX4_append_31 rfl ?_
  refine va_get (D := D) (ci := 4) (v := .int 4) (C := RX4) (T := TX4) (N := 8) hx hb hts hi4 hown hK hP 0 rfl rfl 1 (by decide) (hts (.fieldLink RX4 19 "AlibiRota$Tape" "length" "I") (by decide +kernel)) (fun _ h9 => h9) rfl dX4_append_32 ?_
  refine lv_iconst (v := 1) hx hb dX4_append_35 (by decide) ?_
  refine lv_iadd hx hb dX4_append_36 ?_
  refine lv_topi (fun v3 ev3 => ?_)
  obtain rfl : v3 = 5 := ev3.trans (by decide)
  refine va_put (D := D) (ci := 4) (v := .int 5) (ty := .int) (C := RX4) (T := TX4) (N := 8) hx hb hts hi4 tyX4 tyX4_ok nmX4 hown hK hP hD hS 0 rfl rfl 1 (by decide) (hts (.fieldLink RX4 19 "AlibiRota$Tape" "length" "I") (by decide +kernel)) (fun _ h9 => h9) rfl (by decide +kernel) rfl rfl (Nat.le_of_ble_eq_true rfl) dX4_append_37 (fun H locs hP hD hS => ?_)
  have hP : va_P D vwCl [(a, .inr (4, [.ref b, .int 5, .int 0, .int (-1), .int 0, .int 0, .int 0, .int 0])), (b, .inl (cB, 1200, .inl f2))] H := hP
  have hD : va_D A [(a, .inr (4, [.ref b, .int 5, .int 0, .int (-1), .int 0, .int 0, .int 0, .int 0])), (b, .inl (cB, 1200, .inl f2))] := hD
  refine lv_iinc (v := 16) (lv' := [(2, .int 16), (0, .ref a), (1, .int p0)]) hx hb dX4_append_40 hl (k := 0) rfl (by decide) (by decide) rfl (fun ls hl => ?_)
  refine lv_goto (tgt := 3) hx hb dX4_append_43 (by decide) ?_
  refine lv_iload_n hx hb dX4_append_3 rfl (lv_at hl 0 rfl) ?_
  refine lv_if_lt (tgt := 46) hx hb dX4_append_4 (by decide) (fun c9 => absurd c9 (by decide)) (fun _ => ?_)
  refine lv_aload_n hx hb dX4_append_7 rfl (lv_at hl 1 rfl) ?_
  refine va_get (D := D) (ci := 4) (v := .int 5) (C := RX4) (T := TX4) (N := 8) hx hb hts hi4 hown hK hP 0 rfl rfl 1 (by decide) (hts (.fieldLink RX4 19 "AlibiRota$Tape" "length" "I") (by decide +kernel)) (fun _ h9 => h9) rfl dX4_append_8 ?_
  refine lv_sipush (v := 1200) hx hb dX4_append_11 (by decide) ?_
  refine lv_icmp_ge (tgt := 46) hx hb dX4_append_14 (by decide) (fun c9 => absurd c9 (by decide)) (fun _ => ?_)
  refine lv_aload_n hx hb dX4_append_17 rfl (lv_at hl 1 rfl) ?_
  refine va_get (D := D) (ci := 4) (v := .ref b) (C := RX4) (T := TX4) (N := 8) hx hb hts hi4 hown hK hP 0 rfl rfl 0 (by decide) (hts (.fieldLink RX4 11 "AlibiRota$Tape" "bytes" "[B") (by decide +kernel)) (fun _ h9 => h9) rfl dX4_append_18 ?_
  refine lv_aload_n hx hb dX4_append_21 rfl (lv_at hl 1 rfl) ?_
  refine va_get (D := D) (ci := 4) (v := .int 5) (C := RX4) (T := TX4) (N := 8) hx hb hts hi4 hown hK hP 0 rfl rfl 1 (by decide) (hts (.fieldLink RX4 19 "AlibiRota$Tape" "length" "I") (by decide +kernel)) (fun _ h9 => h9) rfl dX4_append_22 ?_
  refine lv_iload_n hx hb dX4_append_25 rfl (lv_at hl 2 rfl) ?_
  refine lv_iload_n hx hb dX4_append_26 rfl (lv_at hl 0 rfl) ?_
  refine lv_ishr hx hb dX4_append_27 ?_
  refine lv_topi (fun v4 ev4 => ?_)
  refine lv_i2b (v := v4.toInt8.toInt32) hx hb dX4_append_28 rfl ?_
  refine va_bast hx hb hK hP hD hS 1 2 rfl rfl (inC 5 1200 (by decide)) dX4_append_29 (fun H locs hP hD hS => ?_)
  obtain ⟨f5, hP, hD⟩ : ∃ f9 : Nat → Int32, va_P D vwCl [(a, .inr (4, [.ref b, .int 5, .int 0, .int (-1), .int 0, .int 0, .int 0, .int 0])), (b, .inl (cB, 1200, .inl f9))] H ∧ va_D A [(a, .inr (4, [.ref b, .int 5, .int 0, .int (-1), .int 0, .int 0, .int 0, .int 0])), (b, .inl (cB, 1200, .inl f9))] := ⟨_, hP, hD⟩
  have hP : va_P D vwCl [(a, .inr (4, [.ref b, .int 5, .int 0, .int (-1), .int 0, .int 0, .int 0, .int 0])), (b, .inl (cB, 1200, .inl f5))] H := hP
  have hD : va_D A [(a, .inr (4, [.ref b, .int 5, .int 0, .int (-1), .int 0, .int 0, .int 0, .int 0])), (b, .inl (cB, 1200, .inl f5))] := hD
  refine lv_aload_n hx hb dX4_append_30 rfl (lv_at hl 1 rfl) ?_
  refine lv_dup hx hb dX4_append_31 rfl ?_
  refine va_get (D := D) (ci := 4) (v := .int 5) (C := RX4) (T := TX4) (N := 8) hx hb hts hi4 hown hK hP 0 rfl rfl 1 (by decide) (hts (.fieldLink RX4 19 "AlibiRota$Tape" "length" "I") (by decide +kernel)) (fun _ h9 => h9) rfl dX4_append_32 ?_
  refine lv_iconst (v := 1) hx hb dX4_append_35 (by decide) ?_
  refine lv_iadd hx hb dX4_append_36 ?_
  refine lv_topi (fun v6 ev6 => ?_)
  obtain rfl : v6 = 6 := ev6.trans (by decide)
  refine va_put (D := D) (ci := 4) (v := .int 6) (ty := .int) (C := RX4) (T := TX4) (N := 8) hx hb hts hi4 tyX4 tyX4_ok nmX4 hown hK hP hD hS 0 rfl rfl 1 (by decide) (hts (.fieldLink RX4 19 "AlibiRota$Tape" "length" "I") (by decide +kernel)) (fun _ h9 => h9) rfl (by decide +kernel) rfl rfl (Nat.le_of_ble_eq_true rfl) dX4_append_37 (fun H locs hP hD hS => ?_)
  have hP : va_P D vwCl [(a, .inr (4, [.ref b, .int 6, .int 0, .int (-1), .int 0, .int 0, .int 0, .int 0])), (b, .inl (cB, 1200, .inl f5))] H := hP
  have hD : va_D A [(a, .inr (4, [.ref b, .int 6, .int 0, .int (-1), .int 0, .int 0, .int 0, .int 0])), (b, .inl (cB, 1200, .inl f5))] := hD
  refine lv_iinc (v := 8) (lv' := [(2, .int 8), (0, .ref a), (1, .int p0)]) hx hb dX4_append_40 hl (k := 0) rfl (by decide) (by decide) rfl (fun ls hl => ?_)
  refine lv_goto (tgt := 3) hx hb dX4_append_43 (by decide) ?_
  refine lv_iload_n hx hb dX4_append_3 rfl (lv_at hl 0 rfl) ?_
  refine lv_if_lt (tgt := 46) hx hb dX4_append_4 (by decide) (fun c9 => absurd c9 (by decide)) (fun _ => ?_)
  refine lv_aload_n hx hb dX4_append_7 rfl (lv_at hl 1 rfl) ?_
  refine va_get (D := D) (ci := 4) (v := .int 6) (C := RX4) (T := TX4) (N := 8) hx hb hts hi4 hown hK hP 0 rfl rfl 1 (by decide) (hts (.fieldLink RX4 19 "AlibiRota$Tape" "length" "I") (by decide +kernel)) (fun _ h9 => h9) rfl dX4_append_8 ?_
  refine lv_sipush (v := 1200) hx hb dX4_append_11 (by decide) ?_
  refine lv_icmp_ge (tgt := 46) hx hb dX4_append_14 (by decide) (fun c9 => absurd c9 (by decide)) (fun _ => ?_)
  refine lv_aload_n hx hb dX4_append_17 rfl (lv_at hl 1 rfl) ?_
  refine va_get (D := D) (ci := 4) (v := .ref b) (C := RX4) (T := TX4) (N := 8) hx hb hts hi4 hown hK hP 0 rfl rfl 0 (by decide) (hts (.fieldLink RX4 11 "AlibiRota$Tape" "bytes" "[B") (by decide +kernel)) (fun _ h9 => h9) rfl dX4_append_18 ?_
  refine lv_aload_n hx hb dX4_append_21 rfl (lv_at hl 1 rfl) ?_
  refine va_get (D := D) (ci := 4) (v := .int 6) (C := RX4) (T := TX4) (N := 8) hx hb hts hi4 hown hK hP 0 rfl rfl 1 (by decide) (hts (.fieldLink RX4 19 "AlibiRota$Tape" "length" "I") (by decide +kernel)) (fun _ h9 => h9) rfl dX4_append_22 ?_
  refine lv_iload_n hx hb dX4_append_25 rfl (lv_at hl 2 rfl) ?_
  refine lv_iload_n hx hb dX4_append_26 rfl (lv_at hl 0 rfl) ?_
  refine lv_ishr hx hb dX4_append_27 ?_
  refine lv_topi (fun v7 ev7 => ?_)
  refine lv_i2b (v := v7.toInt8.toInt32) hx hb dX4_append_28 rfl ?_
  refine va_bast hx hb hK hP hD hS 1 2 rfl rfl (inC 6 1200 (by decide)) dX4_append_29 (fun H locs hP hD hS => ?_)
  obtain ⟨f8, hP, hD⟩ : ∃ f9 : Nat → Int32, va_P D vwCl [(a, .inr (4, [.ref b, .int 6, .int 0, .int (-1), .int 0, .int 0, .int 0, .int 0])), (b, .inl (cB, 1200, .inl f9))] H ∧ va_D A [(a, .inr (4, [.ref b, .int 6, .int 0, .int (-1), .int 0, .int 0, .int 0, .int 0])), (b, .inl (cB, 1200, .inl f9))] := ⟨_, hP, hD⟩
  have hP : va_P D vwCl [(a, .inr (4, [.ref b, .int 6, .int 0, .int (-1), .int 0, .int 0, .int 0, .int 0])), (b, .inl (cB, 1200, .inl f8))] H := hP
  have hD : va_D A [(a, .inr (4, [.ref b, .int 6, .int 0, .int (-1), .int 0, .int 0, .int 0, .int 0])), (b, .inl (cB, 1200, .inl f8))] := hD
  refine lv_aload_n hx hb dX4_append_30 rfl (lv_at hl 1 rfl) ?_
  refine lv_dup hx hb dX4_append_31 rfl ?_
  refine va_get (D := D) (ci := 4) (v := .int 6) (C := RX4) (T := TX4) (N := 8) hx hb hts hi4 hown hK hP 0 rfl rfl 1 (by decide) (hts (.fieldLink RX4 19 "AlibiRota$Tape" "length" "I") (by decide +kernel)) (fun _ h9 => h9) rfl dX4_append_32 ?_
  refine lv_iconst (v := 1) hx hb dX4_append_35 (by decide) ?_
  refine lv_iadd hx hb dX4_append_36 ?_
  refine lv_topi (fun v9 ev9 => ?_)
  obtain rfl : v9 = 7 := ev9.trans (by decide)
  refine va_put (D := D) (ci := 4) (v := .int 7) (ty := .int) (C := RX4) (T := TX4) (N := 8) hx hb hts hi4 tyX4 tyX4_ok nmX4 hown hK hP hD hS 0 rfl rfl 1 (by decide) (hts (.fieldLink RX4 19 "AlibiRota$Tape" "length" "I") (by decide +kernel)) (fun _ h9 => h9) rfl (by decide +kernel) rfl rfl (Nat.le_of_ble_eq_true rfl) dX4_append_37 (fun H locs hP hD hS => ?_)
  have hP : va_P D vwCl [(a, .inr (4, [.ref b, .int 7, .int 0, .int (-1), .int 0, .int 0, .int 0, .int 0])), (b, .inl (cB, 1200, .inl f8))] H := hP
  have hD : va_D A [(a, .inr (4, [.ref b, .int 7, .int 0, .int (-1), .int 0, .int 0, .int 0, .int 0])), (b, .inl (cB, 1200, .inl f8))] := hD
  refine lv_iinc (v := 0) (lv' := [(2, .int 0), (0, .ref a), (1, .int p0)]) hx hb dX4_append_40 hl (k := 0) rfl (by decide) (by decide) rfl (fun ls hl => ?_)
  refine lv_goto (tgt := 3) hx hb dX4_append_43 (by decide) ?_
  refine lv_iload_n hx hb dX4_append_3 rfl (lv_at hl 0 rfl) ?_
  refine lv_if_lt (tgt := 46) hx hb dX4_append_4 (by decide) (fun c9 => absurd c9 (by decide)) (fun _ => ?_)
  refine lv_aload_n hx hb dX4_append_7 rfl (lv_at hl 1 rfl) ?_
  refine va_get (D := D) (ci := 4) (v := .int 7) (C := RX4) (T := TX4) (N := 8) hx hb hts hi4 hown hK hP 0 rfl rfl 1 (by decide) (hts (.fieldLink RX4 19 "AlibiRota$Tape" "length" "I") (by decide +kernel)) (fun _ h9 => h9) rfl dX4_append_8 ?_
  refine lv_sipush (v := 1200) hx hb dX4_append_11 (by decide) ?_
  refine lv_icmp_ge (tgt := 46) hx hb dX4_append_14 (by decide) (fun c9 => absurd c9 (by decide)) (fun _ => ?_)
  refine lv_aload_n hx hb dX4_append_17 rfl (lv_at hl 1 rfl) ?_
  refine va_get (D := D) (ci := 4) (v := .ref b) (C := RX4) (T := TX4) (N := 8) hx hb hts hi4 hown hK hP 0 rfl rfl 0 (by decide) (hts (.fieldLink RX4 11 "AlibiRota$Tape" "bytes" "[B") (by decide +kernel)) (fun _ h9 => h9) rfl dX4_append_18 ?_
  refine lv_aload_n hx hb dX4_append_21 rfl (lv_at hl 1 rfl) ?_
  refine va_get (D := D) (ci := 4) (v := .int 7) (C := RX4) (T := TX4) (N := 8) hx hb hts hi4 hown hK hP 0 rfl rfl 1 (by decide) (hts (.fieldLink RX4 19 "AlibiRota$Tape" "length" "I") (by decide +kernel)) (fun _ h9 => h9) rfl dX4_append_22 ?_
  refine lv_iload_n hx hb dX4_append_25 rfl (lv_at hl 2 rfl) ?_
  refine lv_iload_n hx hb dX4_append_26 rfl (lv_at hl 0 rfl) ?_
  refine lv_ishr hx hb dX4_append_27 ?_
  refine lv_topi (fun v10 ev10 => ?_)
  refine lv_i2b (v := v10.toInt8.toInt32) hx hb dX4_append_28 rfl ?_
  refine va_bast hx hb hK hP hD hS 1 2 rfl rfl (inC 7 1200 (by decide)) dX4_append_29 (fun H locs hP hD hS => ?_)
  obtain ⟨f11, hP, hD⟩ : ∃ f9 : Nat → Int32, va_P D vwCl [(a, .inr (4, [.ref b, .int 7, .int 0, .int (-1), .int 0, .int 0, .int 0, .int 0])), (b, .inl (cB, 1200, .inl f9))] H ∧ va_D A [(a, .inr (4, [.ref b, .int 7, .int 0, .int (-1), .int 0, .int 0, .int 0, .int 0])), (b, .inl (cB, 1200, .inl f9))] := ⟨_, hP, hD⟩
  have hP : va_P D vwCl [(a, .inr (4, [.ref b, .int 7, .int 0, .int (-1), .int 0, .int 0, .int 0, .int 0])), (b, .inl (cB, 1200, .inl f11))] H := hP
  have hD : va_D A [(a, .inr (4, [.ref b, .int 7, .int 0, .int (-1), .int 0, .int 0, .int 0, .int 0])), (b, .inl (cB, 1200, .inl f11))] := hD
  refine lv_aload_n hx hb dX4_append_30 rfl (lv_at hl 1 rfl) ?_
  refine lv_dup hx hb dX4_append_31 rfl ?_
  refine va_get (D := D) (ci := 4) (v := .int 7) (C := RX4) (T := TX4) (N := 8) hx hb hts hi4 hown hK hP 0 rfl rfl 1 (by decide) (hts (.fieldLink RX4 19 "AlibiRota$Tape" "length" "I") (by decide +kernel)) (fun _ h9 => h9) rfl dX4_append_32 ?_
  refine lv_iconst (v := 1) hx hb dX4_append_35 (by decide) ?_
  refine lv_iadd hx hb dX4_append_36 ?_
  refine lv_topi (fun v12 ev12 => ?_)
  obtain rfl : v12 = 8 := ev12.trans (by decide)
  refine va_put (D := D) (ci := 4) (v := .int 8) (ty := .int) (C := RX4) (T := TX4) (N := 8) hx hb hts hi4 tyX4 tyX4_ok nmX4 hown hK hP hD hS 0 rfl rfl 1 (by decide) (hts (.fieldLink RX4 19 "AlibiRota$Tape" "length" "I") (by decide +kernel)) (fun _ h9 => h9) rfl (by decide +kernel) rfl rfl (Nat.le_of_ble_eq_true rfl) dX4_append_37 (fun H locs hP hD hS => ?_)
  have hP : va_P D vwCl [(a, .inr (4, [.ref b, .int 8, .int 0, .int (-1), .int 0, .int 0, .int 0, .int 0])), (b, .inl (cB, 1200, .inl f11))] H := hP
  have hD : va_D A [(a, .inr (4, [.ref b, .int 8, .int 0, .int (-1), .int 0, .int 0, .int 0, .int 0])), (b, .inl (cB, 1200, .inl f11))] := hD
  refine lv_iinc (v := (-8)) (lv' := [(2, .int (-8)), (0, .ref a), (1, .int p0)]) hx hb dX4_append_40 hl (k := 0) rfl (by decide) (by decide) rfl (fun ls hl => ?_)
  refine lv_goto (tgt := 3) hx hb dX4_append_43 (by decide) ?_
  refine lv_iload_n hx hb dX4_append_3 rfl (lv_at hl 0 rfl) ?_
  refine lv_if_lt (tgt := 46) hx hb dX4_append_4 (by decide) (fun _ => ?_) (fun c9 => absurd (by decide) c9)
  have hP9 := hP.sub (ws' := [(a, .inr (4, [.ref b, .int 8, .int 0, .int (-1), .int 0, .int 0, .int 0, .int 0])), (b, .inl (cB, 1200, .inl f11))]) [0, 1] rfl
  have hD9 := hD.sub (ws' := [(a, .inr (4, [.ref b, .int 8, .int 0, .int (-1), .int 0, .int 0, .int 0, .int 0])), (b, .inl (cB, 1200, .inl f11))]) [0, 1] (by decide +kernel) rfl
  exact W.vret hx hb hr (fun t ht _ => ⟨⟨f11, rfl, trivial, by rw [ht]; exact hP9, hD9⟩, hS.F ht⟩) hS.2.2 dX4_append_46

set_option maxHeartbeats 4000000 in
set_option maxRecDepth 100000 in
theorem k_append8 (l : Launch) (D : va_G) (cI cZ cB cJ cR : ClassId) (a b : Nat) (f : Nat → Int32) (sz : Nat) (p0 : Int32) : Met l yX4_append wsX4_append ({ frames := 0, cells := 0, slots := 0, locals := 0 }) (va_Pc [.ref a, .int p0] (pQ D cI cZ cB cJ cR [(a, .inr (4, [.ref b, .int 8, .int 0, .int (-1), .int 0, .int 0, .int 0, .int 0])), (b, .inl (cB, 1200, .inl f))] sz)) (va_Qv (fun (_ : Nat → Int32) => True) (fun (u : Nat → Int32) t => va_P D vwCl [(a, .inr (4, [.ref b, .int 12, .int 0, .int (-1), .int 0, .int 0, .int 0, .int 0])), (b, .inl (cB, 1200, .inl u))] t.heap ∧ va_D (va_A [(a, .inr (4, [.ref b, .int 8, .int 0, .int (-1), .int 0, .int 0, .int 0, .int 0])), (b, .inl (cB, 1200, .inl f))] sz) [(a, .inr (4, [.ref b, .int 12, .int 0, .int (-1), .int 0, .int 0, .int 0, .int 0])), (b, .inl (cB, 1200, .inl u))]) (va_A [(a, .inr (4, [.ref b, .int 8, .int 0, .int (-1), .int 0, .int 0, .int 0, .int 0])), (b, .inl (cB, 1200, .inl f))] sz)) 0 0 (va_A [(a, .inr (4, [.ref b, .int 8, .int 0, .int (-1), .int 0, .int 0, .int 0, .int 0])), (b, .inl (cB, 1200, .inl f))] sz) := by
  refine Met.ofW (cc := cX4_append) (maxL := 3) (ret := none) (by decide) rfl ?_
  intro p e s m args below meth c s₁ B hml hv
  obtain ⟨rfl, hsz, hP, hk, hD0⟩ := hv
  have hK := hk.1
  have hz := hk.2.1
  have hx := B.exec
  have hb := B.bytes
  have hr := B.returns
  have hts := atoms_spec (ws := wsX4_append) B.pre
  have hown : s.vm.findClass RX4 = some m.cls := findClass_of_methodNamed B.named
  have hlocks := B.notSynchronized
  have hi4 : ∀ w ∈ wsX40, w ∈ wsX4_append := by decide +kernel
  subst hsz
  have hD := hD0.self (sz := s.heap.size)
  generalize hAe : va_A [(a, .inr (4, [.ref b, .int 8, .int 0, .int (-1), .int 0, .int 0, .int 0, .int 0])), (b, .inl (cB, 1200, .inl f))] s.heap.size = A at hD ⊢
  have hA : ∀ q : Nat, s.heap.size ≤ q → A q := fun q h => by rw [← hAe]; exact Or.inr h
  have hS : va_S A s.heap s.heap [] := va_S.rf
  have hP : va_P D vwCl [(a, .inr (4, [.ref b, .int 8, .int 0, .int (-1), .int 0, .int 0, .int 0, .int 0])), (b, .inl (cB, 1200, .inl f))] s.heap := hP
  have hl := lv_entry ([.ref a, .int p0]) (n := 3) (Nat.le_of_ble_eq_true rfl)
  rw [lg_entry_eq]
  generalize (lg_sl ([.ref a, .int p0]) ++ List.replicate (3 - (lg_sl ([.ref a, .int p0])).length) Slot.unset).toArray = ls at hl ⊢
  have hl : lv_has ls 3 [(0, .ref a), (1, .int p0)] := hl
  refine lv_bipush (v := 24) hx hb dX4_append_0 (by decide) ?_
  refine lv_istore_n (lv' := [(2, .int 24), (0, .ref a), (1, .int p0)]) hx hb dX4_append_2 rfl hl (by decide) rfl (fun ls hl => ?_)
  refine lv_iload_n hx hb dX4_append_3 rfl (lv_at hl 0 rfl) ?_
  refine lv_if_lt (tgt := 46) hx hb dX4_append_4 (by decide) (fun c9 => absurd c9 (by decide)) (fun _ => ?_)
  refine lv_aload_n hx hb dX4_append_7 rfl (lv_at hl 1 rfl) ?_
  refine va_get (D := D) (ci := 4) (v := .int 8) (C := RX4) (T := TX4) (N := 8) hx hb hts hi4 hown hK hP 0 rfl rfl 1 (by decide) (hts (.fieldLink RX4 19 "AlibiRota$Tape" "length" "I") (by decide +kernel)) (fun _ h9 => h9) rfl dX4_append_8 ?_
  refine lv_sipush (v := 1200) hx hb dX4_append_11 (by decide) ?_
  refine lv_icmp_ge (tgt := 46) hx hb dX4_append_14 (by decide) (fun c9 => absurd c9 (by decide)) (fun _ => ?_)
  refine lv_aload_n hx hb dX4_append_17 rfl (lv_at hl 1 rfl) ?_
  refine va_get (D := D) (ci := 4) (v := .ref b) (C := RX4) (T := TX4) (N := 8) hx hb hts hi4 hown hK hP 0 rfl rfl 0 (by decide) (hts (.fieldLink RX4 11 "AlibiRota$Tape" "bytes" "[B") (by decide +kernel)) (fun _ h9 => h9) rfl dX4_append_18 ?_
  refine lv_aload_n hx hb dX4_append_21 rfl (lv_at hl 1 rfl) ?_
  refine va_get (D := D) (ci := 4) (v := .int 8) (C := RX4) (T := TX4) (N := 8) hx hb hts hi4 hown hK hP 0 rfl rfl 1 (by decide) (hts (.fieldLink RX4 19 "AlibiRota$Tape" "length" "I") (by decide +kernel)) (fun _ h9 => h9) rfl dX4_append_22 ?_
  refine lv_iload_n hx hb dX4_append_25 rfl (lv_at hl 2 rfl) ?_
  refine lv_iload_n hx hb dX4_append_26 rfl (lv_at hl 0 rfl) ?_
  refine lv_ishr hx hb dX4_append_27 ?_
  refine lv_topi (fun v1 ev1 => ?_)
  refine lv_i2b (v := v1.toInt8.toInt32) hx hb dX4_append_28 rfl ?_
  refine va_bast hx hb hK hP hD hS 1 2 rfl rfl (inC 8 1200 (by decide)) dX4_append_29 (fun H locs hP hD hS => ?_)
  obtain ⟨f2, hP, hD⟩ : ∃ f9 : Nat → Int32, va_P D vwCl [(a, .inr (4, [.ref b, .int 8, .int 0, .int (-1), .int 0, .int 0, .int 0, .int 0])), (b, .inl (cB, 1200, .inl f9))] H ∧ va_D A [(a, .inr (4, [.ref b, .int 8, .int 0, .int (-1), .int 0, .int 0, .int 0, .int 0])), (b, .inl (cB, 1200, .inl f9))] := ⟨_, hP, hD⟩
  have hP : va_P D vwCl [(a, .inr (4, [.ref b, .int 8, .int 0, .int (-1), .int 0, .int 0, .int 0, .int 0])), (b, .inl (cB, 1200, .inl f2))] H := hP
  have hD : va_D A [(a, .inr (4, [.ref b, .int 8, .int 0, .int (-1), .int 0, .int 0, .int 0, .int 0])), (b, .inl (cB, 1200, .inl f2))] := hD
  refine lv_aload_n hx hb dX4_append_30 rfl (lv_at hl 1 rfl) ?_
  refine lv_dup hx hb dX4_append_31 rfl ?_
  refine va_get (D := D) (ci := 4) (v := .int 8) (C := RX4) (T := TX4) (N := 8) hx hb hts hi4 hown hK hP 0 rfl rfl 1 (by decide) (hts (.fieldLink RX4 19 "AlibiRota$Tape" "length" "I") (by decide +kernel)) (fun _ h9 => h9) rfl dX4_append_32 ?_
  refine lv_iconst (v := 1) hx hb dX4_append_35 (by decide) ?_
  refine lv_iadd hx hb dX4_append_36 ?_
  refine lv_topi (fun v3 ev3 => ?_)
  obtain rfl : v3 = 9 := ev3.trans (by decide)
  refine va_put (D := D) (ci := 4) (v := .int 9) (ty := .int) (C := RX4) (T := TX4) (N := 8) hx hb hts hi4 tyX4 tyX4_ok nmX4 hown hK hP hD hS 0 rfl rfl 1 (by decide) (hts (.fieldLink RX4 19 "AlibiRota$Tape" "length" "I") (by decide +kernel)) (fun _ h9 => h9) rfl (by decide +kernel) rfl rfl (Nat.le_of_ble_eq_true rfl) dX4_append_37 (fun H locs hP hD hS => ?_)
  have hP : va_P D vwCl [(a, .inr (4, [.ref b, .int 9, .int 0, .int (-1), .int 0, .int 0, .int 0, .int 0])), (b, .inl (cB, 1200, .inl f2))] H := hP
  have hD : va_D A [(a, .inr (4, [.ref b, .int 9, .int 0, .int (-1), .int 0, .int 0, .int 0, .int 0])), (b, .inl (cB, 1200, .inl f2))] := hD
  refine lv_iinc (v := 16) (lv' := [(2, .int 16), (0, .ref a), (1, .int p0)]) hx hb dX4_append_40 hl (k := 0) rfl (by decide) (by decide) rfl (fun ls hl => ?_)
  refine lv_goto (tgt := 3) hx hb dX4_append_43 (by decide) ?_
  refine lv_iload_n hx hb dX4_append_3 rfl (lv_at hl 0 rfl) ?_
  refine lv_if_lt (tgt := 46) hx hb dX4_append_4 (by decide) (fun c9 => absurd c9 (by decide)) (fun _ => ?_)
  refine lv_aload_n hx hb dX4_append_7 rfl (lv_at hl 1 rfl) ?_
  refine va_get (D := D) (ci := 4) (v := .int 9) (C := RX4) (T := TX4) (N := 8) hx hb hts hi4 hown hK hP 0 rfl rfl 1 (by decide) (hts (.fieldLink RX4 19 "AlibiRota$Tape" "length" "I") (by decide +kernel)) (fun _ h9 => h9) rfl dX4_append_8 ?_
  refine lv_sipush (v := 1200) hx hb dX4_append_11 (by decide) ?_
  refine lv_icmp_ge (tgt := 46) hx hb dX4_append_14 (by decide) (fun c9 => absurd c9 (by decide)) (fun _ => ?_)
  refine lv_aload_n hx hb dX4_append_17 rfl (lv_at hl 1 rfl) ?_
  refine va_get (D := D) (ci := 4) (v := .ref b) (C := RX4) (T := TX4) (N := 8) hx hb hts hi4 hown hK hP 0 rfl rfl 0 (by decide) (hts (.fieldLink RX4 11 "AlibiRota$Tape" "bytes" "[B") (by decide +kernel)) (fun _ h9 => h9) rfl dX4_append_18 ?_
  refine lv_aload_n hx hb dX4_append_21 rfl (lv_at hl 1 rfl) ?_
  refine va_get (D := D) (ci := 4) (v := .int 9) (C := RX4) (T := TX4) (N := 8) hx hb hts hi4 hown hK hP 0 rfl rfl 1 (by decide) (hts (.fieldLink RX4 19 "AlibiRota$Tape" "length" "I") (by decide +kernel)) (fun _ h9 => h9) rfl dX4_append_22 ?_
  refine lv_iload_n hx hb dX4_append_25 rfl (lv_at hl 2 rfl) ?_
  refine lv_iload_n hx hb dX4_append_26 rfl (lv_at hl 0 rfl) ?_
  refine lv_ishr hx hb dX4_append_27 ?_
  refine lv_topi (fun v4 ev4 => ?_)
  refine lv_i2b (v := v4.toInt8.toInt32) hx hb dX4_append_28 rfl ?_
  refine va_bast hx hb hK hP hD hS 1 2 rfl rfl (inC 9 1200 (by decide)) dX4_append_29 (fun H locs hP hD hS => ?_)
  obtain ⟨f5, hP, hD⟩ : ∃ f9 : Nat → Int32, va_P D vwCl [(a, .inr (4, [.ref b, .int 9, .int 0, .int (-1), .int 0, .int 0, .int 0, .int 0])), (b, .inl (cB, 1200, .inl f9))] H ∧ va_D A [(a, .inr (4, [.ref b, .int 9, .int 0, .int (-1), .int 0, .int 0, .int 0, .int 0])), (b, .inl (cB, 1200, .inl f9))] := ⟨_, hP, hD⟩
  have hP : va_P D vwCl [(a, .inr (4, [.ref b, .int 9, .int 0, .int (-1), .int 0, .int 0, .int 0, .int 0])), (b, .inl (cB, 1200, .inl f5))] H := hP
  have hD : va_D A [(a, .inr (4, [.ref b, .int 9, .int 0, .int (-1), .int 0, .int 0, .int 0, .int 0])), (b, .inl (cB, 1200, .inl f5))] := hD
  refine lv_aload_n hx hb dX4_append_30 rfl (lv_at hl 1 rfl) ?_
  refine lv_dup hx hb dX4_append_31 rfl ?_
  refine va_get (D := D) (ci := 4) (v := .int 9) (C := RX4) (T := TX4) (N := 8) hx hb hts hi4 hown hK hP 0 rfl rfl 1 (by decide) (hts (.fieldLink RX4 19 "AlibiRota$Tape" "length" "I") (by decide +kernel)) (fun _ h9 => h9) rfl dX4_append_32 ?_
  refine lv_iconst (v := 1) hx hb dX4_append_35 (by decide) ?_
  refine lv_iadd hx hb dX4_append_36 ?_
  refine lv_topi (fun v6 ev6 => ?_)
  obtain rfl : v6 = 10 := ev6.trans (by decide)
  refine va_put (D := D) (ci := 4) (v := .int 10) (ty := .int) (C := RX4) (T := TX4) (N := 8) hx hb hts hi4 tyX4 tyX4_ok nmX4 hown hK hP hD hS 0 rfl rfl 1 (by decide) (hts (.fieldLink RX4 19 "AlibiRota$Tape" "length" "I") (by decide +kernel)) (fun _ h9 => h9) rfl (by decide +kernel) rfl rfl (Nat.le_of_ble_eq_true rfl) dX4_append_37 (fun H locs hP hD hS => ?_)
  have hP : va_P D vwCl [(a, .inr (4, [.ref b, .int 10, .int 0, .int (-1), .int 0, .int 0, .int 0, .int 0])), (b, .inl (cB, 1200, .inl f5))] H := hP
  have hD : va_D A [(a, .inr (4, [.ref b, .int 10, .int 0, .int (-1), .int 0, .int 0, .int 0, .int 0])), (b, .inl (cB, 1200, .inl f5))] := hD
  refine lv_iinc (v := 8) (lv' := [(2, .int 8), (0, .ref a), (1, .int p0)]) hx hb dX4_append_40 hl (k := 0) rfl (by decide) (by decide) rfl (fun ls hl => ?_)
  refine lv_goto (tgt := 3) hx hb dX4_append_43 (by decide) ?_
  refine lv_iload_n hx hb dX4_append_3 rfl (lv_at hl 0 rfl) ?_
  refine lv_if_lt (tgt := 46) hx hb dX4_append_4 (by decide) (fun c9 => absurd c9 (by decide)) (fun _ => ?_)
  refine lv_aload_n hx hb dX4_append_7 rfl (lv_at hl 1 rfl) ?_
  refine va_get (D := D) (ci := 4) (v := .int 10) (C := RX4) (T := TX4) (N := 8) hx hb hts hi4 hown hK hP 0 rfl rfl 1 (by decide) (hts (.fieldLink RX4 19 "AlibiRota$Tape" "length" "I") (by decide +kernel)) (fun _ h9 => h9) rfl dX4_append_8 ?_
  refine lv_sipush (v := 1200) hx hb dX4_append_11 (by decide) ?_
  refine lv_icmp_ge (tgt := 46) hx hb dX4_append_14 (by decide) (fun c9 => absurd c9 (by decide)) (fun _ => ?_)
  refine lv_aload_n hx hb dX4_append_17 rfl (lv_at hl 1 rfl) ?_
  refine va_get (D := D) (ci := 4) (v := .ref b) (C := RX4) (T := TX4) (N := 8) hx hb hts hi4 hown hK hP 0 rfl rfl 0 (by decide) (hts (.fieldLink RX4 11 "AlibiRota$Tape" "bytes" "[B") (by decide +kernel)) (fun _ h9 => h9) rfl dX4_append_18 ?_
  refine lv_aload_n hx hb dX4_append_21 rfl (lv_at hl 1 rfl) ?_
  refine va_get (D := D) (ci := 4) (v := .int 10) (C := RX4) (T := TX4) (N := 8) hx hb hts hi4 hown hK hP 0 rfl rfl 1 (by decide) (hts (.fieldLink RX4 19 "AlibiRota$Tape" "length" "I") (by decide +kernel)) (fun _ h9 => h9) rfl dX4_append_22 ?_
  refine lv_iload_n hx hb dX4_append_25 rfl (lv_at hl 2 rfl) ?_
  refine lv_iload_n hx hb dX4_append_26 rfl (lv_at hl 0 rfl) ?_
  refine lv_ishr hx hb dX4_append_27 ?_
  refine lv_topi (fun v7 ev7 => ?_)
  refine lv_i2b (v := v7.toInt8.toInt32) hx hb dX4_append_28 rfl ?_
  refine va_bast hx hb hK hP hD hS 1 2 rfl rfl (inC 10 1200 (by decide)) dX4_append_29 (fun H locs hP hD hS => ?_)
  obtain ⟨f8, hP, hD⟩ : ∃ f9 : Nat → Int32, va_P D vwCl [(a, .inr (4, [.ref b, .int 10, .int 0, .int (-1), .int 0, .int 0, .int 0, .int 0])), (b, .inl (cB, 1200, .inl f9))] H ∧ va_D A [(a, .inr (4, [.ref b, .int 10, .int 0, .int (-1), .int 0, .int 0, .int 0, .int 0])), (b, .inl (cB, 1200, .inl f9))] := ⟨_, hP, hD⟩
  have hP : va_P D vwCl [(a, .inr (4, [.ref b, .int 10, .int 0, .int (-1), .int 0, .int 0, .int 0, .int 0])), (b, .inl (cB, 1200, .inl f8))] H := hP
  have hD : va_D A [(a, .inr (4, [.ref b, .int 10, .int 0, .int (-1), .int 0, .int 0, .int 0, .int 0])), (b, .inl (cB, 1200, .inl f8))] := hD
  refine lv_aload_n hx hb dX4_append_30 rfl (lv_at hl 1 rfl) ?_
  refine lv_dup hx hb dX4_append_31 rfl ?_
  refine va_get (D := D) (ci := 4) (v := .int 10) (C := RX4) (T := TX4) (N := 8) hx hb hts hi4 hown hK hP 0 rfl rfl 1 (by decide) (hts (.fieldLink RX4 19 "AlibiRota$Tape" "length" "I") (by decide +kernel)) (fun _ h9 => h9) rfl dX4_append_32 ?_
  refine lv_iconst (v := 1) hx hb dX4_append_35 (by decide) ?_
  refine lv_iadd hx hb dX4_append_36 ?_
  refine lv_topi (fun v9 ev9 => ?_)
  obtain rfl : v9 = 11 := ev9.trans (by decide)
  refine va_put (D := D) (ci := 4) (v := .int 11) (ty := .int) (C := RX4) (T := TX4) (N := 8) hx hb hts hi4 tyX4 tyX4_ok nmX4 hown hK hP hD hS 0 rfl rfl 1 (by decide) (hts (.fieldLink RX4 19 "AlibiRota$Tape" "length" "I") (by decide +kernel)) (fun _ h9 => h9) rfl (by decide +kernel) rfl rfl (Nat.le_of_ble_eq_true rfl) dX4_append_37 (fun H locs hP hD hS => ?_)
  have hP : va_P D vwCl [(a, .inr (4, [.ref b, .int 11, .int 0, .int (-1), .int 0, .int 0, .int 0, .int 0])), (b, .inl (cB, 1200, .inl f8))] H := hP
  have hD : va_D A [(a, .inr (4, [.ref b, .int 11, .int 0, .int (-1), .int 0, .int 0, .int 0, .int 0])), (b, .inl (cB, 1200, .inl f8))] := hD
  refine lv_iinc (v := 0) (lv' := [(2, .int 0), (0, .ref a), (1, .int p0)]) hx hb dX4_append_40 hl (k := 0) rfl (by decide) (by decide) rfl (fun ls hl => ?_)
  refine lv_goto (tgt := 3) hx hb dX4_append_43 (by decide) ?_
  refine lv_iload_n hx hb dX4_append_3 rfl (lv_at hl 0 rfl) ?_
  refine lv_if_lt (tgt := 46) hx hb dX4_append_4 (by decide) (fun c9 => absurd c9 (by decide)) (fun _ => ?_)
  refine lv_aload_n hx hb dX4_append_7 rfl (lv_at hl 1 rfl) ?_
  refine va_get (D := D) (ci := 4) (v := .int 11) (C := RX4) (T := TX4) (N := 8) hx hb hts hi4 hown hK hP 0 rfl rfl 1 (by decide) (hts (.fieldLink RX4 19 "AlibiRota$Tape" "length" "I") (by decide +kernel)) (fun _ h9 => h9) rfl dX4_append_8 ?_
  refine lv_sipush (v := 1200) hx hb dX4_append_11 (by decide) ?_
  refine lv_icmp_ge (tgt := 46) hx hb dX4_append_14 (by decide) (fun c9 => absurd c9 (by decide)) (fun _ => ?_)
  refine lv_aload_n hx hb dX4_append_17 rfl (lv_at hl 1 rfl) ?_
  refine va_get (D := D) (ci := 4) (v := .ref b) (C := RX4) (T := TX4) (N := 8) hx hb hts hi4 hown hK hP 0 rfl rfl 0 (by decide) (hts (.fieldLink RX4 11 "AlibiRota$Tape" "bytes" "[B") (by decide +kernel)) (fun _ h9 => h9) rfl dX4_append_18 ?_
  refine lv_aload_n hx hb dX4_append_21 rfl (lv_at hl 1 rfl) ?_
  refine va_get (D := D) (ci := 4) (v := .int 11) (C := RX4) (T := TX4) (N := 8) hx hb hts hi4 hown hK hP 0 rfl rfl 1 (by decide) (hts (.fieldLink RX4 19 "AlibiRota$Tape" "length" "I") (by decide +kernel)) (fun _ h9 => h9) rfl dX4_append_22 ?_
  refine lv_iload_n hx hb dX4_append_25 rfl (lv_at hl 2 rfl) ?_
  refine lv_iload_n hx hb dX4_append_26 rfl (lv_at hl 0 rfl) ?_
  refine lv_ishr hx hb dX4_append_27 ?_
  refine lv_topi (fun v10 ev10 => ?_)
  refine lv_i2b (v := v10.toInt8.toInt32) hx hb dX4_append_28 rfl ?_
  refine va_bast hx hb hK hP hD hS 1 2 rfl rfl (inC 11 1200 (by decide)) dX4_append_29 (fun H locs hP hD hS => ?_)
  obtain ⟨f11, hP, hD⟩ : ∃ f9 : Nat → Int32, va_P D vwCl [(a, .inr (4, [.ref b, .int 11, .int 0, .int (-1), .int 0, .int 0, .int 0, .int 0])), (b, .inl (cB, 1200, .inl f9))] H ∧ va_D A [(a, .inr (4, [.ref b, .int 11, .int 0, .int (-1), .int 0, .int 0, .int 0, .int 0])), (b, .inl (cB, 1200, .inl f9))] := ⟨_, hP, hD⟩
  have hP : va_P D vwCl [(a, .inr (4, [.ref b, .int 11, .int 0, .int (-1), .int 0, .int 0, .int 0, .int 0])), (b, .inl (cB, 1200, .inl f11))] H := hP
  have hD : va_D A [(a, .inr (4, [.ref b, .int 11, .int 0, .int (-1), .int 0, .int 0, .int 0, .int 0])), (b, .inl (cB, 1200, .inl f11))] := hD
  refine lv_aload_n hx hb dX4_append_30 rfl (lv_at hl 1 rfl) ?_
  refine lv_dup hx hb dX4_append_31 rfl ?_
  refine va_get (D := D) (ci := 4) (v := .int 11) (C := RX4) (T := TX4) (N := 8) hx hb hts hi4 hown hK hP 0 rfl rfl 1 (by decide) (hts (.fieldLink RX4 19 "AlibiRota$Tape" "length" "I") (by decide +kernel)) (fun _ h9 => h9) rfl dX4_append_32 ?_
  refine lv_iconst (v := 1) hx hb dX4_append_35 (by decide) ?_
  refine lv_iadd hx hb dX4_append_36 ?_
  refine lv_topi (fun v12 ev12 => ?_)
  obtain rfl : v12 = 12 := ev12.trans (by decide)
  refine va_put (D := D) (ci := 4) (v := .int 12) (ty := .int) (C := RX4) (T := TX4) (N := 8) hx hb hts hi4 tyX4 tyX4_ok nmX4 hown hK hP hD hS 0 rfl rfl 1 (by decide) (hts (.fieldLink RX4 19 "AlibiRota$Tape" "length" "I") (by decide +kernel)) (fun _ h9 => h9) rfl (by decide +kernel) rfl rfl (Nat.le_of_ble_eq_true rfl) dX4_append_37 (fun H locs hP hD hS => ?_)
  have hP : va_P D vwCl [(a, .inr (4, [.ref b, .int 12, .int 0, .int (-1), .int 0, .int 0, .int 0, .int 0])), (b, .inl (cB, 1200, .inl f11))] H := hP
  have hD : va_D A [(a, .inr (4, [.ref b, .int 12, .int 0, .int (-1), .int 0, .int 0, .int 0, .int 0])), (b, .inl (cB, 1200, .inl f11))] := hD
  refine lv_iinc (v := (-8)) (lv' := [(2, .int (-8)), (0, .ref a), (1, .int p0)]) hx hb dX4_append_40 hl (k := 0) rfl (by decide) (by decide) rfl (fun ls hl => ?_)
  refine lv_goto (tgt := 3) hx hb dX4_append_43 (by decide) ?_
  refine lv_iload_n hx hb dX4_append_3 rfl (lv_at hl 0 rfl) ?_
  refine lv_if_lt (tgt := 46) hx hb dX4_append_4 (by decide) (fun _ => ?_) (fun c9 => absurd (by decide) c9)
  have hP9 := hP.sub (ws' := [(a, .inr (4, [.ref b, .int 12, .int 0, .int (-1), .int 0, .int 0, .int 0, .int 0])), (b, .inl (cB, 1200, .inl f11))]) [0, 1] rfl
  have hD9 := hD.sub (ws' := [(a, .inr (4, [.ref b, .int 12, .int 0, .int (-1), .int 0, .int 0, .int 0, .int 0])), (b, .inl (cB, 1200, .inl f11))]) [0, 1] (by decide +kernel) rfl
  exact W.vret hx hb hr (fun t ht _ => ⟨⟨f11, rfl, trivial, by rw [ht]; exact hP9, hD9⟩, hS.F ht⟩) hS.2.2 dX4_append_46

set_option maxHeartbeats 4000000 in
set_option maxRecDepth 100000 in
theorem k_append12 (l : Launch) (D : va_G) (cI cZ cB cJ cR : ClassId) (a b : Nat) (f : Nat → Int32) (sz : Nat) (p0 : Int32) : Met l yX4_append wsX4_append ({ frames := 0, cells := 0, slots := 0, locals := 0 }) (va_Pc [.ref a, .int p0] (pQ D cI cZ cB cJ cR [(a, .inr (4, [.ref b, .int 12, .int 0, .int (-1), .int 0, .int 0, .int 0, .int 0])), (b, .inl (cB, 1200, .inl f))] sz)) (va_Qv (fun (_ : Nat → Int32) => True) (fun (u : Nat → Int32) t => va_P D vwCl [(a, .inr (4, [.ref b, .int 16, .int 0, .int (-1), .int 0, .int 0, .int 0, .int 0])), (b, .inl (cB, 1200, .inl u))] t.heap ∧ va_D (va_A [(a, .inr (4, [.ref b, .int 12, .int 0, .int (-1), .int 0, .int 0, .int 0, .int 0])), (b, .inl (cB, 1200, .inl f))] sz) [(a, .inr (4, [.ref b, .int 16, .int 0, .int (-1), .int 0, .int 0, .int 0, .int 0])), (b, .inl (cB, 1200, .inl u))]) (va_A [(a, .inr (4, [.ref b, .int 12, .int 0, .int (-1), .int 0, .int 0, .int 0, .int 0])), (b, .inl (cB, 1200, .inl f))] sz)) 0 0 (va_A [(a, .inr (4, [.ref b, .int 12, .int 0, .int (-1), .int 0, .int 0, .int 0, .int 0])), (b, .inl (cB, 1200, .inl f))] sz) := by
  refine Met.ofW (cc := cX4_append) (maxL := 3) (ret := none) (by decide) rfl ?_
  intro p e s m args below meth c s₁ B hml hv
  obtain ⟨rfl, hsz, hP, hk, hD0⟩ := hv
  have hK := hk.1
  have hz := hk.2.1
  have hx := B.exec
  have hb := B.bytes
  have hr := B.returns
  have hts := atoms_spec (ws := wsX4_append) B.pre
  have hown : s.vm.findClass RX4 = some m.cls := findClass_of_methodNamed B.named
  have hlocks := B.notSynchronized
  have hi4 : ∀ w ∈ wsX40, w ∈ wsX4_append := by decide +kernel
  subst hsz
  have hD := hD0.self (sz := s.heap.size)
  generalize hAe : va_A [(a, .inr (4, [.ref b, .int 12, .int 0, .int (-1), .int 0, .int 0, .int 0, .int 0])), (b, .inl (cB, 1200, .inl f))] s.heap.size = A at hD ⊢
  have hA : ∀ q : Nat, s.heap.size ≤ q → A q := fun q h => by rw [← hAe]; exact Or.inr h
  have hS : va_S A s.heap s.heap [] := va_S.rf
  have hP : va_P D vwCl [(a, .inr (4, [.ref b, .int 12, .int 0, .int (-1), .int 0, .int 0, .int 0, .int 0])), (b, .inl (cB, 1200, .inl f))] s.heap := hP
  have hl := lv_entry ([.ref a, .int p0]) (n := 3) (Nat.le_of_ble_eq_true rfl)
  rw [lg_entry_eq]
  generalize (lg_sl ([.ref a, .int p0]) ++ List.replicate (3 - (lg_sl ([.ref a, .int p0])).length) Slot.unset).toArray = ls at hl ⊢
  have hl : lv_has ls 3 [(0, .ref a), (1, .int p0)] := hl
  refine lv_bipush (v := 24) hx hb dX4_append_0 (by decide) ?_
  refine lv_istore_n (lv' := [(2, .int 24), (0, .ref a), (1, .int p0)]) hx hb dX4_append_2 rfl hl (by decide) rfl (fun ls hl => ?_)
  refine lv_iload_n hx hb dX4_append_3 rfl (lv_at hl 0 rfl) ?_
  refine lv_if_lt (tgt := 46) hx hb dX4_append_4 (by decide) (fun c9 => absurd c9 (by decide)) (fun _ => ?_)
  refine lv_aload_n hx hb dX4_append_7 rfl (lv_at hl 1 rfl) ?_
  refine va_get (D := D) (ci := 4) (v := .int 12) (C := RX4) (T := TX4) (N := 8) hx hb hts hi4 hown hK hP 0 rfl rfl 1 (by decide) (hts (.fieldLink RX4 19 "AlibiRota$Tape" "length" "I") (by decide +kernel)) (fun _ h9 => h9) rfl dX4_append_8 ?_
  refine lv_sipush (v := 1200) hx hb dX4_append_11 (by decide) ?_
  refine lv_icmp_ge (tgt := 46) hx hb dX4_append_14 (by decide) (fun c9 => absurd c9 (by decide)) (fun _ => ?_)
  refine lv_aload_n hx hb dX4_append_17 rfl (lv_at hl 1 rfl) ?_
  refine va_get (D := D) (ci := 4) (v := .ref b) (C := RX4) (T := TX4) (N := 8) hx hb hts hi4 hown hK hP 0 rfl rfl 0 (by decide) (hts (.fieldLink RX4 11 "AlibiRota$Tape" "bytes" "[B") (by decide +kernel)) (fun _ h9 => h9) rfl dX4_append_18 ?_
  refine lv_aload_n hx hb dX4_append_21 rfl (lv_at hl 1 rfl) ?_
  refine va_get (D := D) (ci := 4) (v := .int 12) (C := RX4) (T := TX4) (N := 8) hx hb hts hi4 hown hK hP 0 rfl rfl 1 (by decide) (hts (.fieldLink RX4 19 "AlibiRota$Tape" "length" "I") (by decide +kernel)) (fun _ h9 => h9) rfl dX4_append_22 ?_
  refine lv_iload_n hx hb dX4_append_25 rfl (lv_at hl 2 rfl) ?_
  refine lv_iload_n hx hb dX4_append_26 rfl (lv_at hl 0 rfl) ?_
  refine lv_ishr hx hb dX4_append_27 ?_
  refine lv_topi (fun v1 ev1 => ?_)
  refine lv_i2b (v := v1.toInt8.toInt32) hx hb dX4_append_28 rfl ?_
  refine va_bast hx hb hK hP hD hS 1 2 rfl rfl (inC 12 1200 (by decide)) dX4_append_29 (fun H locs hP hD hS => ?_)
  obtain ⟨f2, hP, hD⟩ : ∃ f9 : Nat → Int32, va_P D vwCl [(a, .inr (4, [.ref b, .int 12, .int 0, .int (-1), .int 0, .int 0, .int 0, .int 0])), (b, .inl (cB, 1200, .inl f9))] H ∧ va_D A [(a, .inr (4, [.ref b, .int 12, .int 0, .int (-1), .int 0, .int 0, .int 0, .int 0])), (b, .inl (cB, 1200, .inl f9))] := ⟨_, hP, hD⟩
  have hP : va_P D vwCl [(a, .inr (4, [.ref b, .int 12, .int 0, .int (-1), .int 0, .int 0, .int 0, .int 0])), (b, .inl (cB, 1200, .inl f2))] H := hP
  have hD : va_D A [(a, .inr (4, [.ref b, .int 12, .int 0, .int (-1), .int 0, .int 0, .int 0, .int 0])), (b, .inl (cB, 1200, .inl f2))] := hD
  refine lv_aload_n hx hb dX4_append_30 rfl (lv_at hl 1 rfl) ?_
  refine lv_dup hx hb dX4_append_31 rfl ?_
  refine va_get (D := D) (ci := 4) (v := .int 12) (C := RX4) (T := TX4) (N := 8) hx hb hts hi4 hown hK hP 0 rfl rfl 1 (by decide) (hts (.fieldLink RX4 19 "AlibiRota$Tape" "length" "I") (by decide +kernel)) (fun _ h9 => h9) rfl dX4_append_32 ?_
  refine lv_iconst (v := 1) hx hb dX4_append_35 (by decide) ?_
  refine lv_iadd hx hb dX4_append_36 ?_
  refine lv_topi (fun v3 ev3 => ?_)
  obtain rfl : v3 = 13 := ev3.trans (by decide)
  refine va_put (D := D) (ci := 4) (v := .int 13) (ty := .int) (C := RX4) (T := TX4) (N := 8) hx hb hts hi4 tyX4 tyX4_ok nmX4 hown hK hP hD hS 0 rfl rfl 1 (by decide) (hts (.fieldLink RX4 19 "AlibiRota$Tape" "length" "I") (by decide +kernel)) (fun _ h9 => h9) rfl (by decide +kernel) rfl rfl (Nat.le_of_ble_eq_true rfl) dX4_append_37 (fun H locs hP hD hS => ?_)
  have hP : va_P D vwCl [(a, .inr (4, [.ref b, .int 13, .int 0, .int (-1), .int 0, .int 0, .int 0, .int 0])), (b, .inl (cB, 1200, .inl f2))] H := hP
  have hD : va_D A [(a, .inr (4, [.ref b, .int 13, .int 0, .int (-1), .int 0, .int 0, .int 0, .int 0])), (b, .inl (cB, 1200, .inl f2))] := hD
  refine lv_iinc (v := 16) (lv' := [(2, .int 16), (0, .ref a), (1, .int p0)]) hx hb dX4_append_40 hl (k := 0) rfl (by decide) (by decide) rfl (fun ls hl => ?_)
  refine lv_goto (tgt := 3) hx hb dX4_append_43 (by decide) ?_
  refine lv_iload_n hx hb dX4_append_3 rfl (lv_at hl 0 rfl) ?_
  refine lv_if_lt (tgt := 46) hx hb dX4_append_4 (by decide) (fun c9 => absurd c9 (by decide)) (fun _ => ?_)
  refine lv_aload_n hx hb dX4_append_7 rfl (lv_at hl 1 rfl) ?_
  refine va_get (D := D) (ci := 4) (v := .int 13) (C := RX4) (T := TX4) (N := 8) hx hb hts hi4 hown hK hP 0 rfl rfl 1 (by decide) (hts (.fieldLink RX4 19 "AlibiRota$Tape" "length" "I") (by decide +kernel)) (fun _ h9 => h9) rfl dX4_append_8 ?_
  refine lv_sipush (v := 1200) hx hb dX4_append_11 (by decide) ?_
  refine lv_icmp_ge (tgt := 46) hx hb dX4_append_14 (by decide) (fun c9 => absurd c9 (by decide)) (fun _ => ?_)
  refine lv_aload_n hx hb dX4_append_17 rfl (lv_at hl 1 rfl) ?_
  refine va_get (D := D) (ci := 4) (v := .ref b) (C := RX4) (T := TX4) (N := 8) hx hb hts hi4 hown hK hP 0 rfl rfl 0 (by decide) (hts (.fieldLink RX4 11 "AlibiRota$Tape" "bytes" "[B") (by decide +kernel)) (fun _ h9 => h9) rfl dX4_append_18 ?_
  refine lv_aload_n hx hb dX4_append_21 rfl (lv_at hl 1 rfl) ?_
  refine va_get (D := D) (ci := 4) (v := .int 13) (C := RX4) (T := TX4) (N := 8) hx hb hts hi4 hown hK hP 0 rfl rfl 1 (by decide) (hts (.fieldLink RX4 19 "AlibiRota$Tape" "length" "I") (by decide +kernel)) (fun _ h9 => h9) rfl dX4_append_22 ?_
  refine lv_iload_n hx hb dX4_append_25 rfl (lv_at hl 2 rfl) ?_
  refine lv_iload_n hx hb dX4_append_26 rfl (lv_at hl 0 rfl) ?_
  refine lv_ishr hx hb dX4_append_27 ?_
  refine lv_topi (fun v4 ev4 => ?_)
  refine lv_i2b (v := v4.toInt8.toInt32) hx hb dX4_append_28 rfl ?_
  refine va_bast hx hb hK hP hD hS 1 2 rfl rfl (inC 13 1200 (by decide)) dX4_append_29 (fun H locs hP hD hS => ?_)
  obtain ⟨f5, hP, hD⟩ : ∃ f9 : Nat → Int32, va_P D vwCl [(a, .inr (4, [.ref b, .int 13, .int 0, .int (-1), .int 0, .int 0, .int 0, .int 0])), (b, .inl (cB, 1200, .inl f9))] H ∧ va_D A [(a, .inr (4, [.ref b, .int 13, .int 0, .int (-1), .int 0, .int 0, .int 0, .int 0])), (b, .inl (cB, 1200, .inl f9))] := ⟨_, hP, hD⟩
  have hP : va_P D vwCl [(a, .inr (4, [.ref b, .int 13, .int 0, .int (-1), .int 0, .int 0, .int 0, .int 0])), (b, .inl (cB, 1200, .inl f5))] H := hP
  have hD : va_D A [(a, .inr (4, [.ref b, .int 13, .int 0, .int (-1), .int 0, .int 0, .int 0, .int 0])), (b, .inl (cB, 1200, .inl f5))] := hD
  refine lv_aload_n hx hb dX4_append_30 rfl (lv_at hl 1 rfl) ?_
  refine lv_dup hx hb dX4_append_31 rfl ?_
  refine va_get (D := D) (ci := 4) (v := .int 13) (C := RX4) (T := TX4) (N := 8) hx hb hts hi4 hown hK hP 0 rfl rfl 1 (by decide) (hts (.fieldLink RX4 19 "AlibiRota$Tape" "length" "I") (by decide +kernel)) (fun _ h9 => h9) rfl dX4_append_32 ?_
  refine lv_iconst (v := 1) hx hb dX4_append_35 (by decide) ?_
  refine lv_iadd hx hb dX4_append_36 ?_
  refine lv_topi (fun v6 ev6 => ?_)
  obtain rfl : v6 = 14 := ev6.trans (by decide)
  refine va_put (D := D) (ci := 4) (v := .int 14) (ty := .int) (C := RX4) (T := TX4) (N := 8) hx hb hts hi4 tyX4 tyX4_ok nmX4 hown hK hP hD hS 0 rfl rfl 1 (by decide) (hts (.fieldLink RX4 19 "AlibiRota$Tape" "length" "I") (by decide +kernel)) (fun _ h9 => h9) rfl (by decide +kernel) rfl rfl (Nat.le_of_ble_eq_true rfl) dX4_append_37 (fun H locs hP hD hS => ?_)
  have hP : va_P D vwCl [(a, .inr (4, [.ref b, .int 14, .int 0, .int (-1), .int 0, .int 0, .int 0, .int 0])), (b, .inl (cB, 1200, .inl f5))] H := hP
  have hD : va_D A [(a, .inr (4, [.ref b, .int 14, .int 0, .int (-1), .int 0, .int 0, .int 0, .int 0])), (b, .inl (cB, 1200, .inl f5))] := hD
  refine lv_iinc (v := 8) (lv' := [(2, .int 8), (0, .ref a), (1, .int p0)]) hx hb dX4_append_40 hl (k := 0) rfl (by decide) (by decide) rfl (fun ls hl => ?_)
  refine lv_goto (tgt := 3) hx hb dX4_append_43 (by decide) ?_
  refine lv_iload_n hx hb dX4_append_3 rfl (lv_at hl 0 rfl) ?_
  refine lv_if_lt (tgt := 46) hx hb dX4_append_4 (by decide) (fun c9 => absurd c9 (by decide)) (fun _ => ?_)
  refine lv_aload_n hx hb dX4_append_7 rfl (lv_at hl 1 rfl) ?_
  refine va_get (D := D) (ci := 4) (v := .int 14) (C := RX4) (T := TX4) (N := 8) hx hb hts hi4 hown hK hP 0 rfl rfl 1 (by decide) (hts (.fieldLink RX4 19 "AlibiRota$Tape" "length" "I") (by decide +kernel)) (fun _ h9 => h9) rfl dX4_append_8 ?_
  refine lv_sipush (v := 1200) hx hb dX4_append_11 (by decide) ?_
  refine lv_icmp_ge (tgt := 46) hx hb dX4_append_14 (by decide) (fun c9 => absurd c9 (by decide)) (fun _ => ?_)
  refine lv_aload_n hx hb dX4_append_17 rfl (lv_at hl 1 rfl) ?_
  refine va_get (D := D) (ci := 4) (v := .ref b) (C := RX4) (T := TX4) (N := 8) hx hb hts hi4 hown hK hP 0 rfl rfl 0 (by decide) (hts (.fieldLink RX4 11 "AlibiRota$Tape" "bytes" "[B") (by decide +kernel)) (fun _ h9 => h9) rfl dX4_append_18 ?_
  refine lv_aload_n hx hb dX4_append_21 rfl (lv_at hl 1 rfl) ?_
  refine va_get (D := D) (ci := 4) (v := .int 14) (C := RX4) (T := TX4) (N := 8) hx hb hts hi4 hown hK hP 0 rfl rfl 1 (by decide) (hts (.fieldLink RX4 19 "AlibiRota$Tape" "length" "I") (by decide +kernel)) (fun _ h9 => h9) rfl dX4_append_22 ?_
  refine lv_iload_n hx hb dX4_append_25 rfl (lv_at hl 2 rfl) ?_
  refine lv_iload_n hx hb dX4_append_26 rfl (lv_at hl 0 rfl) ?_
  refine lv_ishr hx hb dX4_append_27 ?_
  refine lv_topi (fun v7 ev7 => ?_)
  refine lv_i2b (v := v7.toInt8.toInt32) hx hb dX4_append_28 rfl ?_
  refine va_bast hx hb hK hP hD hS 1 2 rfl rfl (inC 14 1200 (by decide)) dX4_append_29 (fun H locs hP hD hS => ?_)
  obtain ⟨f8, hP, hD⟩ : ∃ f9 : Nat → Int32, va_P D vwCl [(a, .inr (4, [.ref b, .int 14, .int 0, .int (-1), .int 0, .int 0, .int 0, .int 0])), (b, .inl (cB, 1200, .inl f9))] H ∧ va_D A [(a, .inr (4, [.ref b, .int 14, .int 0, .int (-1), .int 0, .int 0, .int 0, .int 0])), (b, .inl (cB, 1200, .inl f9))] := ⟨_, hP, hD⟩
  have hP : va_P D vwCl [(a, .inr (4, [.ref b, .int 14, .int 0, .int (-1), .int 0, .int 0, .int 0, .int 0])), (b, .inl (cB, 1200, .inl f8))] H := hP
  have hD : va_D A [(a, .inr (4, [.ref b, .int 14, .int 0, .int (-1), .int 0, .int 0, .int 0, .int 0])), (b, .inl (cB, 1200, .inl f8))] := hD
  refine lv_aload_n hx hb dX4_append_30 rfl (lv_at hl 1 rfl) ?_
  refine lv_dup hx hb dX4_append_31 rfl ?_
  refine va_get (D := D) (ci := 4) (v := .int 14) (C := RX4) (T := TX4) (N := 8) hx hb hts hi4 hown hK hP 0 rfl rfl 1 (by decide) (hts (.fieldLink RX4 19 "AlibiRota$Tape" "length" "I") (by decide +kernel)) (fun _ h9 => h9) rfl dX4_append_32 ?_
  refine lv_iconst (v := 1) hx hb dX4_append_35 (by decide) ?_
  refine lv_iadd hx hb dX4_append_36 ?_
  refine lv_topi (fun v9 ev9 => ?_)
  obtain rfl : v9 = 15 := ev9.trans (by decide)
  refine va_put (D := D) (ci := 4) (v := .int 15) (ty := .int) (C := RX4) (T := TX4) (N := 8) hx hb hts hi4 tyX4 tyX4_ok nmX4 hown hK hP hD hS 0 rfl rfl 1 (by decide) (hts (.fieldLink RX4 19 "AlibiRota$Tape" "length" "I") (by decide +kernel)) (fun _ h9 => h9) rfl (by decide +kernel) rfl rfl (Nat.le_of_ble_eq_true rfl) dX4_append_37 (fun H locs hP hD hS => ?_)
  have hP : va_P D vwCl [(a, .inr (4, [.ref b, .int 15, .int 0, .int (-1), .int 0, .int 0, .int 0, .int 0])), (b, .inl (cB, 1200, .inl f8))] H := hP
  have hD : va_D A [(a, .inr (4, [.ref b, .int 15, .int 0, .int (-1), .int 0, .int 0, .int 0, .int 0])), (b, .inl (cB, 1200, .inl f8))] := hD
  refine lv_iinc (v := 0) (lv' := [(2, .int 0), (0, .ref a), (1, .int p0)]) hx hb dX4_append_40 hl (k := 0) rfl (by decide) (by decide) rfl (fun ls hl => ?_)
  refine lv_goto (tgt := 3) hx hb dX4_append_43 (by decide) ?_
  refine lv_iload_n hx hb dX4_append_3 rfl (lv_at hl 0 rfl) ?_
  refine lv_if_lt (tgt := 46) hx hb dX4_append_4 (by decide) (fun c9 => absurd c9 (by decide)) (fun _ => ?_)
  refine lv_aload_n hx hb dX4_append_7 rfl (lv_at hl 1 rfl) ?_
  refine va_get (D := D) (ci := 4) (v := .int 15) (C := RX4) (T := TX4) (N := 8) hx hb hts hi4 hown hK hP 0 rfl rfl 1 (by decide) (hts (.fieldLink RX4 19 "AlibiRota$Tape" "length" "I") (by decide +kernel)) (fun _ h9 => h9) rfl dX4_append_8 ?_
  refine lv_sipush (v := 1200) hx hb dX4_append_11 (by decide) ?_
  refine lv_icmp_ge (tgt := 46) hx hb dX4_append_14 (by decide) (fun c9 => absurd c9 (by decide)) (fun _ => ?_)
  refine lv_aload_n hx hb dX4_append_17 rfl (lv_at hl 1 rfl) ?_
  refine va_get (D := D) (ci := 4) (v := .ref b) (C := RX4) (T := TX4) (N := 8) hx hb hts hi4 hown hK hP 0 rfl rfl 0 (by decide) (hts (.fieldLink RX4 11 "AlibiRota$Tape" "bytes" "[B") (by decide +kernel)) (fun _ h9 => h9) rfl dX4_append_18 ?_
  refine lv_aload_n hx hb dX4_append_21 rfl (lv_at hl 1 rfl) ?_
  refine va_get (D := D) (ci := 4) (v := .int 15) (C := RX4) (T := TX4) (N := 8) hx hb hts hi4 hown hK hP 0 rfl rfl 1 (by decide) (hts (.fieldLink RX4 19 "AlibiRota$Tape" "length" "I") (by decide +kernel)) (fun _ h9 => h9) rfl dX4_append_22 ?_
  refine lv_iload_n hx hb dX4_append_25 rfl (lv_at hl 2 rfl) ?_
  refine lv_iload_n hx hb dX4_append_26 rfl (lv_at hl 0 rfl) ?_
  refine lv_ishr hx hb dX4_append_27 ?_
  refine lv_topi (fun v10 ev10 => ?_)
  refine lv_i2b (v := v10.toInt8.toInt32) hx hb dX4_append_28 rfl ?_
  refine va_bast hx hb hK hP hD hS 1 2 rfl rfl (inC 15 1200 (by decide)) dX4_append_29 (fun H locs hP hD hS => ?_)
  obtain ⟨f11, hP, hD⟩ : ∃ f9 : Nat → Int32, va_P D vwCl [(a, .inr (4, [.ref b, .int 15, .int 0, .int (-1), .int 0, .int 0, .int 0, .int 0])), (b, .inl (cB, 1200, .inl f9))] H ∧ va_D A [(a, .inr (4, [.ref b, .int 15, .int 0, .int (-1), .int 0, .int 0, .int 0, .int 0])), (b, .inl (cB, 1200, .inl f9))] := ⟨_, hP, hD⟩
  have hP : va_P D vwCl [(a, .inr (4, [.ref b, .int 15, .int 0, .int (-1), .int 0, .int 0, .int 0, .int 0])), (b, .inl (cB, 1200, .inl f11))] H := hP
  have hD : va_D A [(a, .inr (4, [.ref b, .int 15, .int 0, .int (-1), .int 0, .int 0, .int 0, .int 0])), (b, .inl (cB, 1200, .inl f11))] := hD
  refine lv_aload_n hx hb dX4_append_30 rfl (lv_at hl 1 rfl) ?_
  refine lv_dup hx hb dX4_append_31 rfl ?_
  refine va_get (D := D) (ci := 4) (v := .int 15) (C := RX4) (T := TX4) (N := 8) hx hb hts hi4 hown hK hP 0 rfl rfl 1 (by decide) (hts (.fieldLink RX4 19 "AlibiRota$Tape" "length" "I") (by decide +kernel)) (fun _ h9 => h9) rfl dX4_append_32 ?_
  refine lv_iconst (v := 1) hx hb dX4_append_35 (by decide) ?_
  refine lv_iadd hx hb dX4_append_36 ?_
  refine lv_topi (fun v12 ev12 => ?_)
  obtain rfl : v12 = 16 := ev12.trans (by decide)
  refine va_put (D := D) (ci := 4) (v := .int 16) (ty := .int) (C := RX4) (T := TX4) (N := 8) hx hb hts hi4 tyX4 tyX4_ok nmX4 hown hK hP hD hS 0 rfl rfl 1 (by decide) (hts (.fieldLink RX4 19 "AlibiRota$Tape" "length" "I") (by decide +kernel)) (fun _ h9 => h9) rfl (by decide +kernel) rfl rfl (Nat.le_of_ble_eq_true rfl) dX4_append_37 (fun H locs hP hD hS => ?_)
  have hP : va_P D vwCl [(a, .inr (4, [.ref b, .int 16, .int 0, .int (-1), .int 0, .int 0, .int 0, .int 0])), (b, .inl (cB, 1200, .inl f11))] H := hP
  have hD : va_D A [(a, .inr (4, [.ref b, .int 16, .int 0, .int (-1), .int 0, .int 0, .int 0, .int 0])), (b, .inl (cB, 1200, .inl f11))] := hD
  refine lv_iinc (v := (-8)) (lv' := [(2, .int (-8)), (0, .ref a), (1, .int p0)]) hx hb dX4_append_40 hl (k := 0) rfl (by decide) (by decide) rfl (fun ls hl => ?_)
  refine lv_goto (tgt := 3) hx hb dX4_append_43 (by decide) ?_
  refine lv_iload_n hx hb dX4_append_3 rfl (lv_at hl 0 rfl) ?_
  refine lv_if_lt (tgt := 46) hx hb dX4_append_4 (by decide) (fun _ => ?_) (fun c9 => absurd (by decide) c9)
  have hP9 := hP.sub (ws' := [(a, .inr (4, [.ref b, .int 16, .int 0, .int (-1), .int 0, .int 0, .int 0, .int 0])), (b, .inl (cB, 1200, .inl f11))]) [0, 1] rfl
  have hD9 := hD.sub (ws' := [(a, .inr (4, [.ref b, .int 16, .int 0, .int (-1), .int 0, .int 0, .int 0, .int 0])), (b, .inl (cB, 1200, .inl f11))]) [0, 1] (by decide +kernel) rfl
  exact W.vret hx hb hr (fun t ht _ => ⟨⟨f11, rfl, trivial, by rw [ht]; exact hP9, hD9⟩, hS.F ht⟩) hS.2.2 dX4_append_46

set_option maxHeartbeats 4000000 in
set_option maxRecDepth 100000 in
theorem k_append16 (l : Launch) (D : va_G) (cI cZ cB cJ cR : ClassId) (a b : Nat) (f : Nat → Int32) (sz : Nat) (p0 : Int32) : Met l yX4_append wsX4_append ({ frames := 0, cells := 0, slots := 0, locals := 0 }) (va_Pc [.ref a, .int p0] (pQ D cI cZ cB cJ cR [(a, .inr (4, [.ref b, .int 16, .int 0, .int (-1), .int 0, .int 0, .int 0, .int 0])), (b, .inl (cB, 1200, .inl f))] sz)) (va_Qv (fun (_ : Nat → Int32) => True) (fun (u : Nat → Int32) t => va_P D vwCl [(a, .inr (4, [.ref b, .int 20, .int 0, .int (-1), .int 0, .int 0, .int 0, .int 0])), (b, .inl (cB, 1200, .inl u))] t.heap ∧ va_D (va_A [(a, .inr (4, [.ref b, .int 16, .int 0, .int (-1), .int 0, .int 0, .int 0, .int 0])), (b, .inl (cB, 1200, .inl f))] sz) [(a, .inr (4, [.ref b, .int 20, .int 0, .int (-1), .int 0, .int 0, .int 0, .int 0])), (b, .inl (cB, 1200, .inl u))]) (va_A [(a, .inr (4, [.ref b, .int 16, .int 0, .int (-1), .int 0, .int 0, .int 0, .int 0])), (b, .inl (cB, 1200, .inl f))] sz)) 0 0 (va_A [(a, .inr (4, [.ref b, .int 16, .int 0, .int (-1), .int 0, .int 0, .int 0, .int 0])), (b, .inl (cB, 1200, .inl f))] sz) := by
  refine Met.ofW (cc := cX4_append) (maxL := 3) (ret := none) (by decide) rfl ?_
  intro p e s m args below meth c s₁ B hml hv
  obtain ⟨rfl, hsz, hP, hk, hD0⟩ := hv
  have hK := hk.1
  have hz := hk.2.1
  have hx := B.exec
  have hb := B.bytes
  have hr := B.returns
  have hts := atoms_spec (ws := wsX4_append) B.pre
  have hown : s.vm.findClass RX4 = some m.cls := findClass_of_methodNamed B.named
  have hlocks := B.notSynchronized
  have hi4 : ∀ w ∈ wsX40, w ∈ wsX4_append := by decide +kernel
  subst hsz
  have hD := hD0.self (sz := s.heap.size)
  generalize hAe : va_A [(a, .inr (4, [.ref b, .int 16, .int 0, .int (-1), .int 0, .int 0, .int 0, .int 0])), (b, .inl (cB, 1200, .inl f))] s.heap.size = A at hD ⊢
  have hA : ∀ q : Nat, s.heap.size ≤ q → A q := fun q h => by rw [← hAe]; exact Or.inr h
  have hS : va_S A s.heap s.heap [] := va_S.rf
  have hP : va_P D vwCl [(a, .inr (4, [.ref b, .int 16, .int 0, .int (-1), .int 0, .int 0, .int 0, .int 0])), (b, .inl (cB, 1200, .inl f))] s.heap := hP
  have hl := lv_entry ([.ref a, .int p0]) (n := 3) (Nat.le_of_ble_eq_true rfl)
  rw [lg_entry_eq]
  generalize (lg_sl ([.ref a, .int p0]) ++ List.replicate (3 - (lg_sl ([.ref a, .int p0])).length) Slot.unset).toArray = ls at hl ⊢
  have hl : lv_has ls 3 [(0, .ref a), (1, .int p0)] := hl
  refine lv_bipush (v := 24) hx hb dX4_append_0 (by decide) ?_
  refine lv_istore_n (lv' := [(2, .int 24), (0, .ref a), (1, .int p0)]) hx hb dX4_append_2 rfl hl (by decide) rfl (fun ls hl => ?_)
  refine lv_iload_n hx hb dX4_append_3 rfl (lv_at hl 0 rfl) ?_
  refine lv_if_lt (tgt := 46) hx hb dX4_append_4 (by decide) (fun c9 => absurd c9 (by decide)) (fun _ => ?_)
  refine lv_aload_n hx hb dX4_append_7 rfl (lv_at hl 1 rfl) ?_
  refine va_get (D := D) (ci := 4) (v := .int 16) (C := RX4) (T := TX4) (N := 8) hx hb hts hi4 hown hK hP 0 rfl rfl 1 (by decide) (hts (.fieldLink RX4 19 "AlibiRota$Tape" "length" "I") (by decide +kernel)) (fun _ h9 => h9) rfl dX4_append_8 ?_
  refine lv_sipush (v := 1200) hx hb dX4_append_11 (by decide) ?_
  refine lv_icmp_ge (tgt := 46) hx hb dX4_append_14 (by decide) (fun c9 => absurd c9 (by decide)) (fun _ => ?_)
  refine lv_aload_n hx hb dX4_append_17 rfl (lv_at hl 1 rfl) ?_
  refine va_get (D := D) (ci := 4) (v := .ref b) (C := RX4) (T := TX4) (N := 8) hx hb hts hi4 hown hK hP 0 rfl rfl 0 (by decide) (hts (.fieldLink RX4 11 "AlibiRota$Tape" "bytes" "[B") (by decide +kernel)) (fun _ h9 => h9) rfl dX4_append_18 ?_
  refine lv_aload_n hx hb dX4_append_21 rfl (lv_at hl 1 rfl) ?_
  refine va_get (D := D) (ci := 4) (v := .int 16) (C := RX4) (T := TX4) (N := 8) hx hb hts hi4 hown hK hP 0 rfl rfl 1 (by decide) (hts (.fieldLink RX4 19 "AlibiRota$Tape" "length" "I") (by decide +kernel)) (fun _ h9 => h9) rfl dX4_append_22 ?_
  refine lv_iload_n hx hb dX4_append_25 rfl (lv_at hl 2 rfl) ?_
  refine lv_iload_n hx hb dX4_append_26 rfl (lv_at hl 0 rfl) ?_
  refine lv_ishr hx hb dX4_append_27 ?_
  refine lv_topi (fun v1 ev1 => ?_)
  refine lv_i2b (v := v1.toInt8.toInt32) hx hb dX4_append_28 rfl ?_
  refine va_bast hx hb hK hP hD hS 1 2 rfl rfl (inC 16 1200 (by decide)) dX4_append_29 (fun H locs hP hD hS => ?_)
  obtain ⟨f2, hP, hD⟩ : ∃ f9 : Nat → Int32, va_P D vwCl [(a, .inr (4, [.ref b, .int 16, .int 0, .int (-1), .int 0, .int 0, .int 0, .int 0])), (b, .inl (cB, 1200, .inl f9))] H ∧ va_D A [(a, .inr (4, [.ref b, .int 16, .int 0, .int (-1), .int 0, .int 0, .int 0, .int 0])), (b, .inl (cB, 1200, .inl f9))] := ⟨_, hP, hD⟩
  have hP : va_P D vwCl [(a, .inr (4, [.ref b, .int 16, .int 0, .int (-1), .int 0, .int 0, .int 0, .int 0])), (b, .inl (cB, 1200, .inl f2))] H := hP
  have hD : va_D A [(a, .inr (4, [.ref b, .int 16, .int 0, .int (-1), .int 0, .int 0, .int 0, .int 0])), (b, .inl (cB, 1200, .inl f2))] := hD
  refine lv_aload_n hx hb dX4_append_30 rfl (lv_at hl 1 rfl) ?_
  refine lv_dup hx hb dX4_append_31 rfl ?_
  refine va_get (D := D) (ci := 4) (v := .int 16) (C := RX4) (T := TX4) (N := 8) hx hb hts hi4 hown hK hP 0 rfl rfl 1 (by decide) (hts (.fieldLink RX4 19 "AlibiRota$Tape" "length" "I") (by decide +kernel)) (fun _ h9 => h9) rfl dX4_append_32 ?_
  refine lv_iconst (v := 1) hx hb dX4_append_35 (by decide) ?_
  refine lv_iadd hx hb dX4_append_36 ?_
  refine lv_topi (fun v3 ev3 => ?_)
  obtain rfl : v3 = 17 := ev3.trans (by decide)
  refine va_put (D := D) (ci := 4) (v := .int 17) (ty := .int) (C := RX4) (T := TX4) (N := 8) hx hb hts hi4 tyX4 tyX4_ok nmX4 hown hK hP hD hS 0 rfl rfl 1 (by decide) (hts (.fieldLink RX4 19 "AlibiRota$Tape" "length" "I") (by decide +kernel)) (fun _ h9 => h9) rfl (by decide +kernel) rfl rfl (Nat.le_of_ble_eq_true rfl) dX4_append_37 (fun H locs hP hD hS => ?_)
  have hP : va_P D vwCl [(a, .inr (4, [.ref b, .int 17, .int 0, .int (-1), .int 0, .int 0, .int 0, .int 0])), (b, .inl (cB, 1200, .inl f2))] H := hP
  have hD : va_D A [(a, .inr (4, [.ref b, .int 17, .int 0, .int (-1), .int 0, .int 0, .int 0, .int 0])), (b, .inl (cB, 1200, .inl f2))] := hD
  refine lv_iinc (v := 16) (lv' := [(2, .int 16), (0, .ref a), (1, .int p0)]) hx hb dX4_append_40 hl (k := 0) rfl (by decide) (by decide) rfl (fun ls hl => ?_)
  refine lv_goto (tgt := 3) hx hb dX4_append_43 (by decide) ?_
  refine lv_iload_n hx hb dX4_append_3 rfl (lv_at hl 0 rfl) ?_
  refine lv_if_lt (tgt := 46) hx hb dX4_append_4 (by decide) (fun c9 => absurd c9 (by decide)) (fun _ => ?_)
  refine lv_aload_n hx hb dX4_append_7 rfl (lv_at hl 1 rfl) ?_
  refine va_get (D := D) (ci := 4) (v := .int 17) (C := RX4) (T := TX4) (N := 8) hx hb hts hi4 hown hK hP 0 rfl rfl 1 (by decide) (hts (.fieldLink RX4 19 "AlibiRota$Tape" "length" "I") (by decide +kernel)) (fun _ h9 => h9) rfl dX4_append_8 ?_
  refine lv_sipush (v := 1200) hx hb dX4_append_11 (by decide) ?_
  refine lv_icmp_ge (tgt := 46) hx hb dX4_append_14 (by decide) (fun c9 => absurd c9 (by decide)) (fun _ => ?_)
  refine lv_aload_n hx hb dX4_append_17 rfl (lv_at hl 1 rfl) ?_
  refine va_get (D := D) (ci := 4) (v := .ref b) (C := RX4) (T := TX4) (N := 8) hx hb hts hi4 hown hK hP 0 rfl rfl 0 (by decide) (hts (.fieldLink RX4 11 "AlibiRota$Tape" "bytes" "[B") (by decide +kernel)) (fun _ h9 => h9) rfl dX4_append_18 ?_
  refine lv_aload_n hx hb dX4_append_21 rfl (lv_at hl 1 rfl) ?_
  refine va_get (D := D) (ci := 4) (v := .int 17) (C := RX4) (T := TX4) (N := 8) hx hb hts hi4 hown hK hP 0 rfl rfl 1 (by decide) (hts (.fieldLink RX4 19 "AlibiRota$Tape" "length" "I") (by decide +kernel)) (fun _ h9 => h9) rfl dX4_append_22 ?_
  refine lv_iload_n hx hb dX4_append_25 rfl (lv_at hl 2 rfl) ?_
  refine lv_iload_n hx hb dX4_append_26 rfl (lv_at hl 0 rfl) ?_
  refine lv_ishr hx hb dX4_append_27 ?_
  refine lv_topi (fun v4 ev4 => ?_)
  refine lv_i2b (v := v4.toInt8.toInt32) hx hb dX4_append_28 rfl ?_
  refine va_bast hx hb hK hP hD hS 1 2 rfl rfl (inC 17 1200 (by decide)) dX4_append_29 (fun H locs hP hD hS => ?_)
  obtain ⟨f5, hP, hD⟩ : ∃ f9 : Nat → Int32, va_P D vwCl [(a, .inr (4, [.ref b, .int 17, .int 0, .int (-1), .int 0, .int 0, .int 0, .int 0])), (b, .inl (cB, 1200, .inl f9))] H ∧ va_D A [(a, .inr (4, [.ref b, .int 17, .int 0, .int (-1), .int 0, .int 0, .int 0, .int 0])), (b, .inl (cB, 1200, .inl f9))] := ⟨_, hP, hD⟩
  have hP : va_P D vwCl [(a, .inr (4, [.ref b, .int 17, .int 0, .int (-1), .int 0, .int 0, .int 0, .int 0])), (b, .inl (cB, 1200, .inl f5))] H := hP
  have hD : va_D A [(a, .inr (4, [.ref b, .int 17, .int 0, .int (-1), .int 0, .int 0, .int 0, .int 0])), (b, .inl (cB, 1200, .inl f5))] := hD
  refine lv_aload_n hx hb dX4_append_30 rfl (lv_at hl 1 rfl) ?_
  refine lv_dup hx hb dX4_append_31 rfl ?_
  refine va_get (D := D) (ci := 4) (v := .int 17) (C := RX4) (T := TX4) (N := 8) hx hb hts hi4 hown hK hP 0 rfl rfl 1 (by decide) (hts (.fieldLink RX4 19 "AlibiRota$Tape" "length" "I") (by decide +kernel)) (fun _ h9 => h9) rfl dX4_append_32 ?_
  refine lv_iconst (v := 1) hx hb dX4_append_35 (by decide) ?_
  refine lv_iadd hx hb dX4_append_36 ?_
  refine lv_topi (fun v6 ev6 => ?_)
  obtain rfl : v6 = 18 := ev6.trans (by decide)
  refine va_put (D := D) (ci := 4) (v := .int 18) (ty := .int) (C := RX4) (T := TX4) (N := 8) hx hb hts hi4 tyX4 tyX4_ok nmX4 hown hK hP hD hS 0 rfl rfl 1 (by decide) (hts (.fieldLink RX4 19 "AlibiRota$Tape" "length" "I") (by decide +kernel)) (fun _ h9 => h9) rfl (by decide +kernel) rfl rfl (Nat.le_of_ble_eq_true rfl) dX4_append_37 (fun H locs hP hD hS => ?_)
  have hP : va_P D vwCl [(a, .inr (4, [.ref b, .int 18, .int 0, .int (-1), .int 0, .int 0, .int 0, .int 0])), (b, .inl (cB, 1200, .inl f5))] H := hP
  have hD : va_D A [(a, .inr (4, [.ref b, .int 18, .int 0, .int (-1), .int 0, .int 0, .int 0, .int 0])), (b, .inl (cB, 1200, .inl f5))] := hD
  refine lv_iinc (v := 8) (lv' := [(2, .int 8), (0, .ref a), (1, .int p0)]) hx hb dX4_append_40 hl (k := 0) rfl (by decide) (by decide) rfl (fun ls hl => ?_)
  refine lv_goto (tgt := 3) hx hb dX4_append_43 (by decide) ?_
  refine lv_iload_n hx hb dX4_append_3 rfl (lv_at hl 0 rfl) ?_
  refine lv_if_lt (tgt := 46) hx hb dX4_append_4 (by decide) (fun c9 => absurd c9 (by decide)) (fun _ => ?_)
  refine lv_aload_n hx hb dX4_append_7 rfl (lv_at hl 1 rfl) ?_
  refine va_get (D := D) (ci := 4) (v := .int 18) (C := RX4) (T := TX4) (N := 8) hx hb hts hi4 hown hK hP 0 rfl rfl 1 (by decide) (hts (.fieldLink RX4 19 "AlibiRota$Tape" "length" "I") (by decide +kernel)) (fun _ h9 => h9) rfl dX4_append_8 ?_
  refine lv_sipush (v := 1200) hx hb dX4_append_11 (by decide) ?_
  refine lv_icmp_ge (tgt := 46) hx hb dX4_append_14 (by decide) (fun c9 => absurd c9 (by decide)) (fun _ => ?_)
  refine lv_aload_n hx hb dX4_append_17 rfl (lv_at hl 1 rfl) ?_
  refine va_get (D := D) (ci := 4) (v := .ref b) (C := RX4) (T := TX4) (N := 8) hx hb hts hi4 hown hK hP 0 rfl rfl 0 (by decide) (hts (.fieldLink RX4 11 "AlibiRota$Tape" "bytes" "[B") (by decide +kernel)) (fun _ h9 => h9) rfl dX4_append_18 ?_
  refine lv_aload_n hx hb dX4_append_21 rfl (lv_at hl 1 rfl) ?_
  refine va_get (D := D) (ci := 4) (v := .int 18) (C := RX4) (T := TX4) (N := 8) hx hb hts hi4 hown hK hP 0 rfl rfl 1 (by decide) (hts (.fieldLink RX4 19 "AlibiRota$Tape" "length" "I") (by decide +kernel)) (fun _ h9 => h9) rfl dX4_append_22 ?_
  refine lv_iload_n hx hb dX4_append_25 rfl (lv_at hl 2 rfl) ?_
  refine lv_iload_n hx hb dX4_append_26 rfl (lv_at hl 0 rfl) ?_
  refine lv_ishr hx hb dX4_append_27 ?_
  refine lv_topi (fun v7 ev7 => ?_)
  refine lv_i2b (v := v7.toInt8.toInt32) hx hb dX4_append_28 rfl ?_
  refine va_bast hx hb hK hP hD hS 1 2 rfl rfl (inC 18 1200 (by decide)) dX4_append_29 (fun H locs hP hD hS => ?_)
  obtain ⟨f8, hP, hD⟩ : ∃ f9 : Nat → Int32, va_P D vwCl [(a, .inr (4, [.ref b, .int 18, .int 0, .int (-1), .int 0, .int 0, .int 0, .int 0])), (b, .inl (cB, 1200, .inl f9))] H ∧ va_D A [(a, .inr (4, [.ref b, .int 18, .int 0, .int (-1), .int 0, .int 0, .int 0, .int 0])), (b, .inl (cB, 1200, .inl f9))] := ⟨_, hP, hD⟩
  have hP : va_P D vwCl [(a, .inr (4, [.ref b, .int 18, .int 0, .int (-1), .int 0, .int 0, .int 0, .int 0])), (b, .inl (cB, 1200, .inl f8))] H := hP
  have hD : va_D A [(a, .inr (4, [.ref b, .int 18, .int 0, .int (-1), .int 0, .int 0, .int 0, .int 0])), (b, .inl (cB, 1200, .inl f8))] := hD
  refine lv_aload_n hx hb dX4_append_30 rfl (lv_at hl 1 rfl) ?_
  refine lv_dup hx hb dX4_append_31 rfl ?_
  refine va_get (D := D) (ci := 4) (v := .int 18) (C := RX4) (T := TX4) (N := 8) hx hb hts hi4 hown hK hP 0 rfl rfl 1 (by decide) (hts (.fieldLink RX4 19 "AlibiRota$Tape" "length" "I") (by decide +kernel)) (fun _ h9 => h9) rfl dX4_append_32 ?_
  refine lv_iconst (v := 1) hx hb dX4_append_35 (by decide) ?_
  refine lv_iadd hx hb dX4_append_36 ?_
  refine lv_topi (fun v9 ev9 => ?_)
  obtain rfl : v9 = 19 := ev9.trans (by decide)
  refine va_put (D := D) (ci := 4) (v := .int 19) (ty := .int) (C := RX4) (T := TX4) (N := 8) hx hb hts hi4 tyX4 tyX4_ok nmX4 hown hK hP hD hS 0 rfl rfl 1 (by decide) (hts (.fieldLink RX4 19 "AlibiRota$Tape" "length" "I") (by decide +kernel)) (fun _ h9 => h9) rfl (by decide +kernel) rfl rfl (Nat.le_of_ble_eq_true rfl) dX4_append_37 (fun H locs hP hD hS => ?_)
  have hP : va_P D vwCl [(a, .inr (4, [.ref b, .int 19, .int 0, .int (-1), .int 0, .int 0, .int 0, .int 0])), (b, .inl (cB, 1200, .inl f8))] H := hP
  have hD : va_D A [(a, .inr (4, [.ref b, .int 19, .int 0, .int (-1), .int 0, .int 0, .int 0, .int 0])), (b, .inl (cB, 1200, .inl f8))] := hD
  refine lv_iinc (v := 0) (lv' := [(2, .int 0), (0, .ref a), (1, .int p0)]) hx hb dX4_append_40 hl (k := 0) rfl (by decide) (by decide) rfl (fun ls hl => ?_)
  refine lv_goto (tgt := 3) hx hb dX4_append_43 (by decide) ?_
  refine lv_iload_n hx hb dX4_append_3 rfl (lv_at hl 0 rfl) ?_
  refine lv_if_lt (tgt := 46) hx hb dX4_append_4 (by decide) (fun c9 => absurd c9 (by decide)) (fun _ => ?_)
  refine lv_aload_n hx hb dX4_append_7 rfl (lv_at hl 1 rfl) ?_
  refine va_get (D := D) (ci := 4) (v := .int 19) (C := RX4) (T := TX4) (N := 8) hx hb hts hi4 hown hK hP 0 rfl rfl 1 (by decide) (hts (.fieldLink RX4 19 "AlibiRota$Tape" "length" "I") (by decide +kernel)) (fun _ h9 => h9) rfl dX4_append_8 ?_
  refine lv_sipush (v := 1200) hx hb dX4_append_11 (by decide) ?_
  refine lv_icmp_ge (tgt := 46) hx hb dX4_append_14 (by decide) (fun c9 => absurd c9 (by decide)) (fun _ => ?_)
  refine lv_aload_n hx hb dX4_append_17 rfl (lv_at hl 1 rfl) ?_
  refine va_get (D := D) (ci := 4) (v := .ref b) (C := RX4) (T := TX4) (N := 8) hx hb hts hi4 hown hK hP 0 rfl rfl 0 (by decide) (hts (.fieldLink RX4 11 "AlibiRota$Tape" "bytes" "[B") (by decide +kernel)) (fun _ h9 => h9) rfl dX4_append_18 ?_
  refine lv_aload_n hx hb dX4_append_21 rfl (lv_at hl 1 rfl) ?_
  refine va_get (D := D) (ci := 4) (v := .int 19) (C := RX4) (T := TX4) (N := 8) hx hb hts hi4 hown hK hP 0 rfl rfl 1 (by decide) (hts (.fieldLink RX4 19 "AlibiRota$Tape" "length" "I") (by decide +kernel)) (fun _ h9 => h9) rfl dX4_append_22 ?_
  refine lv_iload_n hx hb dX4_append_25 rfl (lv_at hl 2 rfl) ?_
  refine lv_iload_n hx hb dX4_append_26 rfl (lv_at hl 0 rfl) ?_
  refine lv_ishr hx hb dX4_append_27 ?_
  refine lv_topi (fun v10 ev10 => ?_)
  refine lv_i2b (v := v10.toInt8.toInt32) hx hb dX4_append_28 rfl ?_
  refine va_bast hx hb hK hP hD hS 1 2 rfl rfl (inC 19 1200 (by decide)) dX4_append_29 (fun H locs hP hD hS => ?_)
  obtain ⟨f11, hP, hD⟩ : ∃ f9 : Nat → Int32, va_P D vwCl [(a, .inr (4, [.ref b, .int 19, .int 0, .int (-1), .int 0, .int 0, .int 0, .int 0])), (b, .inl (cB, 1200, .inl f9))] H ∧ va_D A [(a, .inr (4, [.ref b, .int 19, .int 0, .int (-1), .int 0, .int 0, .int 0, .int 0])), (b, .inl (cB, 1200, .inl f9))] := ⟨_, hP, hD⟩
  have hP : va_P D vwCl [(a, .inr (4, [.ref b, .int 19, .int 0, .int (-1), .int 0, .int 0, .int 0, .int 0])), (b, .inl (cB, 1200, .inl f11))] H := hP
  have hD : va_D A [(a, .inr (4, [.ref b, .int 19, .int 0, .int (-1), .int 0, .int 0, .int 0, .int 0])), (b, .inl (cB, 1200, .inl f11))] := hD
  refine lv_aload_n hx hb dX4_append_30 rfl (lv_at hl 1 rfl) ?_
  refine lv_dup hx hb dX4_append_31 rfl ?_
  refine va_get (D := D) (ci := 4) (v := .int 19) (C := RX4) (T := TX4) (N := 8) hx hb hts hi4 hown hK hP 0 rfl rfl 1 (by decide) (hts (.fieldLink RX4 19 "AlibiRota$Tape" "length" "I") (by decide +kernel)) (fun _ h9 => h9) rfl dX4_append_32 ?_
  refine lv_iconst (v := 1) hx hb dX4_append_35 (by decide) ?_
  refine lv_iadd hx hb dX4_append_36 ?_
  refine lv_topi (fun v12 ev12 => ?_)
  obtain rfl : v12 = 20 := ev12.trans (by decide)
  refine va_put (D := D) (ci := 4) (v := .int 20) (ty := .int) (C := RX4) (T := TX4) (N := 8) hx hb hts hi4 tyX4 tyX4_ok nmX4 hown hK hP hD hS 0 rfl rfl 1 (by decide) (hts (.fieldLink RX4 19 "AlibiRota$Tape" "length" "I") (by decide +kernel)) (fun _ h9 => h9) rfl (by decide +kernel) rfl rfl (Nat.le_of_ble_eq_true rfl) dX4_append_37 (fun H locs hP hD hS => ?_)
  have hP : va_P D vwCl [(a, .inr (4, [.ref b, .int 20, .int 0, .int (-1), .int 0, .int 0, .int 0, .int 0])), (b, .inl (cB, 1200, .inl f11))] H := hP
  have hD : va_D A [(a, .inr (4, [.ref b, .int 20, .int 0, .int (-1), .int 0, .int 0, .int 0, .int 0])), (b, .inl (cB, 1200, .inl f11))] := hD
  refine lv_iinc (v := (-8)) (lv' := [(2, .int (-8)), (0, .ref a), (1, .int p0)]) hx hb dX4_append_40 hl (k := 0) rfl (by decide) (by decide) rfl (fun ls hl => ?_)
  refine lv_goto (tgt := 3) hx hb dX4_append_43 (by decide) ?_
  refine lv_iload_n hx hb dX4_append_3 rfl (lv_at hl 0 rfl) ?_
  refine lv_if_lt (tgt := 46) hx hb dX4_append_4 (by decide) (fun _ => ?_) (fun c9 => absurd (by decide) c9)
  have hP9 := hP.sub (ws' := [(a, .inr (4, [.ref b, .int 20, .int 0, .int (-1), .int 0, .int 0, .int 0, .int 0])), (b, .inl (cB, 1200, .inl f11))]) [0, 1] rfl
  have hD9 := hD.sub (ws' := [(a, .inr (4, [.ref b, .int 20, .int 0, .int (-1), .int 0, .int 0, .int 0, .int 0])), (b, .inl (cB, 1200, .inl f11))]) [0, 1] (by decide +kernel) rfl
  exact W.vret hx hb hr (fun t ht _ => ⟨⟨f11, rfl, trivial, by rw [ht]; exact hP9, hD9⟩, hS.F ht⟩) hS.2.2 dX4_append_46

set_option maxHeartbeats 4000000 in
set_option maxRecDepth 100000 in
theorem kx_feed (l : Launch) (D : va_G) (cI cZ cB cJ cR : ClassId) (h : Nat) (x : Nat → Nat) (b : Nat) (sz : Nat) (p0 p1 p2 p3 p4 : Int32) : Met l yX5_feed wsX5_feed ({ frames := 1, cells := 0, slots := 0, locals := 22 }) (va_Pc [.ref h, .int p0, .int p1, .int p2, .int p3, .int p4] (pQ D cI cZ cB cJ cR [(h, .inr (5, [.ref (x 0), .ref (x 1), .ref (x 2), .ref (x 3), .ref (x 4), .ref (x 5), .ref (x 6), .ref (x 7)])), (x 0, .inr (4, [.ref b, .int 0, .int 0, .int (-1), .int 0, .int 0, .int 0, .int 0])), (b, .inl (cB, 1200, .inl (fun _ => 0)))] sz)) (va_Qi (fun (r : Int32) (_ : Unit) => r = 20) (fun (_ : Unit) _ => True) (va_A [(h, .inr (5, [.ref (x 0), .ref (x 1), .ref (x 2), .ref (x 3), .ref (x 4), .ref (x 5), .ref (x 6), .ref (x 7)])), (x 0, .inr (4, [.ref b, .int 0, .int 0, .int (-1), .int 0, .int 0, .int 0, .int 0])), (b, .inl (cB, 1200, .inl (fun _ => 0)))] sz)) 0 0 (va_A [(h, .inr (5, [.ref (x 0), .ref (x 1), .ref (x 2), .ref (x 3), .ref (x 4), .ref (x 5), .ref (x 6), .ref (x 7)])), (x 0, .inr (4, [.ref b, .int 0, .int 0, .int (-1), .int 0, .int 0, .int 0, .int 0])), (b, .inl (cB, 1200, .inl (fun _ => 0)))] sz) := by
  refine Met.ofW (cc := cX5_feed) (maxL := 6) (ret := (some .int)) (by decide) rfl ?_
  intro p e s m args below meth c s₁ B hml hv
  obtain ⟨rfl, hsz, hP, hk, hD0⟩ := hv
  have hK := hk.1
  have hz := hk.2.1
  have hx := B.exec
  have hb := B.bytes
  have hr := B.returns
  have hts := atoms_spec (ws := wsX5_feed) B.pre
  have hown : s.vm.findClass RX5 = some m.cls := findClass_of_methodNamed B.named
  have hlocks := B.notSynchronized
  have hi4 : ∀ w ∈ wsX40, w ∈ wsX5_feed := by decide +kernel
  have hi5 : ∀ w ∈ wsX50, w ∈ wsX5_feed := by decide +kernel
  subst hsz
  have hD := hD0.self (sz := s.heap.size)
  generalize hAe : va_A [(h, .inr (5, [.ref (x 0), .ref (x 1), .ref (x 2), .ref (x 3), .ref (x 4), .ref (x 5), .ref (x 6), .ref (x 7)])), (x 0, .inr (4, [.ref b, .int 0, .int 0, .int (-1), .int 0, .int 0, .int 0, .int 0])), (b, .inl (cB, 1200, .inl (fun _ => 0)))] s.heap.size = A at hD ⊢
  have hA : ∀ q : Nat, s.heap.size ≤ q → A q := fun q h => by rw [← hAe]; exact Or.inr h
  have hS : va_S A s.heap s.heap [] := va_S.rf
  have hP : va_P D vwCl [(h, .inr (5, [.ref (x 0), .ref (x 1), .ref (x 2), .ref (x 3), .ref (x 4), .ref (x 5), .ref (x 6), .ref (x 7)])), (x 0, .inr (4, [.ref b, .int 0, .int 0, .int (-1), .int 0, .int 0, .int 0, .int 0])), (b, .inl (cB, 1200, .inl (fun _ => 0)))] s.heap := hP
  have hl := lv_entry ([.ref h, .int p0, .int p1, .int p2, .int p3, .int p4]) (n := 6) (Nat.le_of_ble_eq_true rfl)
  rw [lg_entry_eq]
  generalize (lg_sl ([.ref h, .int p0, .int p1, .int p2, .int p3, .int p4]) ++ List.replicate (6 - (lg_sl ([.ref h, .int p0, .int p1, .int p2, .int p3, .int p4])).length) Slot.unset).toArray = ls at hl ⊢
  have hl : lv_has ls 6 [(0, .ref h), (1, .int p0), (2, .int p1), (3, .int p2), (4, .int p3), (5, .int p4)] := hl
  refine lv_aload_n hx hb dX5_feed_0 rfl (lv_at hl 0 rfl) ?_
  refine va_get (D := D) (ci := 5) (v := .ref (x 0)) (C := RX5) (T := TX5) (N := 8) hx hb hts hi5 hown hK hP 0 rfl rfl 0 (by decide) (hts (.fieldLink RX5 10 "AlibiRota" "tape" "LAlibiRota$Tape;") (by decide +kernel)) (fun _ h9 => h9) rfl dX5_feed_1 ?_
  have hPc := hP.sub (ws' := [(x 0, .inr (4, [.ref b, .int 0, .int 0, .int (-1), .int 0, .int 0, .int 0, .int 0]))]) [1] rfl
  refine vp_callSi (va_Run.run (va_runVN (As := []) (rest := []) ⟨hx, hb, hml, hown, hts⟩ (k_hasRoom l D cI cZ cB cJ cR (x 0) b) ⟨va_cnB 0 hts ggX5_feed_X4_hasRoom rfl rfl rfl (hz _ zw_RX5_55) (hts (.initialized RX4) (by decide +kernel)) (by decide +kernel) ⟨Nat.le_of_ble_eq_true rfl, Nat.le_of_ble_eq_true rfl⟩, hts (.instanceMethod yX4_hasRoom) (by decide +kernel), hts (.selects RX4 yX4_hasRoom yX4_hasRoom) (by decide +kernel)⟩ ⟨fbS, va_recv hK hPc (ci := 4) (q0 := 0) rfl rfl, pS_at hPc hk⟩ rfl rfl hl.1 rfl (lv_room (Nat.le_of_ble_eq_true rfl)) dX5_feed_4 ⟨show 0 ≤ 0 by decide, show 0 ≤ 0 by decide⟩)) (fun r1 hr1 => ?_)
  obtain rfl : r1 = 1 := hr1
  refine lv_if_ne (tgt := 12) hx hb dX5_feed_7 (by decide) (fun _ => ?_) (fun c9 => absurd c9 (by decide))
  refine lv_aload_n hx hb dX5_feed_12 rfl (lv_at hl 0 rfl) ?_
  refine va_get (D := D) (ci := 5) (v := .ref (x 0)) (C := RX5) (T := TX5) (N := 8) hx hb hts hi5 hown hK hP 0 rfl rfl 0 (by decide) (hts (.fieldLink RX5 10 "AlibiRota" "tape" "LAlibiRota$Tape;") (by decide +kernel)) (fun _ h9 => h9) rfl dX5_feed_13 ?_
  refine lv_iload_n hx hb dX5_feed_16 rfl (lv_at hl 1 rfl) ?_
  have hPc := hP.sub (ws' := [(x 0, .inr (4, [.ref b, .int 0, .int 0, .int (-1), .int 0, .int 0, .int 0, .int 0])), (b, .inl (cB, 1200, .inl (fun _ => 0)))]) [1, 2] rfl
  have hDc := hD.sub (ws' := [(x 0, .inr (4, [.ref b, .int 0, .int 0, .int (-1), .int 0, .int 0, .int 0, .int 0])), (b, .inl (cB, 1200, .inl (fun _ => 0)))]) [1, 2] (by decide +kernel) rfl
  have hFc := va_free (wc := [(x 0, .inr (4, [.ref b, .int 0, .int 0, .int (-1), .int 0, .int 0, .int 0, .int 0])), (b, .inl (cB, 1200, .inl (fun _ => 0)))]) hD hS hA [1, 2] rfl
  refine va_callv (va_runVN (As := [.int p0]) (rest := []) ⟨hx, hb, hml, hown, hts⟩ (k_append0 l D cI cZ cB cJ cR (x 0) b (fun _ => 0) (s.heap.size) p0) ⟨va_cnB 1 hts ggX5_feed_X4_append rfl rfl rfl (hz _ zw_RX5_59) (hts (.initialized RX4) (by decide +kernel)) (by decide +kernel) ⟨Nat.le_of_ble_eq_true rfl, Nat.le_of_ble_eq_true rfl⟩, hts (.instanceMethod yX4_append) (by decide +kernel), hts (.selects RX4 yX4_append yX4_append) (by decide +kernel)⟩ ⟨fbQ, va_recv hK hPc (ci := 4) (q0 := 0) rfl rfl, pQ_at hPc hk hDc⟩ rfl rfl hl.1 rfl (lv_room (Nat.le_of_ble_eq_true rfl)) dX5_feed_17 ⟨show 0 ≤ 0 by decide, show 0 ≤ 0 by decide⟩) hS (fun q _ h => hFc q h) hFc (fun u3 t H1 locs ht hvm hw hB hz1 hk1 hS => ?_)
  obtain ⟨hP1, hD1⟩ := hB
  rw [ht] at hP1
  obtain ⟨hP, hD⟩ := va_join (wr := [(h, .inr (5, [.ref (x 0), .ref (x 1), .ref (x 2), .ref (x 3), .ref (x 4), .ref (x 5), .ref (x 6), .ref (x 7)]))]) (w1 := [(x 0, .inr (4, [.ref b, .int 4, .int 0, .int (-1), .int 0, .int 0, .int 0, .int 0])), (b, .inl (cB, 1200, .inl u3))]) hP hD [1, 2] [0] rfl rfl (by decide +kernel) (by decide +kernel) hk1 hFc hP1 hD1
  generalize H1 = H at hP hS ⊢
  have hP : va_P D vwCl [(h, .inr (5, [.ref (x 0), .ref (x 1), .ref (x 2), .ref (x 3), .ref (x 4), .ref (x 5), .ref (x 6), .ref (x 7)])), (x 0, .inr (4, [.ref b, .int 4, .int 0, .int (-1), .int 0, .int 0, .int 0, .int 0])), (b, .inl (cB, 1200, .inl u3))] H := hP
  have hD : va_D A [(h, .inr (5, [.ref (x 0), .ref (x 1), .ref (x 2), .ref (x 3), .ref (x 4), .ref (x 5), .ref (x 6), .ref (x 7)])), (x 0, .inr (4, [.ref b, .int 4, .int 0, .int (-1), .int 0, .int 0, .int 0, .int 0])), (b, .inl (cB, 1200, .inl u3))] := hD
  refine lv_aload_n hx hb dX5_feed_20 rfl (lv_at hl 0 rfl) ?_
  refine va_get (D := D) (ci := 5) (v := .ref (x 0)) (C := RX5) (T := TX5) (N := 8) hx hb hts hi5 hown hK hP 0 rfl rfl 0 (by decide) (hts (.fieldLink RX5 10 "AlibiRota" "tape" "LAlibiRota$Tape;") (by decide +kernel)) (fun _ h9 => h9) rfl dX5_feed_21 ?_
  refine lv_iload_n hx hb dX5_feed_24 rfl (lv_at hl 2 rfl) ?_
  have hPc := hP.sub (ws' := [(x 0, .inr (4, [.ref b, .int 4, .int 0, .int (-1), .int 0, .int 0, .int 0, .int 0])), (b, .inl (cB, 1200, .inl u3))]) [1, 2] rfl
  have hDc := hD.sub (ws' := [(x 0, .inr (4, [.ref b, .int 4, .int 0, .int (-1), .int 0, .int 0, .int 0, .int 0])), (b, .inl (cB, 1200, .inl u3))]) [1, 2] (by decide +kernel) rfl
  have hFc := va_free (wc := [(x 0, .inr (4, [.ref b, .int 4, .int 0, .int (-1), .int 0, .int 0, .int 0, .int 0])), (b, .inl (cB, 1200, .inl u3))]) hD hS hA [1, 2] rfl
  refine va_callv (va_runVN (As := [.int p1]) (rest := []) ⟨hx, hb, hml, hown, hts⟩ (k_append4 l D cI cZ cB cJ cR (x 0) b u3 (H.size) p1) ⟨va_cnB 1 hts ggX5_feed_X4_append rfl rfl rfl (hz _ zw_RX5_59) (hts (.initialized RX4) (by decide +kernel)) (by decide +kernel) ⟨Nat.le_of_ble_eq_true rfl, Nat.le_of_ble_eq_true rfl⟩, hts (.instanceMethod yX4_append) (by decide +kernel), hts (.selects RX4 yX4_append yX4_append) (by decide +kernel)⟩ ⟨fbQ, va_recv hK hPc (ci := 4) (q0 := 0) rfl rfl, pQ_at hPc hk hDc⟩ rfl rfl hl.1 rfl (lv_room (Nat.le_of_ble_eq_true rfl)) dX5_feed_25 ⟨show 0 ≤ 0 by decide, show 0 ≤ 0 by decide⟩) hS (fun q _ h => hFc q h) hFc (fun u5 t H1 locs ht hvm hw hB hz1 hk1 hS => ?_)
  obtain ⟨hP1, hD1⟩ := hB
  rw [ht] at hP1
  obtain ⟨hP, hD⟩ := va_join (wr := [(h, .inr (5, [.ref (x 0), .ref (x 1), .ref (x 2), .ref (x 3), .ref (x 4), .ref (x 5), .ref (x 6), .ref (x 7)]))]) (w1 := [(x 0, .inr (4, [.ref b, .int 8, .int 0, .int (-1), .int 0, .int 0, .int 0, .int 0])), (b, .inl (cB, 1200, .inl u5))]) hP hD [1, 2] [0] rfl rfl (by decide +kernel) (by decide +kernel) hk1 hFc hP1 hD1
  generalize H1 = H at hP hS ⊢
  have hP : va_P D vwCl [(h, .inr (5, [.ref (x 0), .ref (x 1), .ref (x 2), .ref (x 3), .ref (x 4), .ref (x 5), .ref (x 6), .ref (x 7)])), (x 0, .inr (4, [.ref b, .int 8, .int 0, .int (-1), .int 0, .int 0, .int 0, .int 0])), (b, .inl (cB, 1200, .inl u5))] H := hP
  have hD : va_D A [(h, .inr (5, [.ref (x 0), .ref (x 1), .ref (x 2), .ref (x 3), .ref (x 4), .ref (x 5), .ref (x 6), .ref (x 7)])), (x 0, .inr (4, [.ref b, .int 8, .int 0, .int (-1), .int 0, .int 0, .int 0, .int 0])), (b, .inl (cB, 1200, .inl u5))] := hD
  refine lv_aload_n hx hb dX5_feed_28 rfl (lv_at hl 0 rfl) ?_
  refine va_get (D := D) (ci := 5) (v := .ref (x 0)) (C := RX5) (T := TX5) (N := 8) hx hb hts hi5 hown hK hP 0 rfl rfl 0 (by decide) (hts (.fieldLink RX5 10 "AlibiRota" "tape" "LAlibiRota$Tape;") (by decide +kernel)) (fun _ h9 => h9) rfl dX5_feed_29 ?_
  refine lv_iload_n hx hb dX5_feed_32 rfl (lv_at hl 3 rfl) ?_
  have hPc := hP.sub (ws' := [(x 0, .inr (4, [.ref b, .int 8, .int 0, .int (-1), .int 0, .int 0, .int 0, .int 0])), (b, .inl (cB, 1200, .inl u5))]) [1, 2] rfl
  have hDc := hD.sub (ws' := [(x 0, .inr (4, [.ref b, .int 8, .int 0, .int (-1), .int 0, .int 0, .int 0, .int 0])), (b, .inl (cB, 1200, .inl u5))]) [1, 2] (by decide +kernel) rfl
  have hFc := va_free (wc := [(x 0, .inr (4, [.ref b, .int 8, .int 0, .int (-1), .int 0, .int 0, .int 0, .int 0])), (b, .inl (cB, 1200, .inl u5))]) hD hS hA [1, 2] rfl
  refine va_callv (va_runVN (As := [.int p2]) (rest := []) ⟨hx, hb, hml, hown, hts⟩ (k_append8 l D cI cZ cB cJ cR (x 0) b u5 (H.size) p2) ⟨va_cnB 1 hts ggX5_feed_X4_append rfl rfl rfl (hz _ zw_RX5_59) (hts (.initialized RX4) (by decide +kernel)) (by decide +kernel) ⟨Nat.le_of_ble_eq_true rfl, Nat.le_of_ble_eq_true rfl⟩, hts (.instanceMethod yX4_append) (by decide +kernel), hts (.selects RX4 yX4_append yX4_append) (by decide +kernel)⟩ ⟨fbQ, va_recv hK hPc (ci := 4) (q0 := 0) rfl rfl, pQ_at hPc hk hDc⟩ rfl rfl hl.1 rfl (lv_room (Nat.le_of_ble_eq_true rfl)) dX5_feed_33 ⟨show 0 ≤ 0 by decide, show 0 ≤ 0 by decide⟩) hS (fun q _ h => hFc q h) hFc (fun u7 t H1 locs ht hvm hw hB hz1 hk1 hS => ?_)
  obtain ⟨hP1, hD1⟩ := hB
  rw [ht] at hP1
  obtain ⟨hP, hD⟩ := va_join (wr := [(h, .inr (5, [.ref (x 0), .ref (x 1), .ref (x 2), .ref (x 3), .ref (x 4), .ref (x 5), .ref (x 6), .ref (x 7)]))]) (w1 := [(x 0, .inr (4, [.ref b, .int 12, .int 0, .int (-1), .int 0, .int 0, .int 0, .int 0])), (b, .inl (cB, 1200, .inl u7))]) hP hD [1, 2] [0] rfl rfl (by decide +kernel) (by decide +kernel) hk1 hFc hP1 hD1
  generalize H1 = H at hP hS ⊢
  have hP : va_P D vwCl [(h, .inr (5, [.ref (x 0), .ref (x 1), .ref (x 2), .ref (x 3), .ref (x 4), .ref (x 5), .ref (x 6), .ref (x 7)])), (x 0, .inr (4, [.ref b, .int 12, .int 0, .int (-1), .int 0, .int 0, .int 0, .int 0])), (b, .inl (cB, 1200, .inl u7))] H := hP
  have hD : va_D A [(h, .inr (5, [.ref (x 0), .ref (x 1), .ref (x 2), .ref (x 3), .ref (x 4), .ref (x 5), .ref (x 6), .ref (x 7)])), (x 0, .inr (4, [.ref b, .int 12, .int 0, .int (-1), .int 0, .int 0, .int 0, .int 0])), (b, .inl (cB, 1200, .inl u7))] := hD
  refine lv_aload_n hx hb dX5_feed_36 rfl (lv_at hl 0 rfl) ?_
  refine va_get (D := D) (ci := 5) (v := .ref (x 0)) (C := RX5) (T := TX5) (N := 8) hx hb hts hi5 hown hK hP 0 rfl rfl 0 (by decide) (hts (.fieldLink RX5 10 "AlibiRota" "tape" "LAlibiRota$Tape;") (by decide +kernel)) (fun _ h9 => h9) rfl dX5_feed_37 ?_
  refine lv_iload hx hb dX5_feed_40 (lv_at hl 4 rfl) ?_
  have hPc := hP.sub (ws' := [(x 0, .inr (4, [.ref b, .int 12, .int 0, .int (-1), .int 0, .int 0, .int 0, .int 0])), (b, .inl (cB, 1200, .inl u7))]) [1, 2] rfl
  have hDc := hD.sub (ws' := [(x 0, .inr (4, [.ref b, .int 12, .int 0, .int (-1), .int 0, .int 0, .int 0, .int 0])), (b, .inl (cB, 1200, .inl u7))]) [1, 2] (by decide +kernel) rfl
  have hFc := va_free (wc := [(x 0, .inr (4, [.ref b, .int 12, .int 0, .int (-1), .int 0, .int 0, .int 0, .int 0])), (b, .inl (cB, 1200, .inl u7))]) hD hS hA [1, 2] rfl
  refine va_callv (va_runVN (As := [.int p3]) (rest := []) ⟨hx, hb, hml, hown, hts⟩ (k_append12 l D cI cZ cB cJ cR (x 0) b u7 (H.size) p3) ⟨va_cnB 1 hts ggX5_feed_X4_append rfl rfl rfl (hz _ zw_RX5_59) (hts (.initialized RX4) (by decide +kernel)) (by decide +kernel) ⟨Nat.le_of_ble_eq_true rfl, Nat.le_of_ble_eq_true rfl⟩, hts (.instanceMethod yX4_append) (by decide +kernel), hts (.selects RX4 yX4_append yX4_append) (by decide +kernel)⟩ ⟨fbQ, va_recv hK hPc (ci := 4) (q0 := 0) rfl rfl, pQ_at hPc hk hDc⟩ rfl rfl hl.1 rfl (lv_room (Nat.le_of_ble_eq_true rfl)) dX5_feed_42 ⟨show 0 ≤ 0 by decide, show 0 ≤ 0 by decide⟩) hS (fun q _ h => hFc q h) hFc (fun u9 t H1 locs ht hvm hw hB hz1 hk1 hS => ?_)
  obtain ⟨hP1, hD1⟩ := hB
  rw [ht] at hP1
  obtain ⟨hP, hD⟩ := va_join (wr := [(h, .inr (5, [.ref (x 0), .ref (x 1), .ref (x 2), .ref (x 3), .ref (x 4), .ref (x 5), .ref (x 6), .ref (x 7)]))]) (w1 := [(x 0, .inr (4, [.ref b, .int 16, .int 0, .int (-1), .int 0, .int 0, .int 0, .int 0])), (b, .inl (cB, 1200, .inl u9))]) hP hD [1, 2] [0] rfl rfl (by decide +kernel) (by decide +kernel) hk1 hFc hP1 hD1
  generalize H1 = H at hP hS ⊢
  have hP : va_P D vwCl [(h, .inr (5, [.ref (x 0), .ref (x 1), .ref (x 2), .ref (x 3), .ref (x 4), .ref (x 5), .ref (x 6), .ref (x 7)])), (x 0, .inr (4, [.ref b, .int 16, .int 0, .int (-1), .int 0, .int 0, .int 0, .int 0])), (b, .inl (cB, 1200, .inl u9))] H := hP
  have hD : va_D A [(h, .inr (5, [.ref (x 0), .ref (x 1), .ref (x 2), .ref (x 3), .ref (x 4), .ref (x 5), .ref (x 6), .ref (x 7)])), (x 0, .inr (4, [.ref b, .int 16, .int 0, .int (-1), .int 0, .int 0, .int 0, .int 0])), (b, .inl (cB, 1200, .inl u9))] := hD
  refine lv_aload_n hx hb dX5_feed_45 rfl (lv_at hl 0 rfl) ?_
  refine va_get (D := D) (ci := 5) (v := .ref (x 0)) (C := RX5) (T := TX5) (N := 8) hx hb hts hi5 hown hK hP 0 rfl rfl 0 (by decide) (hts (.fieldLink RX5 10 "AlibiRota" "tape" "LAlibiRota$Tape;") (by decide +kernel)) (fun _ h9 => h9) rfl dX5_feed_46 ?_
  refine lv_iload hx hb dX5_feed_49 (lv_at hl 5 rfl) ?_
  have hPc := hP.sub (ws' := [(x 0, .inr (4, [.ref b, .int 16, .int 0, .int (-1), .int 0, .int 0, .int 0, .int 0])), (b, .inl (cB, 1200, .inl u9))]) [1, 2] rfl
  have hDc := hD.sub (ws' := [(x 0, .inr (4, [.ref b, .int 16, .int 0, .int (-1), .int 0, .int 0, .int 0, .int 0])), (b, .inl (cB, 1200, .inl u9))]) [1, 2] (by decide +kernel) rfl
  have hFc := va_free (wc := [(x 0, .inr (4, [.ref b, .int 16, .int 0, .int (-1), .int 0, .int 0, .int 0, .int 0])), (b, .inl (cB, 1200, .inl u9))]) hD hS hA [1, 2] rfl
  refine va_callv (va_runVN (As := [.int p4]) (rest := []) ⟨hx, hb, hml, hown, hts⟩ (k_append16 l D cI cZ cB cJ cR (x 0) b u9 (H.size) p4) ⟨va_cnB 1 hts ggX5_feed_X4_append rfl rfl rfl (hz _ zw_RX5_59) (hts (.initialized RX4) (by decide +kernel)) (by decide +kernel) ⟨Nat.le_of_ble_eq_true rfl, Nat.le_of_ble_eq_true rfl⟩, hts (.instanceMethod yX4_append) (by decide +kernel), hts (.selects RX4 yX4_append yX4_append) (by decide +kernel)⟩ ⟨fbQ, va_recv hK hPc (ci := 4) (q0 := 0) rfl rfl, pQ_at hPc hk hDc⟩ rfl rfl hl.1 rfl (lv_room (Nat.le_of_ble_eq_true rfl)) dX5_feed_51 ⟨show 0 ≤ 0 by decide, show 0 ≤ 0 by decide⟩) hS (fun q _ h => hFc q h) hFc (fun u11 t H1 locs ht hvm hw hB hz1 hk1 hS => ?_)
  obtain ⟨hP1, hD1⟩ := hB
  rw [ht] at hP1
  obtain ⟨hP, hD⟩ := va_join (wr := [(h, .inr (5, [.ref (x 0), .ref (x 1), .ref (x 2), .ref (x 3), .ref (x 4), .ref (x 5), .ref (x 6), .ref (x 7)]))]) (w1 := [(x 0, .inr (4, [.ref b, .int 20, .int 0, .int (-1), .int 0, .int 0, .int 0, .int 0])), (b, .inl (cB, 1200, .inl u11))]) hP hD [1, 2] [0] rfl rfl (by decide +kernel) (by decide +kernel) hk1 hFc hP1 hD1
  generalize H1 = H at hP hS ⊢
  have hP : va_P D vwCl [(h, .inr (5, [.ref (x 0), .ref (x 1), .ref (x 2), .ref (x 3), .ref (x 4), .ref (x 5), .ref (x 6), .ref (x 7)])), (x 0, .inr (4, [.ref b, .int 20, .int 0, .int (-1), .int 0, .int 0, .int 0, .int 0])), (b, .inl (cB, 1200, .inl u11))] H := hP
  have hD : va_D A [(h, .inr (5, [.ref (x 0), .ref (x 1), .ref (x 2), .ref (x 3), .ref (x 4), .ref (x 5), .ref (x 6), .ref (x 7)])), (x 0, .inr (4, [.ref b, .int 20, .int 0, .int (-1), .int 0, .int 0, .int 0, .int 0])), (b, .inl (cB, 1200, .inl u11))] := hD
  refine lv_aload_n hx hb dX5_feed_54 rfl (lv_at hl 0 rfl) ?_
  refine va_get (D := D) (ci := 5) (v := .ref (x 0)) (C := RX5) (T := TX5) (N := 8) hx hb hts hi5 hown hK hP 0 rfl rfl 0 (by decide) (hts (.fieldLink RX5 10 "AlibiRota" "tape" "LAlibiRota$Tape;") (by decide +kernel)) (fun _ h9 => h9) rfl dX5_feed_55 ?_
  refine va_getN (D := D) (ci := 4) (v := .int 20) (C := RX4) (T := TX4) (N := 8) hx hb hts hi4 hown hK hP 1 rfl rfl 1 (by decide) (va_Nw.use rfl (hz _ zw_RX5_63)) (fun _ h9 => h9) rfl dX5_feed_58 ?_
  exact W.iret (v := 20) hx hb hr (fun t ht _ => ⟨⟨20, (), rfl, rfl, trivial⟩, hS.F ht⟩) hS.2.2 dX5_feed_61

set_option maxHeartbeats 4000000 in
set_option maxRecDepth 100000 in
theorem kx_end (l : Launch) (D : va_G) (cI cZ cB cJ cR : ClassId) (h : Nat) (x : Nat → Nat) (b : Nat) (sz : Nat) (p0 : Int32) : Met l yX5_end wsX5_end ({ frames := 0, cells := 0, slots := 0, locals := 0 }) (va_Pc [.ref h, .int p0] (pQ D cI cZ cB cJ cR [(h, .inr (5, [.ref (x 0), .ref (x 1), .ref (x 2), .ref (x 3), .ref (x 4), .ref (x 5), .ref (x 6), .ref (x 7)])), (x 0, .inr (4, [.ref b, .int 0, .int 0, .int (-1), .int 0, .int 0, .int 0, .int 0]))] sz)) (va_Qi (fun (r : Int32) (_ : Unit) => r = aEnd p0) (fun (_ : Unit) _ => True) (va_A [(h, .inr (5, [.ref (x 0), .ref (x 1), .ref (x 2), .ref (x 3), .ref (x 4), .ref (x 5), .ref (x 6), .ref (x 7)])), (x 0, .inr (4, [.ref b, .int 0, .int 0, .int (-1), .int 0, .int 0, .int 0, .int 0]))] sz)) 0 0 (va_A [(h, .inr (5, [.ref (x 0), .ref (x 1), .ref (x 2), .ref (x 3), .ref (x 4), .ref (x 5), .ref (x 6), .ref (x 7)])), (x 0, .inr (4, [.ref b, .int 0, .int 0, .int (-1), .int 0, .int 0, .int 0, .int 0]))] sz) := by
  refine Met.ofW (cc := cX5_end) (maxL := 2) (ret := (some .int)) (by decide) rfl ?_
  intro p e s m args below meth c s₁ B hml hv
  obtain ⟨rfl, hsz, hP, hk, hD0⟩ := hv
  have hK := hk.1
  have hz := hk.2.1
  have hx := B.exec
  have hb := B.bytes
  have hr := B.returns
  have hts := atoms_spec (ws := wsX5_end) B.pre
  have hown : s.vm.findClass RX5 = some m.cls := findClass_of_methodNamed B.named
  have hlocks := B.notSynchronized
  have hi4 : ∀ w ∈ wsX40, w ∈ wsX5_end := by decide +kernel
  have hi5 : ∀ w ∈ wsX50, w ∈ wsX5_end := by decide +kernel
  subst hsz
  have hD := hD0.self (sz := s.heap.size)
  generalize hAe : va_A [(h, .inr (5, [.ref (x 0), .ref (x 1), .ref (x 2), .ref (x 3), .ref (x 4), .ref (x 5), .ref (x 6), .ref (x 7)])), (x 0, .inr (4, [.ref b, .int 0, .int 0, .int (-1), .int 0, .int 0, .int 0, .int 0]))] s.heap.size = A at hD ⊢
  have hA : ∀ q : Nat, s.heap.size ≤ q → A q := fun q h => by rw [← hAe]; exact Or.inr h
  have hS : va_S A s.heap s.heap [] := va_S.rf
  have hP : va_P D vwCl [(h, .inr (5, [.ref (x 0), .ref (x 1), .ref (x 2), .ref (x 3), .ref (x 4), .ref (x 5), .ref (x 6), .ref (x 7)])), (x 0, .inr (4, [.ref b, .int 0, .int 0, .int (-1), .int 0, .int 0, .int 0, .int 0]))] s.heap := hP
  have hl := lv_entry ([.ref h, .int p0]) (n := 2) (Nat.le_of_ble_eq_true rfl)
  rw [lg_entry_eq]
  generalize (lg_sl ([.ref h, .int p0]) ++ List.replicate (2 - (lg_sl ([.ref h, .int p0])).length) Slot.unset).toArray = ls at hl ⊢
  have hl : lv_has ls 2 [(0, .ref h), (1, .int p0)] := hl
  refine lv_iload_n hx hb dX5_end_0 rfl (lv_at hl 1 rfl) ?_
  refine lv_if_lt (tgt := 15) hx hb dX5_end_1 (by decide) (fun c1 => ?_) (fun c1 => ?_)
  · skip
    refine lv_iconst (v := (-1)) hx hb dX5_end_15 (by decide) ?_
    exact W.iret (v := (-1)) hx hb hr (fun t ht _ => ⟨⟨(-1), (), rfl, (by (try simp only [lg_cmp_lt, lg_cmp_ge, lg_cmp_gt, lg_cmp_le, lg_cmp_eq, Int64.lt_iff_toInt_lt, Int64.le_iff_toInt_le, Int32.lt_iff_toInt_lt, Int32.le_iff_toInt_le, eqT32, eqT64, Int32.toInt_toInt64, Int64.reduceToInt, Int32.reduceToInt] at c1); (try unfold aEnd); (try simp only [lg_cmp_lt, lg_cmp_ge, lg_cmp_gt, lg_cmp_le, lg_cmp_eq, Int64.lt_iff_toInt_lt, Int64.le_iff_toInt_le, Int32.lt_iff_toInt_lt, Int32.le_iff_toInt_le, eqT32, eqT64, Int32.toInt_toInt64, Int64.reduceToInt, Int32.reduceToInt]); (repeat' split) <;> first | rfl | (exfalso; omega) | omega | simp_all), trivial⟩, hS.F ht⟩) hS.2.2 dX5_end_16
  · skip
    refine lv_iload_n hx hb dX5_end_4 rfl (lv_at hl 1 rfl) ?_
    refine lv_aload_n hx hb dX5_end_5 rfl (lv_at hl 0 rfl) ?_
    refine va_get (D := D) (ci := 5) (v := .ref (x 0)) (C := RX5) (T := TX5) (N := 8) hx hb hts hi5 hown hK hP 0 rfl rfl 0 (by decide) (hts (.fieldLink RX5 10 "AlibiRota" "tape" "LAlibiRota$Tape;") (by decide +kernel)) (fun _ h9 => h9) rfl dX5_end_6 ?_
    refine va_getN (D := D) (ci := 4) (v := .int 0) (C := RX4) (T := TX4) (N := 8) hx hb hts hi4 hown hK hP 1 rfl rfl 1 (by decide) (va_Nw.use rfl (hz _ zw_RX5_63)) (fun _ h9 => h9) rfl dX5_end_9 ?_
    refine lv_icmp_le (tgt := 17) hx hb dX5_end_12 (by decide) (fun c2 => ?_) (fun c2 => ?_)
    · skip
      refine lv_aload_n hx hb dX5_end_17 rfl (lv_at hl 0 rfl) ?_
      refine va_get (D := D) (ci := 5) (v := .ref (x 0)) (C := RX5) (T := TX5) (N := 8) hx hb hts hi5 hown hK hP 0 rfl rfl 0 (by decide) (hts (.fieldLink RX5 10 "AlibiRota" "tape" "LAlibiRota$Tape;") (by decide +kernel)) (fun _ h9 => h9) rfl dX5_end_18 ?_
      refine lv_iload_n hx hb dX5_end_21 rfl (lv_at hl 1 rfl) ?_
      refine va_putN (D := D) (ci := 4) (v := .int p0) (ty := .int) (C := RX4) (T := TX4) (N := 8) hx hb hts hi4 tyX4 tyX4_ok nmX4 hown hK hP hD hS 1 rfl rfl 1 (by decide) (va_Nw.use rfl (hz _ zw_RX5_63)) (fun _ h9 => h9) rfl (by decide +kernel) rfl rfl (Nat.le_of_ble_eq_true rfl) dX5_end_22 (fun H locs hP hD hS => ?_)
      have hP : va_P D vwCl [(h, .inr (5, [.ref (x 0), .ref (x 1), .ref (x 2), .ref (x 3), .ref (x 4), .ref (x 5), .ref (x 6), .ref (x 7)])), (x 0, .inr (4, [.ref b, .int p0, .int 0, .int (-1), .int 0, .int 0, .int 0, .int 0]))] H := hP
      have hD : va_D A [(h, .inr (5, [.ref (x 0), .ref (x 1), .ref (x 2), .ref (x 3), .ref (x 4), .ref (x 5), .ref (x 6), .ref (x 7)])), (x 0, .inr (4, [.ref b, .int p0, .int 0, .int (-1), .int 0, .int 0, .int 0, .int 0]))] := hD
      refine lv_iload_n hx hb dX5_end_25 rfl (lv_at hl 1 rfl) ?_
      exact W.iret (v := p0) hx hb hr (fun t ht _ => ⟨⟨p0, (), rfl, (by (try simp only [lg_cmp_lt, lg_cmp_ge, lg_cmp_gt, lg_cmp_le, lg_cmp_eq, Int64.lt_iff_toInt_lt, Int64.le_iff_toInt_le, Int32.lt_iff_toInt_lt, Int32.le_iff_toInt_le, eqT32, eqT64, Int32.toInt_toInt64, Int64.reduceToInt, Int32.reduceToInt] at c1); (try simp only [lg_cmp_lt, lg_cmp_ge, lg_cmp_gt, lg_cmp_le, lg_cmp_eq, Int64.lt_iff_toInt_lt, Int64.le_iff_toInt_le, Int32.lt_iff_toInt_lt, Int32.le_iff_toInt_le, eqT32, eqT64, Int32.toInt_toInt64, Int64.reduceToInt, Int32.reduceToInt] at c2); (try unfold aEnd); (try simp only [lg_cmp_lt, lg_cmp_ge, lg_cmp_gt, lg_cmp_le, lg_cmp_eq, Int64.lt_iff_toInt_lt, Int64.le_iff_toInt_le, Int32.lt_iff_toInt_lt, Int32.le_iff_toInt_le, eqT32, eqT64, Int32.toInt_toInt64, Int64.reduceToInt, Int32.reduceToInt]); (repeat' split) <;> first | rfl | (exfalso; omega) | omega | simp_all), trivial⟩, hS.F ht⟩) hS.2.2 dX5_end_26
    · skip
      refine lv_iconst (v := (-1)) hx hb dX5_end_15 (by decide) ?_
      exact W.iret (v := (-1)) hx hb hr (fun t ht _ => ⟨⟨(-1), (), rfl, (by (try simp only [lg_cmp_lt, lg_cmp_ge, lg_cmp_gt, lg_cmp_le, lg_cmp_eq, Int64.lt_iff_toInt_lt, Int64.le_iff_toInt_le, Int32.lt_iff_toInt_lt, Int32.le_iff_toInt_le, eqT32, eqT64, Int32.toInt_toInt64, Int64.reduceToInt, Int32.reduceToInt] at c1); (try simp only [lg_cmp_lt, lg_cmp_ge, lg_cmp_gt, lg_cmp_le, lg_cmp_eq, Int64.lt_iff_toInt_lt, Int64.le_iff_toInt_le, Int32.lt_iff_toInt_lt, Int32.le_iff_toInt_le, eqT32, eqT64, Int32.toInt_toInt64, Int64.reduceToInt, Int32.reduceToInt] at c2); (try unfold aEnd); (try simp only [lg_cmp_lt, lg_cmp_ge, lg_cmp_gt, lg_cmp_le, lg_cmp_eq, Int64.lt_iff_toInt_lt, Int64.le_iff_toInt_le, Int32.lt_iff_toInt_lt, Int32.le_iff_toInt_le, eqT32, eqT64, Int32.toInt_toInt64, Int64.reduceToInt, Int32.reduceToInt]); (repeat' split) <;> first | rfl | (exfalso; omega) | omega | simp_all), trivial⟩, hS.F ht⟩) hS.2.2 dX5_end_16
