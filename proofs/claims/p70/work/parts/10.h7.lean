def zS1 (a n v : Nat) (g : Nat → Int32) (U : State) : Prop := ∃ A : Nat → Prop, va_O "java/lang/String" a A U U.heap ∧ va_OF "java/lang/String" "coder" "B" (.int 0) a A U U.heap ∧ va_OF "java/lang/String" "value" "[B" (.ref v) a A U U.heap ∧ va_T .byte v n (fun j => .int (g j)) A U U.heap ∧ va_Z "java/lang/String" "COMPACT_STRINGS" "Z" (.int 1) A U U.heap ∧ va_Zq RJ3 "SIOOBE_FORMATTER" "Ljava/util/function/BiFunction;" A U U.heap
theorem fbS1 {av : List Value} {a n v : Nat} {g : Nat → Int32} : FrameBlind (va_Pc av (zS1 a n v g)) := by
  intro _ U _ _ q
  obtain ⟨q1, A, z1, z2, z3, z4, z5, z6⟩ := q
  exact ⟨q1, A, va_O.moved (Vm.Alike.refl _) z1, va_OF.moved (Vm.Alike.refl _) z2, va_OF.moved (Vm.Alike.refl _) z3, va_T.moved (Vm.Alike.refl _) z4, va_Z.moved (Vm.Alike.refl _) z5, va_Zq.moved (Vm.Alike.refl _) z6⟩
theorem zS1_at {av : List Value} {a n v : Nat} {g : Nat → Int32} {A : Nat → Prop} {s : State} {H : Heap} {locs : List Loc} (z1 : va_O "java/lang/String" a A s s.heap) (z2 : va_OF "java/lang/String" "coder" "B" (.int 0) a A s s.heap) (z3 : va_OF "java/lang/String" "value" "[B" (.ref v) a A s s.heap) (z4 : va_T .byte v n (fun j => .int (g j)) A s s.heap) (z5 : va_Z "java/lang/String" "COMPACT_STRINGS" "Z" (.int 1) A s s.heap) (z6 : va_Zq RJ3 "SIOOBE_FORMATTER" "Ljava/util/function/BiFunction;" A s s.heap) (hS : va_S A s.heap H locs) : ∀ U : State, U.heap = H → s.WarmedH U.vm → va_Pc av (zS1 a n v g) av.toArray U := by
  intro U hU hW
  refine ⟨rfl, A, ?_⟩
  rw [hU]
  exact ⟨va_O.moved hW.alike (z1.kept hS.2.1), va_OF.moved hW.alike (z2.kept hS.2.1), va_OF.moved hW.alike (z3.kept hS.2.1), va_T.moved hW.alike (z4.kept hS.2.1), va_Z.moved hW.alike (z5.kept hS.2.1), va_Zq.moved hW.alike (z6.kept hS.2.1)⟩
def zSv : Array Value → State → Outcome → State → Prop := fun _ st o t => o = .returned none ∧ t.heap = st.heap
theorem zcallSv {p : Program} {l : Launch} {e : Env} {R : Room} {s : State} {m : MethodId} {args : Array Value} {below : List Frame} {meth : Method} {c : Code} {H : Heap} {locs : List Loc} {cells slots : Nat} {Q : State → Prop} {pc : Nat} {ls : Array Slot} {rest : List Value} {a : Array Value} {st0 : List Value} (hr : CallRun p l e R s m args below meth c H locs cells slots 0 0 (F0 m pc ls st0) rest (zSv a) (fun _ => False))
    (kk : W p l e R s m args below meth c H locs cells slots Q (F0 m (pc + 3) ls rest)) : W p l e R s m args below meth c H locs cells slots Q (F0 m pc ls st0) := by
  intro T hT X
  obtain ⟨v, st₀, t, T', L, h0, X', hL, e1, ⟨hv, hh⟩, st⟩ := hr T hT X
  cases hv
  obtain ⟨t2, a1, b1⟩ := kk T' (by rw [e1, hh, h0]) (Stand.forget X' (fun q h => (hL q h).elim))
  exact ⟨t2, st t2 a1, b1⟩
theorem shr0 : ∀ n : Nat, n ≤ 6 → Int32.ofNat n >>> ((0 : Int32) &&& 31) = Int32.ofNat n := by decide
theorem chrN : ∀ b : Nat, b < 256 → ((Int32.ofNat b).toUInt32 % 65536).toInt32 = Int32.ofNat b ∧ (Int32.ofNat b).toUInt32.toUInt16.toUInt32.toInt32 = Int32.ofNat b := by decide +kernel
theorem ofNT {n : Nat} (h : n ≤ 6) : (Int32.ofNat n).toInt = (n : Int) := by
  have e : Int32.ofNat n = Int32.ofInt (n : Int) := rfl
  rw [e, oT (by omega)]
theorem dJ0_charAt_5068e_0 : decode cJ0_charAt_5068e 0 = .ok (.aload_n 0, 1) := by decide +kernel
theorem dJ0_charAt_5068e_1 : decode cJ0_charAt_5068e 1 = .ok (.invokevirtual 492, 3) := by decide +kernel
theorem dJ0_charAt_5068e_11 : decode cJ0_charAt_5068e 11 = .ok (.iload_n 1, 1) := by decide +kernel
theorem dJ0_charAt_5068e_12 : decode cJ0_charAt_5068e 12 = .ok (.invokestatic 495, 3) := by decide +kernel
theorem dJ0_charAt_5068e_15 : decode cJ0_charAt_5068e 15 = .ok (.ireturn, 1) := by decide +kernel
theorem dJ0_charAt_5068e_4 : decode cJ0_charAt_5068e 4 = .ok (.ifCond .eq 12, 3) := by decide +kernel
theorem dJ0_charAt_5068e_7 : decode cJ0_charAt_5068e 7 = .ok (.aload_n 0, 1) := by decide +kernel
theorem dJ0_charAt_5068e_8 : decode cJ0_charAt_5068e 8 = .ok (.getfield 9, 3) := by decide +kernel
theorem dJ0_checkIndex_df160_0 : decode cJ0_checkIndex_df160 0 = .ok (.iload_n 0, 1) := by decide +kernel
theorem dJ0_checkIndex_df160_1 : decode cJ0_checkIndex_df160 1 = .ok (.iload_n 1, 1) := by decide +kernel
theorem dJ0_checkIndex_df160_2 : decode cJ0_checkIndex_df160 2 = .ok (.getstatic 1053, 3) := by decide +kernel
theorem dJ0_checkIndex_df160_5 : decode cJ0_checkIndex_df160 5 = .ok (.invokestatic 1059, 3) := by decide +kernel
theorem dJ0_checkIndex_df160_8 : decode cJ0_checkIndex_df160 8 = .ok (.pop, 1) := by decide +kernel
theorem dJ0_checkIndex_df160_9 : decode cJ0_checkIndex_df160 9 = .ok (.return_, 1) := by decide +kernel
theorem dJ0_coder_7d493_0 : decode cJ0_coder_7d493 0 = .ok (.getstatic 38, 3) := by decide +kernel
theorem dJ0_coder_7d493_10 : decode cJ0_coder_7d493 10 = .ok (.goto 4, 3) := by decide +kernel
theorem dJ0_coder_7d493_14 : decode cJ0_coder_7d493 14 = .ok (.ireturn, 1) := by decide +kernel
theorem dJ0_coder_7d493_3 : decode cJ0_coder_7d493 3 = .ok (.ifCond .eq 10, 3) := by decide +kernel
theorem dJ0_coder_7d493_6 : decode cJ0_coder_7d493 6 = .ok (.aload_n 0, 1) := by decide +kernel
theorem dJ0_coder_7d493_7 : decode cJ0_coder_7d493 7 = .ok (.getfield 15, 3) := by decide +kernel
theorem dJ0_isLatin1_aae02_0 : decode cJ0_isLatin1_aae02 0 = .ok (.getstatic 38, 3) := by decide +kernel
theorem dJ0_isLatin1_aae02_10 : decode cJ0_isLatin1_aae02 10 = .ok (.ifCond .ne 7, 3) := by decide +kernel
theorem dJ0_isLatin1_aae02_13 : decode cJ0_isLatin1_aae02 13 = .ok (.iconst 1, 1) := by decide +kernel
theorem dJ0_isLatin1_aae02_14 : decode cJ0_isLatin1_aae02 14 = .ok (.goto 4, 3) := by decide +kernel
theorem dJ0_isLatin1_aae02_18 : decode cJ0_isLatin1_aae02 18 = .ok (.ireturn, 1) := by decide +kernel
theorem dJ0_isLatin1_aae02_3 : decode cJ0_isLatin1_aae02 3 = .ok (.ifCond .eq 14, 3) := by decide +kernel
theorem dJ0_isLatin1_aae02_6 : decode cJ0_isLatin1_aae02 6 = .ok (.aload_n 0, 1) := by decide +kernel
theorem dJ0_isLatin1_aae02_7 : decode cJ0_isLatin1_aae02 7 = .ok (.getfield 15, 3) := by decide +kernel
theorem dJ0_length_8abf5_0 : decode cJ0_length_8abf5 0 = .ok (.aload_n 0, 1) := by decide +kernel
theorem dJ0_length_8abf5_1 : decode cJ0_length_8abf5 1 = .ok (.getfield 9, 3) := by decide +kernel
theorem dJ0_length_8abf5_10 : decode cJ0_length_8abf5 10 = .ok (.ireturn, 1) := by decide +kernel
theorem dJ0_length_8abf5_4 : decode cJ0_length_8abf5 4 = .ok (.arraylength, 1) := by decide +kernel
theorem dJ0_length_8abf5_5 : decode cJ0_length_8abf5 5 = .ok (.aload_n 0, 1) := by decide +kernel
theorem dJ0_length_8abf5_6 : decode cJ0_length_8abf5 6 = .ok (.invokevirtual 335, 3) := by decide +kernel
theorem dJ0_length_8abf5_9 : decode cJ0_length_8abf5 9 = .ok (.ishr, 1) := by decide +kernel
theorem dJ1_charAt_3b067_0 : decode cJ1_charAt_3b067 0 = .ok (.iload_n 1, 1) := by decide +kernel
theorem dJ1_charAt_3b067_1 : decode cJ1_charAt_3b067 1 = .ok (.aload_n 0, 1) := by decide +kernel
theorem dJ1_charAt_3b067_12 : decode cJ1_charAt_3b067 12 = .ok (.iand, 1) := by decide +kernel
theorem dJ1_charAt_3b067_13 : decode cJ1_charAt_3b067 13 = .ok (.i2c, 1) := by decide +kernel
theorem dJ1_charAt_3b067_14 : decode cJ1_charAt_3b067 14 = .ok (.ireturn, 1) := by decide +kernel
theorem dJ1_charAt_3b067_2 : decode cJ1_charAt_3b067 2 = .ok (.arraylength, 1) := by decide +kernel
theorem dJ1_charAt_3b067_3 : decode cJ1_charAt_3b067 3 = .ok (.invokestatic 9, 3) := by decide +kernel
theorem dJ1_charAt_3b067_6 : decode cJ1_charAt_3b067 6 = .ok (.aload_n 0, 1) := by decide +kernel
theorem dJ1_charAt_3b067_7 : decode cJ1_charAt_3b067 7 = .ok (.iload_n 1, 1) := by decide +kernel
theorem dJ1_charAt_3b067_8 : decode cJ1_charAt_3b067 8 = .ok (.baload, 1) := by decide +kernel
theorem dJ1_charAt_3b067_9 : decode cJ1_charAt_3b067 9 = .ok (.sipush 255, 3) := by decide +kernel
theorem dJ3_checkIndex_8e157_0 : decode cJ3_checkIndex_8e157 0 = .ok (.iload_n 0, 1) := by decide +kernel
theorem dJ3_checkIndex_8e157_1 : decode cJ3_checkIndex_8e157 1 = .ok (.ifCond .lt 8, 3) := by decide +kernel
theorem dJ3_checkIndex_8e157_16 : decode cJ3_checkIndex_8e157 16 = .ok (.iload_n 0, 1) := by decide +kernel
theorem dJ3_checkIndex_8e157_17 : decode cJ3_checkIndex_8e157 17 = .ok (.ireturn, 1) := by decide +kernel
theorem dJ3_checkIndex_8e157_4 : decode cJ3_checkIndex_8e157 4 = .ok (.iload_n 0, 1) := by decide +kernel
theorem dJ3_checkIndex_8e157_5 : decode cJ3_checkIndex_8e157 5 = .ok (.iload_n 1, 1) := by decide +kernel
theorem dJ3_checkIndex_8e157_6 : decode cJ3_checkIndex_8e157 6 = .ok (.if_icmp .lt 10, 3) := by decide +kernel
theorem dX4_isWord_0 : decode cX4_isWord 0 = .ok (.aload_n 0, 1) := by decide +kernel
theorem dX4_isWord_1 : decode cX4_isWord 1 = .ok (.getfield 36, 3) := by decide +kernel
theorem dX4_isWord_12 : decode cX4_isWord 12 = .ok (.aload_n 0, 1) := by decide +kernel
theorem dX4_isWord_13 : decode cX4_isWord 13 = .ok (.getfield 147, 3) := by decide +kernel
theorem dX4_isWord_16 : decode cX4_isWord 16 = .ok (.isub, 1) := by decide +kernel
theorem dX4_isWord_17 : decode cX4_isWord 17 = .ok (.aload_n 1, 1) := by decide +kernel
theorem dX4_isWord_18 : decode cX4_isWord 18 = .ok (.invokevirtual 150, 3) := by decide +kernel
theorem dX4_isWord_21 : decode cX4_isWord 21 = .ok (.if_icmp .eq 5, 3) := by decide +kernel
theorem dX4_isWord_24 : decode cX4_isWord 24 = .ok (.iconst 0, 1) := by decide +kernel
theorem dX4_isWord_25 : decode cX4_isWord 25 = .ok (.ireturn, 1) := by decide +kernel
theorem dX4_isWord_26 : decode cX4_isWord 26 = .ok (.iconst 0, 1) := by decide +kernel
theorem dX4_isWord_27 : decode cX4_isWord 27 = .ok (.istore_n 2, 1) := by decide +kernel
theorem dX4_isWord_28 : decode cX4_isWord 28 = .ok (.iload_n 2, 1) := by decide +kernel
theorem dX4_isWord_29 : decode cX4_isWord 29 = .ok (.aload_n 1, 1) := by decide +kernel
theorem dX4_isWord_30 : decode cX4_isWord 30 = .ok (.invokevirtual 150, 3) := by decide +kernel
theorem dX4_isWord_33 : decode cX4_isWord 33 = .ok (.if_icmp .ge 30, 3) := by decide +kernel
theorem dX4_isWord_36 : decode cX4_isWord 36 = .ok (.aload_n 0, 1) := by decide +kernel
theorem dX4_isWord_37 : decode cX4_isWord 37 = .ok (.getfield 11, 3) := by decide +kernel
theorem dX4_isWord_4 : decode cX4_isWord 4 = .ok (.iconst 2, 1) := by decide +kernel
theorem dX4_isWord_40 : decode cX4_isWord 40 = .ok (.aload_n 0, 1) := by decide +kernel
theorem dX4_isWord_41 : decode cX4_isWord 41 = .ok (.getfield 147, 3) := by decide +kernel
theorem dX4_isWord_44 : decode cX4_isWord 44 = .ok (.iload_n 2, 1) := by decide +kernel
theorem dX4_isWord_45 : decode cX4_isWord 45 = .ok (.iadd, 1) := by decide +kernel
theorem dX4_isWord_46 : decode cX4_isWord 46 = .ok (.baload, 1) := by decide +kernel
theorem dX4_isWord_47 : decode cX4_isWord 47 = .ok (.aload_n 1, 1) := by decide +kernel
theorem dX4_isWord_48 : decode cX4_isWord 48 = .ok (.iload_n 2, 1) := by decide +kernel
theorem dX4_isWord_49 : decode cX4_isWord 49 = .ok (.invokevirtual 154, 3) := by decide +kernel
theorem dX4_isWord_5 : decode cX4_isWord 5 = .ok (.if_icmp .ne 19, 3) := by decide +kernel
theorem dX4_isWord_52 : decode cX4_isWord 52 = .ok (.if_icmp .eq 5, 3) := by decide +kernel
theorem dX4_isWord_55 : decode cX4_isWord 55 = .ok (.iconst 0, 1) := by decide +kernel
theorem dX4_isWord_56 : decode cX4_isWord 56 = .ok (.ireturn, 1) := by decide +kernel
theorem dX4_isWord_57 : decode cX4_isWord 57 = .ok (.iinc 2 1, 3) := by decide +kernel
theorem dX4_isWord_60 : decode cX4_isWord 60 = .ok (.goto (-32), 3) := by decide +kernel
theorem dX4_isWord_63 : decode cX4_isWord 63 = .ok (.iconst 1, 1) := by decide +kernel
theorem dX4_isWord_64 : decode cX4_isWord 64 = .ok (.ireturn, 1) := by decide +kernel
theorem dX4_isWord_8 : decode cX4_isWord 8 = .ok (.aload_n 0, 1) := by decide +kernel
theorem dX4_isWord_9 : decode cX4_isWord 9 = .ok (.getfield 30, 3) := by decide +kernel
theorem zj_coder {l : Launch} (a n v : Nat) (g : Nat → Int32) : Met l yJ0_coder_7d493 (wA (.code yJ0_coder_7d493 cJ0_coder_7d493 1 (some .byte))) (zrm 0) (va_Pc [.ref a] (zS1 a n v g)) (vp_Si (fun r => r = 0)) 0 0 (fun _ => False) := by
  refine Met.ofW (cc := cJ0_coder_7d493) (maxL := 1) (ret := some .byte) (by decide) rfl ?_
  intro p e s m args below meth c s₁ B hml hv
  obtain ⟨rfl, A, z1, z2, z3, z4, z5, z6⟩ := hv
  have hx := B.exec
  have hb := B.bytes
  have hr := B.returns
  have hlocks := B.notSynchronized
  have hts0 := atoms_spec (ws := wA (.code yJ0_coder_7d493 cJ0_coder_7d493 1 (some .byte))) B.pre
  have hts : ∀ w ∈ wsL_law, w.before ([.ref a] : List Value).toArray s = true := fun w h => hts0 w (List.mem_cons_of_mem _ h)
  have hown : s.vm.findClass RJ0 = some m.cls := findClass_of_methodNamed B.named
  have hl := lv_entry ([.ref a]) (n := 1) (Nat.le_of_ble_eq_true rfl)
  rw [lg_entry_eq]
  generalize (lg_sl ([.ref a]) ++ List.replicate (1 - (lg_sl ([.ref a])).length) Slot.unset).toArray = ls at hl ⊢
  have hS : va_S A s.heap s.heap [] := va_S.rf
  have hl : lv_has ls 1 [(0, .ref a)] := hl
  refine va_gets hx hb z5 hS hown (hts _ lm_8_22) (fun _ h => h) dJ0_coder_7d493_0 ?_
  refine lv_if_eq (tgt := 13) hx hb dJ0_coder_7d493_3 (by decide) (fun h => absurd h (by decide)) (fun _ => ?_)
  refine lv_aload_n hx hb dJ0_coder_7d493_6 rfl (lv_at hl 0 rfl) ?_
  refine vk_getf hx hb z2 hS hown (hts _ lm_8_23) (fun _ h => h) dJ0_coder_7d493_7 ?_
  refine lv_goto (tgt := 14) hx hb dJ0_coder_7d493_10 (by decide) ?_
  exact W.zret (v := 0) hx hb hr rfl (fun t ht _ => ⟨0, rfl, rfl, ht⟩) (fun _ h => by cases h) dJ0_coder_7d493_14
theorem zj_isLatin1 {l : Launch} (a n v : Nat) (g : Nat → Int32) : Met l yJ0_isLatin1_aae02 (wA (.code yJ0_isLatin1_aae02 cJ0_isLatin1_aae02 1 (some .boolean))) (zrm 0) (va_Pc [.ref a] (zS1 a n v g)) (vp_Si (fun r => r = 1)) 0 0 (fun _ => False) := by
  refine Met.ofW (cc := cJ0_isLatin1_aae02) (maxL := 1) (ret := some .boolean) (by decide) rfl ?_
  intro p e s m args below meth c s₁ B hml hv
  obtain ⟨rfl, A, z1, z2, z3, z4, z5, z6⟩ := hv
  have hx := B.exec
  have hb := B.bytes
  have hr := B.returns
  have hlocks := B.notSynchronized
  have hts0 := atoms_spec (ws := wA (.code yJ0_isLatin1_aae02 cJ0_isLatin1_aae02 1 (some .boolean))) B.pre
  have hts : ∀ w ∈ wsL_law, w.before ([.ref a] : List Value).toArray s = true := fun w h => hts0 w (List.mem_cons_of_mem _ h)
  have hown : s.vm.findClass RJ0 = some m.cls := findClass_of_methodNamed B.named
  have hl := lv_entry ([.ref a]) (n := 1) (Nat.le_of_ble_eq_true rfl)
  rw [lg_entry_eq]
  generalize (lg_sl ([.ref a]) ++ List.replicate (1 - (lg_sl ([.ref a])).length) Slot.unset).toArray = ls at hl ⊢
  have hS : va_S A s.heap s.heap [] := va_S.rf
  have hl : lv_has ls 1 [(0, .ref a)] := hl
  refine va_gets hx hb z5 hS hown (hts _ lm_8_22) (fun _ h => h) dJ0_isLatin1_aae02_0 ?_
  refine lv_if_eq (tgt := 17) hx hb dJ0_isLatin1_aae02_3 (by decide) (fun h => absurd h (by decide)) (fun _ => ?_)
  refine lv_aload_n hx hb dJ0_isLatin1_aae02_6 rfl (lv_at hl 0 rfl) ?_
  refine vk_getf hx hb z2 hS hown (hts _ lm_8_23) (fun _ h => h) dJ0_isLatin1_aae02_7 ?_
  refine lv_if_ne (tgt := 17) hx hb dJ0_isLatin1_aae02_10 (by decide) (fun h => absurd rfl h) (fun _ => ?_)
  refine lv_iconst (v := 1) hx hb dJ0_isLatin1_aae02_13 (by decide) ?_
  refine lv_goto (tgt := 18) hx hb dJ0_isLatin1_aae02_14 (by decide) ?_
  exact W.zret (v := 1) hx hb hr rfl (fun t ht _ => ⟨1, rfl, rfl, ht⟩) (fun _ h => by cases h) dJ0_isLatin1_aae02_18
theorem zj_length {l : Launch} (a n v : Nat) (g : Nat → Int32) (hn : n ≤ 6) : Met l yJ0_length_8abf5 (wA (.code yJ0_length_8abf5 cJ0_length_8abf5 1 (some .int))) (zrm 1) (va_Pc [.ref a] (zS1 a n v g)) (vp_Si (fun r => r = Int32.ofNat n)) 0 0 (fun _ => False) := by
  refine Met.ofW (cc := cJ0_length_8abf5) (maxL := 1) (ret := some .int) (by decide) rfl ?_
  intro p e s m args below meth c s₁ B hml hv
  obtain ⟨rfl, A, z1, z2, z3, z4, z5, z6⟩ := hv
  have hx := B.exec
  have hb := B.bytes
  have hr := B.returns
  have hlocks := B.notSynchronized
  have hts0 := atoms_spec (ws := wA (.code yJ0_length_8abf5 cJ0_length_8abf5 1 (some .int))) B.pre
  have hts : ∀ w ∈ wsL_law, w.before ([.ref a] : List Value).toArray s = true := fun w h => hts0 w (List.mem_cons_of_mem _ h)
  have hown : s.vm.findClass RJ0 = some m.cls := findClass_of_methodNamed B.named
  have hl := lv_entry ([.ref a]) (n := 1) (Nat.le_of_ble_eq_true rfl)
  rw [lg_entry_eq]
  generalize (lg_sl ([.ref a]) ++ List.replicate (1 - (lg_sl ([.ref a])).length) Slot.unset).toArray = ls at hl ⊢
  have hS : va_S A s.heap s.heap [] := va_S.rf
  have hl : lv_has ls 1 [(0, .ref a)] := hl
  refine lv_aload_n hx hb dJ0_length_8abf5_0 rfl (lv_at hl 0 rfl) ?_
  refine vk_getf hx hb z3 hS hown (hts _ lm_8_17) (fun _ h => h) dJ0_length_8abf5_1 ?_
  refine va_tlen hx hb z4 hS rfl dJ0_length_8abf5_4 ?_
  refine lv_aload_n hx hb dJ0_length_8abf5_5 rfl (lv_at hl 0 rfl) ?_
  obtain ⟨cell, o1, o2, o3, o4⟩ := z1
  refine vp_callSi (va_Run.run (va_runV (As := []) (rest := [.int (Int32.ofNat n)]) ⟨hx, hb, hml, hown, hts⟩ (zj_coder a n v g) (cwV 0 hts (gWl (List.forall_mem_append.mpr ⟨(List.forall_mem_cons.mpr ⟨lm_8_18, (List.forall_mem_cons.mpr ⟨lm_8_19, (List.forall_mem_cons.mpr ⟨lm_8_20, (List.forall_mem_cons.mpr ⟨lm_8_15, nilz⟩)⟩)⟩)⟩), List.forall_mem_cons.mpr ⟨lm_8_21, fun _ h => h⟩⟩)) rfl rfl rfl (by decide +kernel) ⟨by show 0 + 1 ≤ 1; decide, by show 8 + (1 + 11) + 60 * 0 ≤ 60 * 1; decide⟩) ⟨fbS1, ⟨cell, o1, o2, o3⟩, zS1_at ⟨cell, o1, o2, o3, o4⟩ z2 z3 z4 z5 z6 hS⟩ rfl rfl hl.1 rfl (lv_room (Nat.le_of_ble_eq_true rfl)) dJ0_length_8abf5_6 ⟨show 0 ≤ 0 by decide, show 0 ≤ 0 by decide⟩)) (fun r hr2 => ?_)
  subst hr2
  refine lv_ishr hx hb dJ0_length_8abf5_9 ?_
  rw [shr0 n hn]
  exact W.iret (v := Int32.ofNat n) hx hb hr (fun t ht _ => ⟨_, rfl, rfl, ht⟩) (fun _ h => by cases h) dJ0_length_8abf5_10
theorem zj_check3n {l : Launch} (i k : Int32) (h1 : 0 ≤ i.toInt) (h2 : i.toInt < k.toInt) : Met l yJ3_checkIndex_8e157 (wA (.code yJ3_checkIndex_8e157 cJ3_checkIndex_8e157 3 (some .int))) (zrm 0) (va_Pc [.int i, .int k, .null] (fun _ => True)) (vp_Si (fun _ => True)) 0 0 (fun _ => False) := by
  refine Met.ofW (cc := cJ3_checkIndex_8e157) (maxL := 3) (ret := some .int) (by decide) rfl ?_
  intro p e s m args below meth c s₁ B hml hv
  obtain ⟨rfl, -⟩ := hv
  have hx := B.exec
  have hb := B.bytes
  have hr := B.returns
  have hlocks := B.notSynchronized
  have hts0 := atoms_spec (ws := wA (.code yJ3_checkIndex_8e157 cJ3_checkIndex_8e157 3 (some .int))) B.pre
  have hts : ∀ w ∈ wsL_law, w.before ([.int i, .int k, .null] : List Value).toArray s = true := fun w h => hts0 w (List.mem_cons_of_mem _ h)
  have hown : s.vm.findClass RJ3 = some m.cls := findClass_of_methodNamed B.named
  have hl := lv_entry ([.int i, .int k, .null]) (n := 3) (Nat.le_of_ble_eq_true rfl)
  rw [lg_entry_eq]
  generalize (lg_sl ([.int i, .int k, .null]) ++ List.replicate (3 - (lg_sl ([.int i, .int k, .null])).length) Slot.unset).toArray = ls at hl ⊢
  have hl : lv_has ls 3 [(0, .int i), (1, .int k), (2, .null)] := hl
  refine lv_iload_n hx hb dJ3_checkIndex_8e157_0 rfl (lv_at hl 0 rfl) ?_
  refine lv_if_lt (tgt := 9) hx hb dJ3_checkIndex_8e157_1 (by decide) (fun h9 => absurd (Int32.lt_iff_toInt_lt.mp h9) (by have : (0 : Int32).toInt = 0 := rfl; omega)) (fun _ => ?_)
  refine lv_iload_n hx hb dJ3_checkIndex_8e157_4 rfl (lv_at hl 0 rfl) ?_
  refine lv_iload_n hx hb dJ3_checkIndex_8e157_5 rfl (lv_at hl 1 rfl) ?_
  refine lv_icmp_lt (tgt := 16) hx hb dJ3_checkIndex_8e157_6 (by decide) (fun _ => ?_) (fun h9 => absurd (Int32.lt_iff_toInt_lt.mpr h2) h9)
  refine lv_iload_n hx hb dJ3_checkIndex_8e157_16 rfl (lv_at hl 0 rfl) ?_
  exact W.iret (v := i) hx hb hr (fun t ht _ => ⟨_, rfl, trivial, ht⟩) (fun _ h => by cases h) dJ3_checkIndex_8e157_17
theorem zj_check3r {l : Launch} (i k : Int32) (t : Nat) (h1 : 0 ≤ i.toInt) (h2 : i.toInt < k.toInt) : Met l yJ3_checkIndex_8e157 (wA (.code yJ3_checkIndex_8e157 cJ3_checkIndex_8e157 3 (some .int))) (zrm 0) (va_Pc [.int i, .int k, .ref t] (fun _ => True)) (vp_Si (fun _ => True)) 0 0 (fun _ => False) := by
  refine Met.ofW (cc := cJ3_checkIndex_8e157) (maxL := 3) (ret := some .int) (by decide) rfl ?_
  intro p e s m args below meth c s₁ B hml hv
  obtain ⟨rfl, -⟩ := hv
  have hx := B.exec
  have hb := B.bytes
  have hr := B.returns
  have hlocks := B.notSynchronized
  have hts0 := atoms_spec (ws := wA (.code yJ3_checkIndex_8e157 cJ3_checkIndex_8e157 3 (some .int))) B.pre
  have hts : ∀ w ∈ wsL_law, w.before ([.int i, .int k, .ref t] : List Value).toArray s = true := fun w h => hts0 w (List.mem_cons_of_mem _ h)
  have hown : s.vm.findClass RJ3 = some m.cls := findClass_of_methodNamed B.named
  have hl := lv_entry ([.int i, .int k, .ref t]) (n := 3) (Nat.le_of_ble_eq_true rfl)
  rw [lg_entry_eq]
  generalize (lg_sl ([.int i, .int k, .ref t]) ++ List.replicate (3 - (lg_sl ([.int i, .int k, .ref t])).length) Slot.unset).toArray = ls at hl ⊢
  have hl : lv_has ls 3 [(0, .int i), (1, .int k), (2, .ref t)] := hl
  refine lv_iload_n hx hb dJ3_checkIndex_8e157_0 rfl (lv_at hl 0 rfl) ?_
  refine lv_if_lt (tgt := 9) hx hb dJ3_checkIndex_8e157_1 (by decide) (fun h9 => absurd (Int32.lt_iff_toInt_lt.mp h9) (by have : (0 : Int32).toInt = 0 := rfl; omega)) (fun _ => ?_)
  refine lv_iload_n hx hb dJ3_checkIndex_8e157_4 rfl (lv_at hl 0 rfl) ?_
  refine lv_iload_n hx hb dJ3_checkIndex_8e157_5 rfl (lv_at hl 1 rfl) ?_
  refine lv_icmp_lt (tgt := 16) hx hb dJ3_checkIndex_8e157_6 (by decide) (fun _ => ?_) (fun h9 => absurd (Int32.lt_iff_toInt_lt.mpr h2) h9)
  refine lv_iload_n hx hb dJ3_checkIndex_8e157_16 rfl (lv_at hl 0 rfl) ?_
  exact W.iret (v := i) hx hb hr (fun t ht _ => ⟨_, rfl, trivial, ht⟩) (fun _ h => by cases h) dJ3_checkIndex_8e157_17
theorem zj_check0 {l : Launch} (i k : Int32) (h1 : 0 ≤ i.toInt) (h2 : i.toInt < k.toInt) : Met l yJ0_checkIndex_df160 (wA (.code yJ0_checkIndex_df160 cJ0_checkIndex_df160 2 none)) (zrm 1) (va_Pc [.int i, .int k] (fun U => ∃ A : Nat → Prop, va_Zq RJ3 "SIOOBE_FORMATTER" "Ljava/util/function/BiFunction;" A U U.heap)) (zSv) 0 0 (fun _ => False) := by
  refine Met.ofW (cc := cJ0_checkIndex_df160) (maxL := 2) (ret := none) (by decide) rfl ?_
  intro p e s m args below meth c s₁ B hml hv
  obtain ⟨rfl, A, z6⟩ := hv
  have hx := B.exec
  have hb := B.bytes
  have hr := B.returns
  have hlocks := B.notSynchronized
  have hts0 := atoms_spec (ws := wA (.code yJ0_checkIndex_df160 cJ0_checkIndex_df160 2 none)) B.pre
  have hts : ∀ w ∈ wsL_law, w.before ([.int i, .int k] : List Value).toArray s = true := fun w h => hts0 w (List.mem_cons_of_mem _ h)
  have hown : s.vm.findClass RJ0 = some m.cls := findClass_of_methodNamed B.named
  have hl := lv_entry ([.int i, .int k]) (n := 2) (Nat.le_of_ble_eq_true rfl)
  rw [lg_entry_eq]
  generalize (lg_sl ([.int i, .int k]) ++ List.replicate (2 - (lg_sl ([.int i, .int k])).length) Slot.unset).toArray = ls at hl ⊢
  have hS : va_S A s.heap s.heap [] := va_S.rf
  have hl : lv_has ls 2 [(0, .int i), (1, .int k)] := hl
  refine lv_iload_n hx hb dJ0_checkIndex_df160_0 rfl (lv_at hl 0 rfl) ?_
  refine lv_iload_n hx hb dJ0_checkIndex_df160_1 rfl (lv_at hl 1 rfl) ?_
  rcases z6 with z6 | ⟨t, z6⟩
  · skip
    refine va_gets hx hb z6 hS hown (hts _ lm_9_15) (fun _ h => h) dJ0_checkIndex_df160_2 ?_
    refine vp_callSi (va_Run.run (va_runS (As := [.int i, .int k, .null]) (rest := []) ⟨hx, hb, hml, hown, hts⟩ (zj_check3n i k h1 h2) (va_cwS 3 hts (gWl (List.forall_mem_append.mpr ⟨(List.forall_mem_cons.mpr ⟨lm_9_16, (List.forall_mem_cons.mpr ⟨lm_9_17, (List.forall_mem_cons.mpr ⟨lm_9_18, nilz⟩)⟩)⟩), List.forall_mem_cons.mpr ⟨lm_9_19, fun _ h => h⟩⟩)) rfl rfl rfl (by decide +kernel) ⟨by show 0 + 1 ≤ 1; decide, by show 8 + (3 + 11) + 60 * 0 ≤ 60 * 1; decide⟩) ⟨fun _ _ _ _ q => q, fun U _ _ => ⟨rfl, trivial⟩⟩ rfl rfl hl.1 rfl (lv_room (Nat.le_of_ble_eq_true rfl)) dJ0_checkIndex_df160_5 ⟨show 0 ≤ 0 by decide, show 0 ≤ 0 by decide⟩)) (fun r _ => ?_)
    refine lv_pop hx hb dJ0_checkIndex_df160_8 rfl ?_
    exact W.vret hx hb hr (fun t ht _ => ⟨rfl, ht⟩) (fun _ h => by cases h) dJ0_checkIndex_df160_9
  · skip
    refine va_gets hx hb z6 hS hown (hts _ lm_9_15) (fun _ h => h) dJ0_checkIndex_df160_2 ?_
    refine vp_callSi (va_Run.run (va_runS (As := [.int i, .int k, .ref t]) (rest := []) ⟨hx, hb, hml, hown, hts⟩ (zj_check3r i k t h1 h2) (va_cwS 3 hts (gWl (List.forall_mem_append.mpr ⟨(List.forall_mem_cons.mpr ⟨lm_9_16, (List.forall_mem_cons.mpr ⟨lm_9_17, (List.forall_mem_cons.mpr ⟨lm_9_18, nilz⟩)⟩)⟩), List.forall_mem_cons.mpr ⟨lm_9_19, fun _ h => h⟩⟩)) rfl rfl rfl (by decide +kernel) ⟨by show 0 + 1 ≤ 1; decide, by show 8 + (3 + 11) + 60 * 0 ≤ 60 * 1; decide⟩) ⟨fun _ _ _ _ q => q, fun U _ _ => ⟨rfl, trivial⟩⟩ rfl rfl hl.1 rfl (lv_room (Nat.le_of_ble_eq_true rfl)) dJ0_checkIndex_df160_5 ⟨show 0 ≤ 0 by decide, show 0 ≤ 0 by decide⟩)) (fun r _ => ?_)
    refine lv_pop hx hb dJ0_checkIndex_df160_8 rfl ?_
    exact W.vret hx hb hr (fun t ht _ => ⟨rfl, ht⟩) (fun _ h => by cases h) dJ0_checkIndex_df160_9
theorem zj_charAt1 {l : Launch} (a n v : Nat) (g : Nat → Int32) (hn : n ≤ 6) (i : Int32) (h1 : 0 ≤ i.toInt) (h2 : i.toInt < (n : Int)) : Met l yJ1_charAt_3b067 (wA (.code yJ1_charAt_3b067 cJ1_charAt_3b067 2 (some .char))) (zrm 2) (va_Pc [.ref v, .int i] (zS1 a n v g)) (vp_Si (fun r => narrow .char (.int r) = .int r)) 0 0 (fun _ => False) := by
  refine Met.ofW (cc := cJ1_charAt_3b067) (maxL := 2) (ret := some .char) (by decide) rfl ?_
  intro p e s m args below meth c s₁ B hml hv
  obtain ⟨rfl, A, z1, z2, z3, z4, z5, z6⟩ := hv
  have hx := B.exec
  have hb := B.bytes
  have hr := B.returns
  have hlocks := B.notSynchronized
  have hts0 := atoms_spec (ws := wA (.code yJ1_charAt_3b067 cJ1_charAt_3b067 2 (some .char))) B.pre
  have hts : ∀ w ∈ wsL_law, w.before ([.ref v, .int i] : List Value).toArray s = true := fun w h => hts0 w (List.mem_cons_of_mem _ h)
  have hown : s.vm.findClass RJ1 = some m.cls := findClass_of_methodNamed B.named
  have hl := lv_entry ([.ref v, .int i]) (n := 2) (Nat.le_of_ble_eq_true rfl)
  rw [lg_entry_eq]
  generalize (lg_sl ([.ref v, .int i]) ++ List.replicate (2 - (lg_sl ([.ref v, .int i])).length) Slot.unset).toArray = ls at hl ⊢
  have hS : va_S A s.heap s.heap [] := va_S.rf
  have hl : lv_has ls 2 [(0, .ref v), (1, .int i)] := hl
  refine lv_iload_n hx hb dJ1_charAt_3b067_0 rfl (lv_at hl 1 rfl) ?_
  refine lv_aload_n hx hb dJ1_charAt_3b067_1 rfl (lv_at hl 0 rfl) ?_
  refine va_tlen hx hb z4 hS rfl dJ1_charAt_3b067_2 ?_
  refine zcallSv (va_Run.run (va_runS (As := [.int i, .int (Int32.ofNat n)]) (rest := []) ⟨hx, hb, hml, hown, hts⟩ (zj_check0 i (Int32.ofNat n) h1 (by rw [ofNT hn]; exact h2)) (va_cwS 2 hts (gWl (List.forall_mem_append.mpr ⟨(List.forall_mem_cons.mpr ⟨lm_9_12, (List.forall_mem_cons.mpr ⟨lm_9_13, (List.forall_mem_cons.mpr ⟨lm_8_15, nilz⟩)⟩)⟩), List.forall_mem_cons.mpr ⟨lm_9_14, fun _ h => h⟩⟩)) rfl rfl rfl (by decide +kernel) ⟨by show 1 + 1 ≤ 2; decide, by show 8 + (2 + 11) + 60 * 1 ≤ 60 * 2; decide⟩) ⟨?_, fun U hU hW => ⟨rfl, A, by rw [hU]; exact va_Zq.moved hW.alike (z6.kept hS.2.1)⟩⟩ rfl rfl hl.1 rfl (lv_room (Nat.le_of_ble_eq_true rfl)) dJ1_charAt_3b067_3 ⟨show 0 ≤ 0 by decide, show 0 ≤ 0 by decide⟩)) ?_
  · intro _ U _ _ q
    obtain ⟨q1, A, q2⟩ := q
    exact ⟨q1, A, va_Zq.moved (Vm.Alike.refl _) q2⟩
  refine lv_aload_n hx hb dJ1_charAt_3b067_6 rfl (lv_at hl 0 rfl) ?_
  refine lv_iload_n hx hb dJ1_charAt_3b067_7 rfl (lv_at hl 1 rfl) ?_
  have ci := tcn (z := i) h1
  refine va_tb hx hb z4 hS (vp_in_iff.mpr ⟨by omega, by omega⟩) rfl dJ1_charAt_3b067_8 ?_
  refine lv_sipush (v := 255) hx hb dJ1_charAt_3b067_9 (by decide) ?_
  refine lv_iand hx hb dJ1_charAt_3b067_12 ?_
  have hand := andI (g i.toNatClampNeg) 255 (by decide)
  have e255 : (255 : Int32).toInt = 255 := by decide
  generalize g i.toNatClampNeg &&& 255 = x at hand ⊢
  rw [e255] at hand
  obtain ⟨q1, q2⟩ := chrN x.toInt.toNat (by omega)
  rw [← ofN hand.1] at q1 q2
  refine lv_i2c (v := x) hx hb dJ1_charAt_3b067_13 q1 ?_
  exact W.zret (v := x) hx hb hr (by show Value.int _ = _; rw [q2]) (fun t ht _ => ⟨_, rfl, (by show Value.int _ = _; rw [q2]), ht⟩) (fun _ h => by cases h) dJ1_charAt_3b067_14
theorem zj_charAt {l : Launch} (a n v : Nat) (g : Nat → Int32) (hn : n ≤ 6) (i : Int32) (h1 : 0 ≤ i.toInt) (h2 : i.toInt < (n : Int)) : Met l yJ0_charAt_5068e (wA (.code yJ0_charAt_5068e cJ0_charAt_5068e 2 (some .char))) (zrm 3) (va_Pc [.ref a, .int i] (zS1 a n v g)) (vp_Si (fun r => narrow .char (.int r) = .int r)) 0 0 (fun _ => False) := by
  refine Met.ofW (cc := cJ0_charAt_5068e) (maxL := 2) (ret := some .char) (by decide) rfl ?_
  intro p e s m args below meth c s₁ B hml hv
  obtain ⟨rfl, A, z1, z2, z3, z4, z5, z6⟩ := hv
  have hx := B.exec
  have hb := B.bytes
  have hr := B.returns
  have hlocks := B.notSynchronized
  have hts0 := atoms_spec (ws := wA (.code yJ0_charAt_5068e cJ0_charAt_5068e 2 (some .char))) B.pre
  have hts : ∀ w ∈ wsL_law, w.before ([.ref a, .int i] : List Value).toArray s = true := fun w h => hts0 w (List.mem_cons_of_mem _ h)
  have hown : s.vm.findClass RJ0 = some m.cls := findClass_of_methodNamed B.named
  have hl := lv_entry ([.ref a, .int i]) (n := 2) (Nat.le_of_ble_eq_true rfl)
  rw [lg_entry_eq]
  generalize (lg_sl ([.ref a, .int i]) ++ List.replicate (2 - (lg_sl ([.ref a, .int i])).length) Slot.unset).toArray = ls at hl ⊢
  have hS : va_S A s.heap s.heap [] := va_S.rf
  have hl : lv_has ls 2 [(0, .ref a), (1, .int i)] := hl
  refine lv_aload_n hx hb dJ0_charAt_5068e_0 rfl (lv_at hl 0 rfl) ?_
  obtain ⟨cell, o1, o2, o3, o4⟩ := z1
  refine vp_callSi (va_Run.run (va_runV (As := []) (rest := []) ⟨hx, hb, hml, hown, hts⟩ (zj_isLatin1 a n v g) (cwV 0 hts (gWl (List.forall_mem_append.mpr ⟨(List.forall_mem_cons.mpr ⟨lm_9_4, (List.forall_mem_cons.mpr ⟨lm_9_5, (List.forall_mem_cons.mpr ⟨lm_9_6, (List.forall_mem_cons.mpr ⟨lm_8_15, nilz⟩)⟩)⟩)⟩), List.forall_mem_cons.mpr ⟨lm_9_7, fun _ h => h⟩⟩)) rfl rfl rfl (by decide +kernel) ⟨by show 0 + 1 ≤ 3; decide, by show 8 + (1 + 11) + 60 * 0 ≤ 60 * 3; decide⟩) ⟨fbS1, ⟨cell, o1, o2, o3⟩, zS1_at ⟨cell, o1, o2, o3, o4⟩ z2 z3 z4 z5 z6 hS⟩ rfl rfl hl.1 rfl (lv_room (Nat.le_of_ble_eq_true rfl)) dJ0_charAt_5068e_1 ⟨show 0 ≤ 0 by decide, show 0 ≤ 0 by decide⟩)) (fun r hr2 => ?_)
  subst hr2
  refine lv_if_eq (tgt := 16) hx hb dJ0_charAt_5068e_4 (by decide) (fun h => absurd h (by decide)) (fun _ => ?_)
  refine lv_aload_n hx hb dJ0_charAt_5068e_7 rfl (lv_at hl 0 rfl) ?_
  refine vk_getf hx hb z3 hS hown (hts _ lm_8_17) (fun _ h => h) dJ0_charAt_5068e_8 ?_
  refine lv_iload_n hx hb dJ0_charAt_5068e_11 rfl (lv_at hl 1 rfl) ?_
  refine vp_callSi (va_Run.run (va_runS (As := [.ref v, .int i]) (rest := []) ⟨hx, hb, hml, hown, hts⟩ (zj_charAt1 a n v g hn i h1 h2) (va_cwS 2 hts (gWl (List.forall_mem_append.mpr ⟨(List.forall_mem_cons.mpr ⟨lm_9_8, (List.forall_mem_cons.mpr ⟨lm_9_9, (List.forall_mem_cons.mpr ⟨lm_9_10, nilz⟩)⟩)⟩), List.forall_mem_cons.mpr ⟨lm_9_11, fun _ h => h⟩⟩)) rfl rfl rfl (by decide +kernel) ⟨by show 2 + 1 ≤ 3; decide, by show 8 + (2 + 11) + 60 * 2 ≤ 60 * 3; decide⟩) ⟨fbS1, zS1_at ⟨cell, o1, o2, o3, o4⟩ z2 z3 z4 z5 z6 hS⟩ rfl rfl hl.1 rfl (lv_room (Nat.le_of_ble_eq_true rfl)) dJ0_charAt_5068e_12 ⟨show 0 ≤ 0 by decide, show 0 ≤ 0 by decide⟩)) (fun r hr2 => ?_)
  exact W.zret (v := r) hx hb hr hr2 (fun t ht _ => ⟨_, rfl, hr2, ht⟩) (fun _ h => by cases h) dJ0_charAt_5068e_15
theorem zh_isWord {l : Launch} {D : va_G} {cI cZ cB cJ cR : ClassId} {ks ad : List Nat} {Psi : va_W → Prop} : zMet l D cI cZ cB cJ cR zKS ks ad Psi yX4_isWord (.code yX4_isWord cX4_isWord 3 (some .boolean)) 8 ([(6, 0, 0), (56, 0, 0)], some (0, 0, 1), [], [], [], [], []) := by
  refine zmet_gen 8 (by decide) (Nat.le_of_ble_eq_true rfl) rfl ?_
  intro p e R s m args below meth c Q A ws As ls X hG hok hpre hR hl
  have hx := X.1.1
  have hb := X.1.2.1
  obtain ⟨_, _, rfl, ⟨a, i, rfl, ki, di⟩, hok1⟩ := zst1 hok
  obtain ⟨_, _, rfl, ⟨u, iu, rfl, ku, du⟩, hok2⟩ := zst1 hok1
  obtain rfl := zst0 hok2
  have hst := X.2.2.2.2.2.2.st
  obtain ⟨n, v, g, hn, z1, z2, z3, z4⟩ := hst.1 iu u ku du
  have z5 := hst.2.2.2.2.2.1
  have z6 := hst.2.2.2.2.2.2
  have hS := hG.2.2.1
  obtain ⟨cell, o1, o2, o3, o4⟩ := z1
  have hfr := X.2.2.2.1
  have hlo := X.2.2.2.2.1
  obtain ⟨fs, hob, hfs⟩ := zobj hG.2.2.2.1 ki di zks_4
  have hl : lv_has ls 3 [(0, .ref a), (1, .ref u)] := hl
  obtain ⟨_, q4, kd, rfl, lkd⟩ := zF2_get (i := 4) hfs rfl
  obtain ⟨_, q5, sta, rfl, lsta⟩ := zF2_get (i := 5) hfs rfl
  obtain ⟨_, q6, beh, rfl, lbeh⟩ := zF2_get (i := 6) hfs rfl
  have lsta : 0 ≤ sta.toInt ∧ sta.toInt ≤ 1200 := lsta
  have lbeh : 0 ≤ beh.toInt ∧ beh.toInt ≤ 1200 := lbeh
  obtain ⟨r0, j0, q0, k0, d0⟩ := zref (f := 0) (k := 33) hfs rfl
  obtain ⟨eb, gb0, gb1⟩ := zconf_at hG.2.2.2.1 k0 d0 (rfl : zKS[33]? = _)
  have r0_ : ∀ ls : Array Slot, W p l e R s m args below meth c s.heap [] 0 0 Q (F0 m 25 ls [.int 0]) := fun ls => hR 25 _ _ _ _ [.int 0] hG ⟨⟨⟨0, rfl, by decide⟩, trivial⟩, fun _ h => (by cases h), fun _ h => (by cases h)⟩ dX4_isWord_25
  refine lv_aload_n hx hb dX4_isWord_0 rfl (lv_at hl 0 rfl) ?_
  refine zg_RX4 X (36, 4, 4) (by decide) _ zks_4 (by decide) _ _ _ _ _ _ _ i _ (.int kd) hG.1 hob q4 dX4_isWord_1 ?_
  refine lv_iconst (v := 2) hx hb dX4_isWord_4 (by decide) ?_
  refine lv_icmp_ne (tgt := 24) hx hb dX4_isWord_5 (by decide) (fun _ => ?_) (fun _ => ?_)
  · skip
    refine lv_iconst (v := 0) hx hb dX4_isWord_24 (by decide) ?_
    exact r0_ _
  · skip
    refine lv_aload_n hx hb dX4_isWord_8 rfl (lv_at hl 0 rfl) ?_
    refine zg_RX4 X (30, 4, 6) (by decide) _ zks_4 (by decide) _ _ _ _ _ _ _ i _ (.int beh) hG.1 hob q6 dX4_isWord_9 ?_
    refine lv_aload_n hx hb dX4_isWord_12 rfl (lv_at hl 0 rfl) ?_
    refine zg_RX4 X (147, 4, 5) (by decide) _ zks_4 (by decide) _ _ _ _ _ _ _ i _ (.int sta) hG.1 hob q5 dX4_isWord_13 ?_
    refine lv_isub hx hb dX4_isWord_16 ?_
    refine lv_topi (fun y1 hy1 => ?_)
    have ey : y1.toInt = beh.toInt - sta.toInt := by rw [hy1, subI _ _ (by omega)]
    refine lv_aload_n hx hb dX4_isWord_17 rfl (lv_at hl 1 rfl) ?_
    refine vp_callSi (va_Run.run (va_runV (As := []) (rest := [.int y1]) X.1 (zj_length u n v g hn) (cwV 0 X.1.2.2.2.2 (gWl (List.forall_mem_append.mpr ⟨(List.forall_mem_cons.mpr ⟨lm_8_12, (List.forall_mem_cons.mpr ⟨lm_8_13, (List.forall_mem_cons.mpr ⟨lm_8_14, (List.forall_mem_cons.mpr ⟨lm_8_15, nilz⟩)⟩)⟩)⟩), List.forall_mem_cons.mpr ⟨lm_8_16, fun _ h => h⟩⟩)) rfl rfl rfl (by decide +kernel) ⟨by show 1 + 1 ≤ R.frames; omega, by show 8 + (1 + 11) + 60 * 1 ≤ R.locals; omega⟩) ⟨fbS1, ⟨cell, o1, o2, o3⟩, zS1_at ⟨cell, o1, o2, o3, o4⟩ z2 z3 z4 z5 z6 hS⟩ rfl rfl hl.1 rfl (lv_room (Nat.le_of_ble_eq_true rfl)) dX4_isWord_18 ⟨show 0 ≤ _ by omega, show 0 ≤ _ by omega⟩)) (fun r hr2 => ?_)
    subst hr2
    refine lv_icmp_eq (tgt := 26) hx hb dX4_isWord_21 (by decide) (fun heq => ?_) (fun _ => ?_)
    case refine_2 =>
      refine lv_iconst (v := 0) hx hb dX4_isWord_24 (by decide) ?_
      exact r0_ _
    have hbn : beh.toInt - sta.toInt = (n : Int) := by rw [← ey, heq, ofNT hn]
    refine lv_iconst (v := 0) hx hb dX4_isWord_26 (by decide) ?_
    refine lv_istore_n hx hb dX4_isWord_27 rfl hl (by decide) rfl (fun ls hl => ?_)
    have hl : lv_has ls 3 [(2, .int 0), (0, .ref a), (1, .ref u)] := hl
    suffices hloop : ∀ (k : Nat) (x : Int32) (ls : Array Slot), 0 ≤ x.toInt → x.toInt ≤ (n : Int) → ((n : Int) - x.toInt).toNat < k → lv_has ls 3 [(2, .int x), (0, .ref a), (1, .ref u)] → W p l e R s m args below meth c s.heap [] 0 0 Q (F0 m 28 ls []) from hloop _ _ ls (by decide) (by have : (0 : Int32).toInt = 0 := rfl; omega) (Nat.lt_succ_self _) hl
    clear hl
    intro k
    induction k with
    | zero => intro x ls h1 h2 hk; exact absurd hk (Nat.not_lt_zero _)
    | succ k ih =>
      intro x ls h1 h2 hk hl
      refine lv_iload_n hx hb dX4_isWord_28 rfl (lv_at hl 0 rfl) ?_
      refine lv_aload_n hx hb dX4_isWord_29 rfl (lv_at hl 2 rfl) ?_
      refine vp_callSi (va_Run.run (va_runV (As := []) (rest := [.int x]) X.1 (zj_length u n v g hn) (cwV 0 X.1.2.2.2.2 (gWl (List.forall_mem_append.mpr ⟨(List.forall_mem_cons.mpr ⟨lm_8_12, (List.forall_mem_cons.mpr ⟨lm_8_13, (List.forall_mem_cons.mpr ⟨lm_8_14, (List.forall_mem_cons.mpr ⟨lm_8_15, nilz⟩)⟩)⟩)⟩), List.forall_mem_cons.mpr ⟨lm_8_16, fun _ h => h⟩⟩)) rfl rfl rfl (by decide +kernel) ⟨by show 1 + 1 ≤ R.frames; omega, by show 8 + (1 + 11) + 60 * 1 ≤ R.locals; omega⟩) ⟨fbS1, ⟨cell, o1, o2, o3⟩, zS1_at ⟨cell, o1, o2, o3, o4⟩ z2 z3 z4 z5 z6 hS⟩ rfl rfl hl.1 rfl (lv_room (Nat.le_of_ble_eq_true rfl)) dX4_isWord_30 ⟨show 0 ≤ _ by omega, show 0 ≤ _ by omega⟩)) (fun r hr2 => ?_)
      subst hr2
      refine lv_icmp_ge (tgt := 63) hx hb dX4_isWord_33 (by decide) (fun _ => ?_) (fun hge => ?_)
      · skip
        refine lv_iconst (v := 1) hx hb dX4_isWord_63 (by decide) ?_
        exact hR 64 _ _ _ _ [.int 1] hG ⟨⟨⟨1, rfl, by decide⟩, trivial⟩, fun _ h => (by cases h), fun _ h => (by cases h)⟩ dX4_isWord_64
      · simp only [ge_iff_le, Int32.le_iff_toInt_le, ofNT hn] at hge
        refine lv_aload_n hx hb dX4_isWord_36 rfl (lv_at hl 1 rfl) ?_
        refine zg_RX4 X (11, 4, 0) (by decide) _ zks_4 (by decide) _ _ _ _ _ _ _ i _ (.ref r0) hG.1 hob q0 dX4_isWord_37 ?_
        refine lv_aload_n hx hb dX4_isWord_40 rfl (lv_at hl 1 rfl) ?_
        refine zg_RX4 X (147, 4, 5) (by decide) _ zks_4 (by decide) _ _ _ _ _ _ _ i _ (.int sta) hG.1 hob q5 dX4_isWord_41 ?_
        refine lv_iload_n hx hb dX4_isWord_44 rfl (lv_at hl 0 rfl) ?_
        refine lv_iadd hx hb dX4_isWord_45 ?_
        refine lv_topi (fun y2 hy2 => ?_)
        have ez : y2.toInt = sta.toInt + x.toInt := by rw [hy2, addI _ _ (by omega)]
        have hby : ∀ (bv : Int32) (ls : Array Slot), lv_has ls 3 [(2, .int x), (0, .ref a), (1, .ref u)] → W p l e R s m args below meth c s.heap [] 0 0 Q (F0 m 47 ls [.int bv]) := by
          intro bv ls hl
          refine lv_aload_n hx hb dX4_isWord_47 rfl (lv_at hl 2 rfl) ?_
          refine lv_iload_n hx hb dX4_isWord_48 rfl (lv_at hl 0 rfl) ?_
          refine vp_callSi (va_Run.run (va_runV (As := [.int x]) (rest := [.int bv]) X.1 (zj_charAt u n v g hn x h1 (by omega)) (cwV 1 X.1.2.2.2.2 (gWl (List.forall_mem_append.mpr ⟨(List.forall_mem_cons.mpr ⟨lm_9_0, (List.forall_mem_cons.mpr ⟨lm_9_1, (List.forall_mem_cons.mpr ⟨lm_9_2, (List.forall_mem_cons.mpr ⟨lm_8_15, nilz⟩)⟩)⟩)⟩), List.forall_mem_cons.mpr ⟨lm_9_3, fun _ h => h⟩⟩)) rfl rfl rfl (by decide +kernel) ⟨by show 3 + 1 ≤ R.frames; omega, by show 8 + (2 + 11) + 60 * 3 ≤ R.locals; omega⟩) ⟨fbS1, ⟨cell, o1, o2, o3⟩, zS1_at ⟨cell, o1, o2, o3, o4⟩ z2 z3 z4 z5 z6 hS⟩ rfl rfl hl.1 rfl (lv_room (Nat.le_of_ble_eq_true rfl)) dX4_isWord_49 ⟨show 0 ≤ _ by omega, show 0 ≤ _ by omega⟩)) (fun r _ => ?_)
          refine lv_icmp_eq (tgt := 57) hx hb dX4_isWord_52 (by decide) (fun _ => ?_) (fun _ => ?_)
          · skip
            refine lv_iinc (k := 0) hx hb dX4_isWord_57 hl rfl rfl (by decide) rfl (fun ls hl => ?_)
            have hl : lv_has ls 3 [(2, .int (x + Int32.ofInt 1)), (0, .ref a), (1, .ref u)] := hl
            refine lv_goto (tgt := 28) hx hb dX4_isWord_60 (by decide) ?_
            have e3 : (x + Int32.ofInt 1).toInt = x.toInt + 1 := by rw [addI _ _ (by rw [show (Int32.ofInt 1).toInt = 1 from by decide]; omega)]; rfl
            exact ih _ ls (by omega) (by omega) (by omega) hl
          · skip
            refine lv_iconst (v := 0) hx hb dX4_isWord_55 (by decide) ?_
            exact hR 56 _ _ _ _ [.int 0] hG ⟨⟨⟨0, rfl, by decide⟩, trivial⟩, fun _ h => (by cases h), fun _ h => (by cases h)⟩ dX4_isWord_56
        match eb, gb1, gb0 with
        | .inl (cA, zn, .inl fb), ⟨c1, c2, c3⟩, gb0 =>
          dsimp only at c1
          subst c1
          exact va_bald hx hb X.2.1.1 hG.1 j0 2 gb0 c2 (vp_in_iff.mpr ⟨by omega, by omega⟩) dX4_isWord_46 (hby _ ls hl)
        | .inl (_, _, .inr (.inl _)), ⟨_, _, b3⟩, _ => exact absurd b3.1 (show ¬ (2 : Nat) = 3 by decide)
        | .inl (_, _, .inr (.inr (.inr (.inr _)))), ⟨_, _, b3⟩, _ => exact absurd b3.1 (show ¬ (2 : Nat) = 4 by decide)
        | .inl (_, _, .inr (.inr (.inl _))), ⟨_, _, b3⟩, _ => exact b3.elim
        | .inl (_, _, .inr (.inr (.inr (.inl _)))), ⟨_, _, b3⟩, _ => exact b3.elim
        | .inr _, h4, _ => exact h4.elim
