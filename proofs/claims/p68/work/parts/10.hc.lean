theorem dX5_commonDivisor_0 : decode cX5_commonDivisor 0 = .ok (.lload_n 0, 1) := by decide +kernel
theorem dX5_commonDivisor_1 : decode cX5_commonDivisor 1 = .ok (.lstore 4, 2) := by decide +kernel
theorem dX5_commonDivisor_11 : decode cX5_commonDivisor 11 = .ok (.bipush 100, 2) := by decide +kernel
theorem dX5_commonDivisor_13 : decode cX5_commonDivisor 13 = .ok (.if_icmp .ge 31, 3) := by decide +kernel
theorem dX5_commonDivisor_16 : decode cX5_commonDivisor 16 = .ok (.lload 6, 2) := by decide +kernel
theorem dX5_commonDivisor_18 : decode cX5_commonDivisor 18 = .ok (.lconst 0, 1) := by decide +kernel
theorem dX5_commonDivisor_19 : decode cX5_commonDivisor 19 = .ok (.lcmp, 1) := by decide +kernel
theorem dX5_commonDivisor_20 : decode cX5_commonDivisor 20 = .ok (.ifCond .eq 24, 3) := by decide +kernel
theorem dX5_commonDivisor_23 : decode cX5_commonDivisor 23 = .ok (.lload 4, 2) := by decide +kernel
theorem dX5_commonDivisor_25 : decode cX5_commonDivisor 25 = .ok (.lload 6, 2) := by decide +kernel
theorem dX5_commonDivisor_27 : decode cX5_commonDivisor 27 = .ok (.lrem, 1) := by decide +kernel
theorem dX5_commonDivisor_28 : decode cX5_commonDivisor 28 = .ok (.lstore 9, 2) := by decide +kernel
theorem dX5_commonDivisor_3 : decode cX5_commonDivisor 3 = .ok (.lload_n 2, 1) := by decide +kernel
theorem dX5_commonDivisor_30 : decode cX5_commonDivisor 30 = .ok (.lload 6, 2) := by decide +kernel
theorem dX5_commonDivisor_32 : decode cX5_commonDivisor 32 = .ok (.lstore 4, 2) := by decide +kernel
theorem dX5_commonDivisor_34 : decode cX5_commonDivisor 34 = .ok (.lload 9, 2) := by decide +kernel
theorem dX5_commonDivisor_36 : decode cX5_commonDivisor 36 = .ok (.lstore 6, 2) := by decide +kernel
theorem dX5_commonDivisor_38 : decode cX5_commonDivisor 38 = .ok (.iinc 8 1, 3) := by decide +kernel
theorem dX5_commonDivisor_4 : decode cX5_commonDivisor 4 = .ok (.lstore 6, 2) := by decide +kernel
theorem dX5_commonDivisor_41 : decode cX5_commonDivisor 41 = .ok (.goto (-32), 3) := by decide +kernel
theorem dX5_commonDivisor_44 : decode cX5_commonDivisor 44 = .ok (.lload 4, 2) := by decide +kernel
theorem dX5_commonDivisor_46 : decode cX5_commonDivisor 46 = .ok (.lreturn, 1) := by decide +kernel
theorem dX5_commonDivisor_6 : decode cX5_commonDivisor 6 = .ok (.iconst 0, 1) := by decide +kernel
theorem dX5_commonDivisor_7 : decode cX5_commonDivisor 7 = .ok (.istore 8, 2) := by decide +kernel
theorem dX5_commonDivisor_9 : decode cX5_commonDivisor 9 = .ok (.iload 8, 2) := by decide +kernel
theorem zh_commonDiv {l : Launch} {D : va_G} {cI cZ cB cJ cR : ClassId} {ks ad : List Nat} {Psi : va_W → Prop} : zMet l D cI cZ cB cJ cR zKS ks ad Psi yX5_commonDivisor (.code yX5_commonDivisor cX5_commonDivisor 11 (some .long)) 0 ([(1, 0, 9223372036854775807), (1, 1, 9223372036854775807)], some (1, 1, 9223372036854775807), [], [], [], [], []) := by
  refine zmet_gen 0 (by decide) (Nat.le_of_ble_eq_true rfl) rfl ?_
  intro p e R s m args below meth c Q A ws As ls X hG hok hpre hR hl
  have hx := X.1.1
  have hb := X.1.2.1
  obtain ⟨_, _, rfl, ⟨x, rfl, lx⟩, hok1⟩ := zst1 hok
  obtain ⟨_, _, rfl, ⟨y, rfl, ly⟩, hok2⟩ := zst1 hok1
  obtain rfl := zst0 hok2
  dsimp only at lx ly
  have hl : lv_has ls 11 [(0, .long x), (2, .long y)] := hl
  refine lv_lload_n hx hb dX5_commonDivisor_0 rfl (lv_at hl 0 rfl) ?_
  refine lv_lstore hx hb dX5_commonDivisor_1 hl (by decide) rfl (fun ls hl => ?_)
  have hl : lv_has ls 11 [(4, .long x), (0, .long x), (2, .long y)] := hl
  refine lv_lload_n hx hb dX5_commonDivisor_3 rfl (lv_at hl 2 rfl) ?_
  refine lv_lstore hx hb dX5_commonDivisor_4 hl (by decide) rfl (fun ls hl => ?_)
  have hl : lv_has ls 11 [(6, .long y), (4, .long x), (0, .long x), (2, .long y)] := hl
  refine lv_iconst (v := 0) hx hb dX5_commonDivisor_6 (by decide) ?_
  refine lv_istore hx hb dX5_commonDivisor_7 hl (by decide) rfl (fun ls hl => ?_)
  have hl : lv_has ls 11 [(8, .int 0), (6, .long y), (4, .long x), (0, .long x), (2, .long y)] := hl
  suffices hloop : ∀ (k : Nat) (i : Int32) (o t : Int64) (ls : Array Slot), 0 ≤ i.toInt → i.toInt ≤ 100 → 0 ≤ o.toInt → 0 ≤ t.toInt → (1 ≤ o.toInt ∨ (i.toInt = 0 ∧ 1 ≤ t.toInt)) → (100 - i.toInt).toNat < k → lv_has ls 11 [(8, .int i), (6, .long t), (4, .long o), (0, .long x), (2, .long y)] → W p l e R s m args below meth c s.heap [] 0 0 Q (F0 m 9 ls []) from hloop _ 0 x y ls (by decide) (by decide) lx.1 (by omega) (Or.inr ⟨by decide, ly.1⟩) (Nat.lt_succ_self _) (lv_sub hl [0, 1, 2, 3, 4] rfl)
  clear hl
  intro k
  induction k with
  | zero => intro i o t ls h1 h2 h3 h4 h5 hk; exact absurd hk (Nat.not_lt_zero _)
  | succ k ih =>
    intro i o t ls h1 h2 h3 h4 h5 hk hl
    have hex : 1 ≤ o.toInt → W p l e R s m args below meth c s.heap [] 0 0 Q (F0 m 44 ls []) := by
      intro ho
      refine lv_lload hx hb dX5_commonDivisor_44 (lv_at hl 2 rfl) ?_
      exact hR 46 _ _ _ _ [.long o] hG ⟨⟨⟨_, rfl, ho, (bL _).2⟩, trivial⟩, fun _ h => (by cases h), fun _ h => (by cases h)⟩ dX5_commonDivisor_46
    refine lv_iload hx hb dX5_commonDivisor_9 (lv_at hl 0 rfl) ?_
    refine lv_bipush (v := 100) hx hb dX5_commonDivisor_11 (by decide) ?_
    refine lv_icmp_ge (tgt := 44) hx hb dX5_commonDivisor_13 (by decide) (fun hge => ?_) (fun hge => ?_)
    · simp only [ge_iff_le, Int32.le_iff_toInt_le, Int32.reduceToInt] at hge
      exact hex (by omega)
    · simp only [ge_iff_le, Int32.le_iff_toInt_le, Int32.reduceToInt] at hge
      refine lv_lload hx hb dX5_commonDivisor_16 (lv_at hl 1 rfl) ?_
      refine lv_lconst (v := 0) hx hb dX5_commonDivisor_18 (by decide) ?_
      refine W.lcmp hx hb dX5_commonDivisor_19 ?_
      refine lv_if_eq (tgt := 44) hx hb dX5_commonDivisor_20 (by decide) (fun heq => ?_) (fun hne => ?_)
      · have ht : t.toInt = 0 := by
          have h0 : (lg_cmp t 0).toInt = 0 := by rw [heq]; rfl
          have g1 := cmp_ge (x := t) (y := 0) (by omega)
          have g2 := cmp_le (x := t) (y := 0) (by omega)
          have g3 : (0 : Int64).toInt = 0 := rfl
          omega
        exact hex (by omega)
      · have ht : t.toInt ≠ 0 := fun h9 => hne (by rw [show t = 0 from Int64.toInt_inj.mp h9]; decide)
        refine lv_lload hx hb dX5_commonDivisor_23 (lv_at hl 2 rfl) ?_
        refine lv_lload hx hb dX5_commonDivisor_25 (lv_at hl 1 rfl) ?_
        refine lv_lrem hx hb dX5_commonDivisor_27 (ne64 (by omega)) ?_
        have er := remL o t (by omega) (by omega)
        have e1 := Int.emod_nonneg o.toInt (show t.toInt ≠ 0 by omega)
        generalize o - o / t * t = r at er ⊢
        refine lv_lstore hx hb dX5_commonDivisor_28 hl (by decide) rfl (fun ls hl => ?_)
        have hl : lv_has ls 11 [(9, .long r), (8, .int i), (6, .long t), (4, .long o), (0, .long x), (2, .long y)] := hl
        refine lv_lload hx hb dX5_commonDivisor_30 (lv_at hl 2 rfl) ?_
        refine lv_lstore hx hb dX5_commonDivisor_32 hl (by decide) rfl (fun ls hl => ?_)
        have hl : lv_has ls 11 [(4, .long t), (9, .long r), (8, .int i), (6, .long t), (0, .long x), (2, .long y)] := hl
        refine lv_lload hx hb dX5_commonDivisor_34 (lv_at hl 1 rfl) ?_
        refine lv_lstore hx hb dX5_commonDivisor_36 hl (by decide) rfl (fun ls hl => ?_)
        have hl : lv_has ls 11 [(6, .long r), (4, .long t), (9, .long r), (8, .int i), (0, .long x), (2, .long y)] := hl
        refine lv_iinc (k := 3) hx hb dX5_commonDivisor_38 hl rfl rfl (by decide) rfl (fun ls hl => ?_)
        have hl : lv_has ls 11 [(8, .int (i + Int32.ofInt 1)), (6, .long r), (4, .long t), (9, .long r), (0, .long x), (2, .long y)] := hl
        refine lv_goto (tgt := 9) hx hb dX5_commonDivisor_41 (by decide) ?_
        have e3 : (i + Int32.ofInt 1).toInt = i.toInt + 1 := by rw [addI _ _ (by rw [show (Int32.ofInt 1).toInt = 1 from by decide]; omega)]; rfl
        exact ih _ _ _ ls (by omega) (by omega) (by omega) (by omega) (Or.inl (by omega)) (by omega) (lv_sub hl [0, 1, 2, 4, 5] rfl)
