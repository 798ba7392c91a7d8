theorem dX0_keepAct_0 : decode cX0_keepAct 0 = .ok (.aload_n 0, 1) := by decide +kernel
theorem dX0_keepAct_1 : decode cX0_keepAct 1 = .ok (.getfield 52, 3) := by decide +kernel
theorem dX0_keepAct_10 : decode cX0_keepAct 10 = .ok (.aload_n 0, 1) := by decide +kernel
theorem dX0_keepAct_11 : decode cX0_keepAct 11 = .ok (.getfield 30, 3) := by decide +kernel
theorem dX0_keepAct_14 : decode cX0_keepAct 14 = .ok (.aload_n 0, 1) := by decide +kernel
theorem dX0_keepAct_15 : decode cX0_keepAct 15 = .ok (.getfield 52, 3) := by decide +kernel
theorem dX0_keepAct_18 : decode cX0_keepAct 18 = .ok (.iload_n 1, 1) := by decide +kernel
theorem dX0_keepAct_19 : decode cX0_keepAct 19 = .ok (.iastore, 1) := by decide +kernel
theorem dX0_keepAct_20 : decode cX0_keepAct 20 = .ok (.aload_n 0, 1) := by decide +kernel
theorem dX0_keepAct_21 : decode cX0_keepAct 21 = .ok (.getfield 33, 3) := by decide +kernel
theorem dX0_keepAct_24 : decode cX0_keepAct 24 = .ok (.aload_n 0, 1) := by decide +kernel
theorem dX0_keepAct_25 : decode cX0_keepAct 25 = .ok (.getfield 52, 3) := by decide +kernel
theorem dX0_keepAct_28 : decode cX0_keepAct 28 = .ok (.iload_n 2, 1) := by decide +kernel
theorem dX0_keepAct_29 : decode cX0_keepAct 29 = .ok (.iastore, 1) := by decide +kernel
theorem dX0_keepAct_30 : decode cX0_keepAct 30 = .ok (.aload_n 0, 1) := by decide +kernel
theorem dX0_keepAct_31 : decode cX0_keepAct 31 = .ok (.getfield 36, 3) := by decide +kernel
theorem dX0_keepAct_34 : decode cX0_keepAct 34 = .ok (.aload_n 0, 1) := by decide +kernel
theorem dX0_keepAct_35 : decode cX0_keepAct 35 = .ok (.getfield 52, 3) := by decide +kernel
theorem dX0_keepAct_38 : decode cX0_keepAct 38 = .ok (.iload_n 3, 1) := by decide +kernel
theorem dX0_keepAct_39 : decode cX0_keepAct 39 = .ok (.iastore, 1) := by decide +kernel
theorem dX0_keepAct_4 : decode cX0_keepAct 4 = .ok (.bipush 40, 2) := by decide +kernel
theorem dX0_keepAct_40 : decode cX0_keepAct 40 = .ok (.aload_n 0, 1) := by decide +kernel
theorem dX0_keepAct_41 : decode cX0_keepAct 41 = .ok (.getfield 39, 3) := by decide +kernel
theorem dX0_keepAct_44 : decode cX0_keepAct 44 = .ok (.aload_n 0, 1) := by decide +kernel
theorem dX0_keepAct_45 : decode cX0_keepAct 45 = .ok (.getfield 52, 3) := by decide +kernel
theorem dX0_keepAct_48 : decode cX0_keepAct 48 = .ok (.aload_n 0, 1) := by decide +kernel
theorem dX0_keepAct_49 : decode cX0_keepAct 49 = .ok (.getfield 24, 3) := by decide +kernel
theorem dX0_keepAct_52 : decode cX0_keepAct 52 = .ok (.iload_n 1, 1) := by decide +kernel
theorem dX0_keepAct_53 : decode cX0_keepAct 53 = .ok (.iaload, 1) := by decide +kernel
theorem dX0_keepAct_54 : decode cX0_keepAct 54 = .ok (.iastore, 1) := by decide +kernel
theorem dX0_keepAct_55 : decode cX0_keepAct 55 = .ok (.aload_n 0, 1) := by decide +kernel
theorem dX0_keepAct_56 : decode cX0_keepAct 56 = .ok (.dup, 1) := by decide +kernel
theorem dX0_keepAct_57 : decode cX0_keepAct 57 = .ok (.getfield 52, 3) := by decide +kernel
theorem dX0_keepAct_6 : decode cX0_keepAct 6 = .ok (.if_icmp .lt 4, 3) := by decide +kernel
theorem dX0_keepAct_60 : decode cX0_keepAct 60 = .ok (.iconst 1, 1) := by decide +kernel
theorem dX0_keepAct_61 : decode cX0_keepAct 61 = .ok (.iadd, 1) := by decide +kernel
theorem dX0_keepAct_62 : decode cX0_keepAct 62 = .ok (.putfield 52, 3) := by decide +kernel
theorem dX0_keepAct_65 : decode cX0_keepAct 65 = .ok (.return_, 1) := by decide +kernel
theorem dX0_keepAct_9 : decode cX0_keepAct 9 = .ok (.return_, 1) := by decide +kernel
theorem dX0_settle_0 : decode cX0_settle 0 = .ok (.aload_n 0, 1) := by decide +kernel
theorem dX0_settle_1 : decode cX0_settle 1 = .ok (.getfield 46, 3) := by decide +kernel
theorem dX0_settle_10 : decode cX0_settle 10 = .ok (.aload_n 0, 1) := by decide +kernel
theorem dX0_settle_11 : decode cX0_settle 11 = .ok (.getfield 15, 3) := by decide +kernel
theorem dX0_settle_14 : decode cX0_settle 14 = .ok (.aload_n 0, 1) := by decide +kernel
theorem dX0_settle_15 : decode cX0_settle 15 = .ok (.getfield 46, 3) := by decide +kernel
theorem dX0_settle_18 : decode cX0_settle 18 = .ok (.iload_n 1, 1) := by decide +kernel
theorem dX0_settle_19 : decode cX0_settle 19 = .ok (.iastore, 1) := by decide +kernel
theorem dX0_settle_20 : decode cX0_settle 20 = .ok (.aload_n 0, 1) := by decide +kernel
theorem dX0_settle_21 : decode cX0_settle 21 = .ok (.getfield 18, 3) := by decide +kernel
theorem dX0_settle_24 : decode cX0_settle 24 = .ok (.aload_n 0, 1) := by decide +kernel
theorem dX0_settle_25 : decode cX0_settle 25 = .ok (.getfield 46, 3) := by decide +kernel
theorem dX0_settle_28 : decode cX0_settle 28 = .ok (.iload_n 2, 1) := by decide +kernel
theorem dX0_settle_29 : decode cX0_settle 29 = .ok (.iastore, 1) := by decide +kernel
theorem dX0_settle_30 : decode cX0_settle 30 = .ok (.aload_n 0, 1) := by decide +kernel
theorem dX0_settle_31 : decode cX0_settle 31 = .ok (.getfield 24, 3) := by decide +kernel
theorem dX0_settle_34 : decode cX0_settle 34 = .ok (.aload_n 0, 1) := by decide +kernel
theorem dX0_settle_35 : decode cX0_settle 35 = .ok (.getfield 46, 3) := by decide +kernel
theorem dX0_settle_38 : decode cX0_settle 38 = .ok (.iconst 0, 1) := by decide +kernel
theorem dX0_settle_39 : decode cX0_settle 39 = .ok (.iastore, 1) := by decide +kernel
theorem dX0_settle_4 : decode cX0_settle 4 = .ok (.bipush 7, 2) := by decide +kernel
theorem dX0_settle_40 : decode cX0_settle 40 = .ok (.iconst 0, 1) := by decide +kernel
theorem dX0_settle_41 : decode cX0_settle 41 = .ok (.istore_n 3, 1) := by decide +kernel
theorem dX0_settle_42 : decode cX0_settle 42 = .ok (.iload_n 3, 1) := by decide +kernel
theorem dX0_settle_43 : decode cX0_settle 43 = .ok (.bipush 12, 2) := by decide +kernel
theorem dX0_settle_45 : decode cX0_settle 45 = .ok (.if_icmp .ge 24, 3) := by decide +kernel
theorem dX0_settle_48 : decode cX0_settle 48 = .ok (.aload_n 0, 1) := by decide +kernel
theorem dX0_settle_49 : decode cX0_settle 49 = .ok (.getfield 21, 3) := by decide +kernel
theorem dX0_settle_52 : decode cX0_settle 52 = .ok (.aload_n 0, 1) := by decide +kernel
theorem dX0_settle_53 : decode cX0_settle 53 = .ok (.getfield 46, 3) := by decide +kernel
theorem dX0_settle_56 : decode cX0_settle 56 = .ok (.bipush 12, 2) := by decide +kernel
theorem dX0_settle_58 : decode cX0_settle 58 = .ok (.imul, 1) := by decide +kernel
theorem dX0_settle_59 : decode cX0_settle 59 = .ok (.iload_n 3, 1) := by decide +kernel
theorem dX0_settle_6 : decode cX0_settle 6 = .ok (.if_icmp .lt 4, 3) := by decide +kernel
theorem dX0_settle_60 : decode cX0_settle 60 = .ok (.iadd, 1) := by decide +kernel
theorem dX0_settle_61 : decode cX0_settle 61 = .ok (.iload_n 1, 1) := by decide +kernel
theorem dX0_settle_62 : decode cX0_settle 62 = .ok (.iastore, 1) := by decide +kernel
theorem dX0_settle_63 : decode cX0_settle 63 = .ok (.iinc 3 1, 3) := by decide +kernel
theorem dX0_settle_66 : decode cX0_settle 66 = .ok (.goto (-24), 3) := by decide +kernel
theorem dX0_settle_69 : decode cX0_settle 69 = .ok (.aload_n 0, 1) := by decide +kernel
theorem dX0_settle_70 : decode cX0_settle 70 = .ok (.dup, 1) := by decide +kernel
theorem dX0_settle_71 : decode cX0_settle 71 = .ok (.getfield 46, 3) := by decide +kernel
theorem dX0_settle_74 : decode cX0_settle 74 = .ok (.iconst 1, 1) := by decide +kernel
theorem dX0_settle_75 : decode cX0_settle 75 = .ok (.iadd, 1) := by decide +kernel
theorem dX0_settle_76 : decode cX0_settle 76 = .ok (.putfield 46, 3) := by decide +kernel
theorem dX0_settle_79 : decode cX0_settle 79 = .ok (.return_, 1) := by decide +kernel
theorem dX0_settle_9 : decode cX0_settle 9 = .ok (.return_, 1) := by decide +kernel
theorem zh_settle {l : Launch} {D : va_G} {cI cZ cB cJ cR : ClassId} {ks ad : List Nat} (hw : zworld ks ad zuq zNS (zPsi ks ad)) : zMet l D cI cZ cB cJ cR zKS ks ad (zPsi ks ad) yX0_settle (.code yX0_settle cX0_settle 4 none) 2 ([(2, 0, 0), (0, 0, 9), (0, (-1), 6)], none, [], [], [], [(0, 2)], []) := by
  refine zmet_gen 2 (by decide) (Nat.le_of_ble_eq_true rfl) rfl ?_
  intro p e R s m args below meth c Q A ws As ls X hG hok hpre hR hl
  have hx := X.1.1
  have hb := X.1.2.1
  obtain ⟨_, _, rfl, ⟨a, i, rfl, ki, di⟩, hok1⟩ := zst1 hok
  obtain ⟨_, _, rfl, ⟨v1, rfl, lv1⟩, hok2⟩ := zst1 hok1
  obtain ⟨_, _, rfl, ⟨v2, rfl, lv2⟩, hok3⟩ := zst1 hok2
  obtain rfl := zst0 hok3
  dsimp only at lv1 lv2
  have hl : lv_has ls 4 [(0, .ref a), (1, .int v1), (2, .int v2)] := hl
  obtain ⟨r0, n1, n2, n3, r4, r5, r6, r7, r8, n9, r10, r11, r12, r13, hcity, l2, l9, ⟨j0, k0, d0⟩, ⟨j4, k4, d4⟩, ⟨j5, k5, d5⟩, ⟨j6, k6, d6⟩, ⟨j7, k7, d7⟩, ⟨j8, k8, d8⟩, ⟨j10, k10, d10⟩, ⟨k11, d11⟩, ⟨k12, d12⟩, ⟨j13, k13, d13⟩⟩ := zcityP hG.2.2.2.1 hG.2.2.2.2.1 ki di
  obtain ⟨f4, g4, m4⟩ := zarrI hG.2.2.2.1 k4 d4 (rfl : zKS[8]? = _)
  obtain ⟨f5, g5, m5⟩ := zarrI hG.2.2.2.1 k5 d5 (rfl : zKS[9]? = _)
  obtain ⟨f7, g7, m7⟩ := zarrI hG.2.2.2.1 k7 d7 (rfl : zKS[11]? = _)
  obtain ⟨f6, g6, m6⟩ := zarrI hG.2.2.2.1 k6 d6 (rfl : zKS[10]? = _)
  refine lv_aload_n hx hb dX0_settle_0 rfl (lv_at hl 0 rfl) ?_
  refine zg_RX0 X (46, 0, 2) (by decide) _ zks_0 (by decide) _ _ _ _ _ _ _ i _ (.int n2) hG.1 hcity rfl dX0_settle_1 ?_
  refine lv_bipush (v := 7) hx hb dX0_settle_4 (by decide) ?_
  refine lv_icmp_lt (tgt := 10) hx hb dX0_settle_6 (by decide) (fun hlt => ?_) (fun _ => ?_)
  case refine_2 =>
    exact hR 9 _ _ _ _ [] hG ⟨trivial, fun _ h => (by cases h), fun _ h => (by cases h)⟩ dX0_settle_9
  simp only [Int32.lt_iff_toInt_lt, Int32.reduceToInt] at hlt
  refine lv_aload_n hx hb dX0_settle_10 rfl (lv_at hl 0 rfl) ?_
  refine zg_RX0 X (15, 0, 4) (by decide) _ zks_0 (by decide) _ _ _ _ _ _ _ i _ (.ref r4) hG.1 hcity rfl dX0_settle_11 ?_
  refine lv_aload_n hx hb dX0_settle_14 rfl (lv_at hl 0 rfl) ?_
  refine zg_RX0 X (46, 0, 2) (by decide) _ zks_0 (by decide) _ _ _ _ _ _ _ i _ (.int n2) hG.1 hcity rfl dX0_settle_15 ?_
  refine lv_iload_n hx hb dX0_settle_18 rfl (lv_at hl 1 rfl) ?_
  refine va_iast hx hb X.2.1.1 hG.1 hG.2.1 hG.2.2.1 j4 0 g4 rfl (vp_in_iff.mpr ⟨by omega, by omega⟩) dX0_settle_19 (fun H locs a1 a2 a3 => ?_)
  have hG := hG.sti hw k4 (by decide) g4 rfl (by decide) m4 lv1 a1 a2 a3
  clear a1 a2 a3
  have hcity := zhk1 hG (znk k4 ki (by decide)) hcity
  have g5 := zhk1 hG (znk k4 k5 (by decide)) g5
  have g7 := zhk1 hG (znk k4 k7 (by decide)) g7
  have g6 := zhk1 hG (znk k4 k6 (by decide)) g6
  refine lv_aload_n hx hb dX0_settle_20 rfl (lv_at hl 0 rfl) ?_
  refine zg_RX0 X (18, 0, 5) (by decide) _ zks_0 (by decide) _ _ _ _ _ _ _ i _ (.ref r5) hG.1 hcity rfl dX0_settle_21 ?_
  refine lv_aload_n hx hb dX0_settle_24 rfl (lv_at hl 0 rfl) ?_
  refine zg_RX0 X (46, 0, 2) (by decide) _ zks_0 (by decide) _ _ _ _ _ _ _ i _ (.int n2) hG.1 hcity rfl dX0_settle_25 ?_
  refine lv_iload_n hx hb dX0_settle_28 rfl (lv_at hl 2 rfl) ?_
  refine va_iast hx hb X.2.1.1 hG.1 hG.2.1 hG.2.2.1 j5 0 g5 rfl (vp_in_iff.mpr ⟨by omega, by omega⟩) dX0_settle_29 (fun H locs a1 a2 a3 => ?_)
  have hG := hG.sti hw k5 (by decide) g5 rfl (by decide) m5 lv2 a1 a2 a3
  clear a1 a2 a3
  have hcity := zhk1 hG (znk k5 ki (by decide)) hcity
  have g7 := zhk1 hG (znk k5 k7 (by decide)) g7
  have g6 := zhk1 hG (znk k5 k6 (by decide)) g6
  refine lv_aload_n hx hb dX0_settle_30 rfl (lv_at hl 0 rfl) ?_
  refine zg_RX0 X (24, 0, 7) (by decide) _ zks_0 (by decide) _ _ _ _ _ _ _ i _ (.ref r7) hG.1 hcity rfl dX0_settle_31 ?_
  refine lv_aload_n hx hb dX0_settle_34 rfl (lv_at hl 0 rfl) ?_
  refine zg_RX0 X (46, 0, 2) (by decide) _ zks_0 (by decide) _ _ _ _ _ _ _ i _ (.int n2) hG.1 hcity rfl dX0_settle_35 ?_
  refine lv_iconst (v := 0) hx hb dX0_settle_38 (by decide) ?_
  refine va_iast hx hb X.2.1.1 hG.1 hG.2.1 hG.2.2.1 j7 0 g7 rfl (vp_in_iff.mpr ⟨by omega, by omega⟩) dX0_settle_39 (fun H locs a1 a2 a3 => ?_)
  have hG := hG.sti hw k7 (by decide) g7 rfl (by decide) m7 (bT _) a1 a2 a3
  clear a1 a2 a3
  have hcity := zhk1 hG (znk k7 ki (by decide)) hcity
  have g6 := zhk1 hG (znk k7 k6 (by decide)) g6
  refine lv_iconst (v := 0) hx hb dX0_settle_40 (by decide) ?_
  refine lv_istore_n hx hb dX0_settle_41 rfl hl (by decide) rfl (fun ls hl => ?_)
  have hl : lv_has ls 4 [(3, .int 0), (0, .ref a), (1, .int v1), (2, .int v2)] := hl
  suffices hloop : ∀ (k : Nat) (n : Int32) (ls : Array Slot) (w : va_W) (H : Heap) (locs : List Loc) (f6 : Nat → Int32), 0 ≤ n.toInt → n.toInt ≤ 12 → (12 - n.toInt).toNat < k → lv_has ls 4 [(3, .int n), (0, .ref a), (1, .int v1), (2, .int v2)] → zHp D vwCl A s.heap (tyA cI cZ cB cJ cR) zKS ks ad RX0 (zPsi ks ad) [(0, 2)] ws w H locs → w[i]? = some (a, .inr (0, zCf r0 n1 n2 n3 r4 r5 r6 r7 r8 n9 r10 r11 r12 r13)) → w[j6]? = some (r6, .inl (cI, 84, .inl f6)) → (∀ q, q < 84 → (zel [(0, 0, 9)] q).2.1 ≤ (f6 q).toInt ∧ (f6 q).toInt ≤ (zel [(0, 0, 9)] q).2.2) → W p l e R s m args below meth c H locs 0 0 Q (F0 m 42 ls []) from hloop _ _ ls _ _ _ f6 (by decide) (by decide) (Nat.lt_succ_self _) hl hG hcity g6 m6
  clear hl hG hcity g6 m6 g4 g5 g7
  intro k
  induction k with
  | zero => intro n ls w H locs f6 h1 h2 hk; exact absurd hk (Nat.not_lt_zero _)
  | succ k ih =>
    intro n ls w H locs f6 h1 h2 hk hl hG hcity g6 m6
    refine lv_iload_n hx hb dX0_settle_42 rfl (lv_at hl 0 rfl) ?_
    refine lv_bipush (v := 12) hx hb dX0_settle_43 (by decide) ?_
    refine lv_icmp_ge (tgt := 69) hx hb dX0_settle_45 (by decide) (fun _ => ?_) (fun hge => ?_)
    · skip
      refine lv_aload_n hx hb dX0_settle_69 rfl (lv_at hl 1 rfl) ?_
      refine lv_dup hx hb dX0_settle_70 rfl ?_
      refine zg_RX0 X (46, 0, 2) (by decide) _ zks_0 (by decide) _ _ _ _ _ _ _ i _ (.int n2) hG.1 hcity rfl dX0_settle_71 ?_
      refine lv_iconst (v := 1) hx hb dX0_settle_74 (by decide) ?_
      refine lv_iadd hx hb dX0_settle_75 ?_
      have hvv : zok ks ad (0, 0, 7) (.int (n2 + 1)) := ⟨_, rfl, by rw [addI _ _ (by simp only [Int32.reduceToInt]; omega)]; simp only [Int32.reduceToInt]; omega⟩
      refine zp_RX0 X (46, 0, 2) (by decide) _ (0, 0, 7) zks_0 rfl _ _ _ _ _ _ _ i _ _ hG.1 hG.2.1 hG.2.2.1 hcity rfl hvv dX0_settle_76 (fun H locs a1 a2 a3 => ?_)
      have hG := hG.putf hw ki (by decide) zks_0 rfl hcity rfl hvv (List.mem_of_getElem? (i := 0) rfl) a1 a2 a3
      have g6 := zhk1 hG (znk ki k6 (by decide)) g6
      have hcity := zhkz hG hcity
      exact hR 79 _ _ _ _ [] hG ⟨trivial, fun _ h => (by cases h), fun _ h => (by cases h)⟩ dX0_settle_79
    · simp only [Int32.not_le, Int32.lt_iff_toInt_lt, Int32.reduceToInt, ge_iff_le] at hge
      refine lv_aload_n hx hb dX0_settle_48 rfl (lv_at hl 1 rfl) ?_
      refine zg_RX0 X (21, 0, 6) (by decide) _ zks_0 (by decide) _ _ _ _ _ _ _ i _ (.ref r6) hG.1 hcity rfl dX0_settle_49 ?_
      refine lv_aload_n hx hb dX0_settle_52 rfl (lv_at hl 1 rfl) ?_
      refine zg_RX0 X (46, 0, 2) (by decide) _ zks_0 (by decide) _ _ _ _ _ _ _ i _ (.int n2) hG.1 hcity rfl dX0_settle_53 ?_
      refine lv_bipush (v := 12) hx hb dX0_settle_56 (by decide) ?_
      refine lv_imul hx hb dX0_settle_58 ?_
      refine lv_topi (fun y1 hy1 => ?_)
      have e1 : y1.toInt = n2.toInt * 12 := by rw [hy1, mulI _ _ (by simp only [Int32.reduceToInt]; omega)]; rfl
      refine lv_iload_n hx hb dX0_settle_59 rfl (lv_at hl 0 rfl) ?_
      refine lv_iadd hx hb dX0_settle_60 ?_
      refine lv_topi (fun y2 hy2 => ?_)
      have e2 : y2.toInt = n2.toInt * 12 + n.toInt := by rw [hy2, addI _ _ (by omega), e1]
      refine lv_iload_n hx hb dX0_settle_61 rfl (lv_at hl 2 rfl) ?_
      refine va_iast hx hb X.2.1.1 hG.1 hG.2.1 hG.2.2.1 j6 0 g6 rfl (vp_in_iff.mpr ⟨by omega, by omega⟩) dX0_settle_62 (fun H locs a1 a2 a3 => ?_)
      have hG2 := hG.sti hw k6 (by decide) g6 rfl (by decide) m6 lv1 a1 a2 a3
      refine lv_iinc (k := 0) hx hb dX0_settle_63 hl rfl rfl (by decide) rfl (fun ls hl => ?_)
      have hl : lv_has ls 4 [(3, .int (n + Int32.ofInt 1)), (0, .ref a), (1, .int v1), (2, .int v2)] := hl
      refine lv_goto (tgt := 42) hx hb dX0_settle_66 (by decide) ?_
      have e3 : (n + Int32.ofInt 1).toInt = n.toInt + 1 := by rw [addI _ _ (by simp only [Int32.reduceToInt, show Int32.ofInt 1 = 1 from by decide]; omega)]; rfl
      refine ih (n + Int32.ofInt 1) ls _ H locs _ (by omega) (by omega) (by omega) hl hG2 (zhk1 hG2 (znk k6 ki (by decide)) hcity) (zhkz hG2 g6) (fun q hq => updB (m6 q hq) lv1)
theorem zh_keepAct {l : Launch} {D : va_G} {cI cZ cB cJ cR : ClassId} {ks ad : List Nat} {h1 h2 b1 b2 : Int} (hrel : ∀ h b : Int32, h1 ≤ h.toInt → h.toInt ≤ h2 → b1 ≤ b.toInt → b.toInt ≤ b2 → zrl h b ∧ (-1 ≤ h.toInt ∧ h.toInt ≤ 11) ∧ (-1 ≤ b.toInt ∧ b.toInt ≤ 9)) (hw : zworld ks ad zuq zNS (zPsi ks ad)) : zMet l D cI cZ cB cJ cR zKS ks ad (zPsi ks ad) yX0_keepAct (.code yX0_keepAct cX0_keepAct 4 none) 2 ([(2, 0, 0), (0, 0, 6), (0, h1, h2), (0, b1, b2)], none, [], [], [], [(0, 9)], []) := by
  refine zmet_gen 2 (by decide) (Nat.le_of_ble_eq_true rfl) rfl ?_
  intro p e R s m args below meth c Q A ws As ls X hG hok hpre hR hl
  have hx := X.1.1
  have hb := X.1.2.1
  obtain ⟨_, _, rfl, ⟨a, i, rfl, ki, di⟩, hok1⟩ := zst1 hok
  obtain ⟨_, _, rfl, ⟨v1, rfl, lv1⟩, hok2⟩ := zst1 hok1
  obtain ⟨_, _, rfl, ⟨v2, rfl, lv2⟩, hok3⟩ := zst1 hok2
  obtain ⟨_, _, rfl, ⟨v3, rfl, lv3⟩, hok4⟩ := zst1 hok3
  obtain rfl := zst0 hok4
  dsimp only at lv1 lv2 lv3
  obtain ⟨hrl, hrh, hrb⟩ := hrel v2 v3 lv2.1 lv2.2 lv3.1 lv3.2
  have hl : lv_has ls 4 [(0, .ref a), (1, .int v1), (2, .int v2), (3, .int v3)] := hl
  obtain ⟨r0, n1, n2, n3, r4, r5, r6, r7, r8, n9, r10, r11, r12, r13, hcity, l2, l9, ⟨j0, k0, d0⟩, ⟨j4, k4, d4⟩, ⟨j5, k5, d5⟩, ⟨j6, k6, d6⟩, ⟨j7, k7, d7⟩, ⟨j8, k8, d8⟩, ⟨j10, k10, d10⟩, ⟨k11, d11⟩, ⟨k12, d12⟩, ⟨j13, k13, d13⟩⟩ := zcityP hG.2.2.2.1 hG.2.2.2.2.1 ki di
  obtain ⟨f10, g10, m10⟩ := zarrI hG.2.2.2.1 k10 d10 (rfl : zKS[13]? = _)
  obtain ⟨f11, g11, m11⟩ := zarrI hG.2.2.2.1 k11 d11 (rfl : zKS[14]? = _)
  obtain ⟨f12, g12, m12⟩ := zarrI hG.2.2.2.1 k12 d12 (rfl : zKS[15]? = _)
  obtain ⟨f13, g13, m13⟩ := zarrI hG.2.2.2.1 k13 d13 (rfl : zKS[16]? = _)
  obtain ⟨f7, g7, m7⟩ := zarrI hG.2.2.2.1 k7 d7 (rfl : zKS[11]? = _)
  refine lv_aload_n hx hb dX0_keepAct_0 rfl (lv_at hl 0 rfl) ?_
  refine zg_RX0 X (52, 0, 9) (by decide) _ zks_0 (by decide) _ _ _ _ _ _ _ i _ (.int n9) hG.1 hcity rfl dX0_keepAct_1 ?_
  refine lv_bipush (v := 40) hx hb dX0_keepAct_4 (by decide) ?_
  refine lv_icmp_lt (tgt := 10) hx hb dX0_keepAct_6 (by decide) (fun hlt => ?_) (fun _ => ?_)
  case refine_2 =>
    exact hR 9 _ _ _ _ [] hG ⟨trivial, fun _ h => (by cases h), fun _ h => (by cases h)⟩ dX0_keepAct_9
  simp only [Int32.lt_iff_toInt_lt, Int32.reduceToInt] at hlt
  refine lv_aload_n hx hb dX0_keepAct_10 rfl (lv_at hl 0 rfl) ?_
  refine zg_RX0 X (30, 0, 10) (by decide) _ zks_0 (by decide) _ _ _ _ _ _ _ i _ (.ref r10) hG.1 hcity rfl dX0_keepAct_11 ?_
  refine lv_aload_n hx hb dX0_keepAct_14 rfl (lv_at hl 0 rfl) ?_
  refine zg_RX0 X (52, 0, 9) (by decide) _ zks_0 (by decide) _ _ _ _ _ _ _ i _ (.int n9) hG.1 hcity rfl dX0_keepAct_15 ?_
  refine lv_iload_n hx hb dX0_keepAct_18 rfl (lv_at hl 1 rfl) ?_
  refine va_iast hx hb X.2.1.1 hG.1 hG.2.1 hG.2.2.1 j10 0 g10 rfl (vp_in_iff.mpr ⟨by omega, by omega⟩) dX0_keepAct_19 (fun H locs a1 a2 a3 => ?_)
  have hG := hG.sti hw k10 (by decide) g10 rfl (by decide) m10 lv1 a1 a2 a3
  clear a1 a2 a3
  have hcity := zhk1 hG (znk k10 ki (by decide)) hcity
  have g11 := zhk1 hG (znk k10 k11 (by decide)) g11
  have g12 := zhk1 hG (znk k10 k12 (by decide)) g12
  have g13 := zhk1 hG (znk k10 k13 (by decide)) g13
  have g7 := zhk1 hG (znk k10 k7 (by decide)) g7
  refine lv_aload_n hx hb dX0_keepAct_20 rfl (lv_at hl 0 rfl) ?_
  refine zg_RX0 X (33, 0, 11) (by decide) _ zks_0 (by decide) _ _ _ _ _ _ _ i _ (.ref r11) hG.1 hcity rfl dX0_keepAct_21 ?_
  refine lv_aload_n hx hb dX0_keepAct_24 rfl (lv_at hl 0 rfl) ?_
  refine zg_RX0 X (52, 0, 9) (by decide) _ zks_0 (by decide) _ _ _ _ _ _ _ i _ (.int n9) hG.1 hcity rfl dX0_keepAct_25 ?_
  refine lv_iload_n hx hb dX0_keepAct_28 rfl (lv_at hl 2 rfl) ?_
  refine va_iast hx hb X.2.1.1 hG.1 hG.2.1 hG.2.2.1 (i + 8) 0 g11 rfl (vp_in_iff.mpr ⟨by omega, by omega⟩) dX0_keepAct_29 (fun H locs p1 p2 p3 => ?_)
  have hcity1 := zhkp p1 (znk k11 ki (by decide)) hcity
  have g12b := zhkp p1 (znk k11 k12 (by decide)) g12
  refine lv_aload_n hx hb dX0_keepAct_30 rfl (lv_at hl 0 rfl) ?_
  refine zg_RX0 X (36, 0, 12) (by decide) _ zks_0 (by decide) _ _ _ _ _ _ _ i _ (.ref r12) p1 hcity1 rfl dX0_keepAct_31 ?_
  refine lv_aload_n hx hb dX0_keepAct_34 rfl (lv_at hl 0 rfl) ?_
  refine zg_RX0 X (52, 0, 9) (by decide) _ zks_0 (by decide) _ _ _ _ _ _ _ i _ (.int n9) p1 hcity1 rfl dX0_keepAct_35 ?_
  refine lv_iload_n hx hb dX0_keepAct_38 rfl (lv_at hl 3 rfl) ?_
  refine va_iast hx hb X.2.1.1 p1 p2 p3 (i + 9) 0 g12b rfl (vp_in_iff.mpr ⟨by omega, by omega⟩) dX0_keepAct_39 (fun H locs a1 a2 a3 => ?_)
  have hG := hG.pair ki g11 g12 (fun n hn => updB (m11 n hn) hrh) (fun n hn => updB (m12 n hn) hrb) (fun n hn => updR (zPsi_rel hG.2.2.2.2.1 ki g11 g12 n hn) hrl) a1 a2 a3
  clear a1 a2 a3 p1 p2 p3 hcity1 g12b
  have hcity := zhk2 hG (znk k12 ki (by decide)) (znk k11 ki (by decide)) hcity
  have g13 := zhk2 hG (znk k12 k13 (by decide)) (znk k11 k13 (by decide)) g13
  have g7 := zhk2 hG (znk k12 k7 (by decide)) (znk k11 k7 (by decide)) g7
  refine lv_aload_n hx hb dX0_keepAct_40 rfl (lv_at hl 0 rfl) ?_
  refine zg_RX0 X (39, 0, 13) (by decide) _ zks_0 (by decide) _ _ _ _ _ _ _ i _ (.ref r13) hG.1 hcity rfl dX0_keepAct_41 ?_
  refine lv_aload_n hx hb dX0_keepAct_44 rfl (lv_at hl 0 rfl) ?_
  refine zg_RX0 X (52, 0, 9) (by decide) _ zks_0 (by decide) _ _ _ _ _ _ _ i _ (.int n9) hG.1 hcity rfl dX0_keepAct_45 ?_
  refine lv_aload_n hx hb dX0_keepAct_48 rfl (lv_at hl 0 rfl) ?_
  refine zg_RX0 X (24, 0, 7) (by decide) _ zks_0 (by decide) _ _ _ _ _ _ _ i _ (.ref r7) hG.1 hcity rfl dX0_keepAct_49 ?_
  refine lv_iload_n hx hb dX0_keepAct_52 rfl (lv_at hl 1 rfl) ?_
  refine va_iald hx hb X.2.1.1 hG.1 j7 0 g7 rfl (vp_in_iff.mpr ⟨by omega, by omega⟩) dX0_keepAct_53 ?_
  refine va_iast hx hb X.2.1.1 hG.1 hG.2.1 hG.2.2.1 j13 0 g13 rfl (vp_in_iff.mpr ⟨by omega, by omega⟩) dX0_keepAct_54 (fun H locs a1 a2 a3 => ?_)
  have hG := hG.sti hw k13 (by decide) g13 rfl (by decide) m13 (bT _) a1 a2 a3
  clear a1 a2 a3
  have hcity := zhk1 hG (znk k13 ki (by decide)) hcity
  have g7 := zhk1 hG (znk k13 k7 (by decide)) g7
  refine lv_aload_n hx hb dX0_keepAct_55 rfl (lv_at hl 0 rfl) ?_
  refine lv_dup hx hb dX0_keepAct_56 rfl ?_
  refine zg_RX0 X (52, 0, 9) (by decide) _ zks_0 (by decide) _ _ _ _ _ _ _ i _ (.int n9) hG.1 hcity rfl dX0_keepAct_57 ?_
  refine lv_iconst (v := 1) hx hb dX0_keepAct_60 (by decide) ?_
  refine lv_iadd hx hb dX0_keepAct_61 ?_
  have hvv : zok ks ad (0, 0, 40) (.int (n9 + 1)) := ⟨_, rfl, by rw [addI _ _ (by simp only [Int32.reduceToInt]; omega)]; simp only [Int32.reduceToInt]; omega⟩
  refine zp_RX0 X (52, 0, 9) (by decide) _ (0, 0, 40) zks_0 rfl _ _ _ _ _ _ _ i _ _ hG.1 hG.2.1 hG.2.2.1 hcity rfl hvv dX0_keepAct_62 (fun H locs a1 a2 a3 => ?_)
  have hG := hG.putf hw ki (by decide) zks_0 rfl hcity rfl hvv (List.mem_of_getElem? (i := 0) rfl) a1 a2 a3
  have g7 := zhk1 hG (znk ki k7 (by decide)) g7
  have hcity := zhkz hG hcity
  exact hR 65 _ _ _ _ [] hG ⟨trivial, fun _ h => (by cases h), fun _ h => (by cases h)⟩ dX0_keepAct_65
