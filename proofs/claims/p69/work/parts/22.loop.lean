set_option maxHeartbeats 4000000 in
set_option maxRecDepth 100000 in
theorem law_loop {p : Program} {l : Launch} {e : Env} {s : State} {m : MethodId} {below : List Frame} {meth : Method} {c : Code} {D : va_G} {cI cZ cB cJ cR : ClassId} {ks ad : List Nat} {b L h g : Nat} {xs : Nat → Int32} (C0 : lw_At p s m meth c b L xs) (hZ : zLaw p l s m c D cI cZ cB cJ cR ks ad b L h g xs) (hm : zMan l D cI cZ cB cJ cR ks ad (zPsi ks ad)) : ∀ (k : Nat) {x : Int32} {ls : Array Slot} {w : va_W} {H : Heap} {locs : List Loc}, 0 ≤ x.toInt → x.toInt ≤ 4000 → (4000 - x.toInt).toNat < k → lv_has ls 4 [(3, .int x), (0, .ref b), (1, .ref h), (2, .ref g)] → zINV D cI cZ cB cJ cR ks ad s w H locs → W p l e room_1 s m #[Value.ref b] below meth c H locs 98 7042 (lw_Z below #[Value.ref b] s) (F0 m 18 ls []) := by
  intro k
  induction k with
  | zero => intro x ls w H locs h1 h2 hk; exact absurd hk (Nat.not_lt_zero _)
  | succ k ih =>
    intro x ls w H locs h1 h2 hk hl hI
    obtain ⟨X, hX, hbl, hL, hw, -, -⟩ := id hZ
    have hx := X.1.1
    have hb := X.1.2.1
    have hbA : ¬ lwA s b := Nat.not_le.mpr hbl
    have hlen : (Int32.ofNat L).toInt = (L : Int) := by
      have e : Int32.ofNat L = Int32.ofInt (L : Int) := rfl
      rw [e, oT (by omega)]
    refine lv_iload_n hx hb dL_law_18 rfl (lv_at hl 0 rfl) ?_
    refine lv_aload_n hx hb dL_law_19 rfl (lv_at hl 1 rfl) ?_
    refine va_slen hx hb hX hbl hbA hI.1.2.2.1 dL_law_20 ?_
    refine lv_bipush (v := 6) hx hb dL_law_21 (by decide) ?_
    refine lv_isub hx hb dL_law_23 ?_
    refine lv_topi (fun w1 hw1 => ?_)
    have ew1 : w1.toInt = (L : Int) - 6 := by rw [hw1, subI _ _ (by rw [hlen]; simp only [Int32.reduceToInt]; omega), hlen]; rfl
    refine lv_icmp_gt (tgt := 2137) hx hb dL_law_24 (by decide) (fun _ => ?_) (fun hgt => ?_)
    · obtain ⟨-, -, hr, -, -, -, -, -, hlocks, -⟩ := C0
      refine lv_iconst (v := 1) hx hb dL_law_2137 (by decide) ?_
      refine va_forget (fun q hq => hI.1.2.2.1.2.2 q hq) ?_
      refine W.widen (k := 600000) (n := 7302250) (by decide) (by decide) ?_
      exact lw_ret hx hb hr hlocks dL_law_2138
    simp only [gt_iff_lt, Int32.lt_iff_toInt_lt] at hgt
    have hx1 : x.toInt + 6 ≤ (L : Int) := by omega
    have hT : ∀ (ls : Array Slot) (w : va_W) (H : Heap) (locs : List Loc), lv_has ls 4 [(0, .ref b), (1, .ref h), (2, .ref g), (3, .int x)] → zINV D cI cZ cB cJ cR ks ad s w H locs → W p l e room_1 s m #[Value.ref b] below meth c H locs 98 7042 (lw_Z below #[Value.ref b] s) (F0 m 2131 ls []) := by
      intro ls w H locs hl hI
      refine lv_iinc (k := 3) hx hb dL_law_2131 hl rfl rfl (by decide) rfl (fun ls hl => ?_)
      refine lv_goto (tgt := 18) hx hb dL_law_2134 (by decide) ?_
      have e6 : (x + Int32.ofInt 6).toInt = x.toInt + 6 := by rw [addI _ _ (by rw [show (Int32.ofInt 6).toInt = 6 from by decide]; omega)]; rfl
      exact ih (by omega) (by omega) (by omega) hl hI
    refine lv_aload_n hx hb dL_law_27 rfl (lv_at hl 1 rfl) ?_
    refine lv_iload_n hx hb dL_law_28 rfl (lv_at hl 0 rfl) ?_
    refine va_sld hx hb hX hbl hbA hI.1.2.2.1 (vp_in_iff.mpr ⟨by omega, by omega⟩) dL_law_29 ?_
    refine lv_bipush (v := 127) hx hb dL_law_30 (by decide) ?_
    refine lv_iand hx hb dL_law_32 ?_
    refine lv_topi (fun w2 ew2 => ?_)
    have hl : lv_has ls 4 [(0, .ref b), (1, .ref h), (2, .ref g), (3, .int x)] := lv_sub hl [1, 2, 3, 0] rfl
    obtain ⟨j, hj, ej⟩ := pk_andE (xs x.toNatClampNeg) (m := 127) 7 (by decide)
    have ej : w2 = nI j := ew2.trans ej
    rcases (show j = 0 ∨ j = 1 ∨ j = 2 ∨ j = 3 ∨ j = 4 ∨ j = 5 ∨ j = 6 ∨ j = 7 ∨ j = 8 ∨ j = 9 ∨ j = 10 ∨ j = 11 ∨ j = 12 ∨ j = 13 ∨ j = 14 ∨ j = 15 ∨ j = 16 ∨ j = 17 ∨ j = 18 ∨ j = 19 ∨ j = 20 ∨ j = 21 ∨ j = 22 ∨ j = 23 ∨ j = 24 ∨ j = 25 ∨ j = 26 ∨ j = 27 ∨ j = 28 ∨ j = 29 ∨ j = 30 ∨ j = 31 ∨ j = 32 ∨ j = 33 ∨ j = 34 ∨ j = 35 ∨ j = 36 ∨ j = 37 ∨ j = 38 ∨ j = 39 ∨ j = 40 ∨ j = 41 ∨ j = 42 ∨ j = 43 ∨ j = 44 ∨ j = 45 ∨ j = 46 ∨ j = 47 ∨ j = 48 ∨ j = 49 ∨ j = 50 ∨ j = 51 ∨ j = 52 ∨ j = 53 ∨ j = 54 ∨ j = 55 ∨ j = 56 ∨ j = 57 ∨ j = 58 ∨ j = 59 ∨ j = 60 ∨ j = 61 ∨ j = 62 ∨ j = 63 ∨ j = 64 ∨ j = 65 ∨ j = 66 ∨ j = 67 ∨ j = 68 ∨ (69 ≤ j ∧ j < 128) by omega) with rfl | rfl | rfl | rfl | rfl | rfl | rfl | rfl | rfl | rfl | rfl | rfl | rfl | rfl | rfl | rfl | rfl | rfl | rfl | rfl | rfl | rfl | rfl | rfl | rfl | rfl | rfl | rfl | rfl | rfl | rfl | rfl | rfl | rfl | rfl | rfl | rfl | rfl | rfl | rfl | rfl | rfl | rfl | rfl | rfl | rfl | rfl | rfl | rfl | rfl | rfl | rfl | rfl | rfl | rfl | rfl | rfl | rfl | rfl | rfl | rfl | rfl | rfl | rfl | rfl | rfl | rfl | rfl | rfl | h69
    · obtain rfl : w2 = 0 := ej
      exact lv_tableIn (tgt := 324) hx hb dL_law_33 (by decide) (by decide) rfl (by decide) (law_0 hZ hm h1 hx1 hT hl hI)
    · obtain rfl : w2 = 1 := ej
      exact lv_tableIn (tgt := 387) hx hb dL_law_33 (by decide) (by decide) rfl (by decide) (law_1 hZ hm h1 hx1 hT hl hI)
    · obtain rfl : w2 = 2 := ej
      exact lv_tableIn (tgt := 410) hx hb dL_law_33 (by decide) (by decide) rfl (by decide) (law_2 hZ hm h1 hx1 hT hl hI)
    · obtain rfl : w2 = 3 := ej
      exact lv_tableIn (tgt := 423) hx hb dL_law_33 (by decide) (by decide) rfl (by decide) (law_3 hZ hm h1 hx1 hT hl hI)
    · obtain rfl : w2 = 4 := ej
      exact lv_tableIn (tgt := 446) hx hb dL_law_33 (by decide) (by decide) rfl (by decide) (law_4 hZ hm h1 hx1 hT hl hI)
    · obtain rfl : w2 = 5 := ej
      exact lv_tableIn (tgt := 479) hx hb dL_law_33 (by decide) (by decide) rfl (by decide) (law_5 hZ hm h1 hx1 hT hl hI)
    · obtain rfl : w2 = 6 := ej
      exact lv_tableIn (tgt := 522) hx hb dL_law_33 (by decide) (by decide) rfl (by decide) (law_6 hZ hm h1 hx1 hT hl hI)
    · obtain rfl : w2 = 7 := ej
      exact lv_tableIn (tgt := 555) hx hb dL_law_33 (by decide) (by decide) rfl (by decide) (law_7 hZ hm h1 hx1 hT hl hI)
    · obtain rfl : w2 = 8 := ej
      exact lv_tableIn (tgt := 578) hx hb dL_law_33 (by decide) (by decide) rfl (by decide) (law_8 hZ hm h1 hx1 hT hl hI)
    · obtain rfl : w2 = 9 := ej
      exact lv_tableIn (tgt := 601) hx hb dL_law_33 (by decide) (by decide) rfl (by decide) (law_9 hZ hm h1 hx1 hT hl hI)
    · obtain rfl : w2 = 10 := ej
      exact lv_tableIn (tgt := 624) hx hb dL_law_33 (by decide) (by decide) rfl (by decide) (law_10 hZ hm h1 hx1 hT hl hI)
    · obtain rfl : w2 = 11 := ej
      exact lv_tableIn (tgt := 647) hx hb dL_law_33 (by decide) (by decide) rfl (by decide) (law_11 hZ hm h1 hx1 hT hl hI)
    · obtain rfl : w2 = 12 := ej
      exact lv_tableIn (tgt := 660) hx hb dL_law_33 (by decide) (by decide) rfl (by decide) (law_12 hZ hm h1 hx1 hT hl hI)
    · obtain rfl : w2 = 13 := ej
      exact lv_tableIn (tgt := 683) hx hb dL_law_33 (by decide) (by decide) rfl (by decide) (law_13 hZ hm h1 hx1 hT hl hI)
    · obtain rfl : w2 = 14 := ej
      exact lv_tableIn (tgt := 706) hx hb dL_law_33 (by decide) (by decide) rfl (by decide) (law_14 hZ hm h1 hx1 hT hl hI)
    · obtain rfl : w2 = 15 := ej
      exact lv_tableIn (tgt := 719) hx hb dL_law_33 (by decide) (by decide) rfl (by decide) (law_15 hZ hm h1 hx1 hT hl hI)
    · obtain rfl : w2 = 16 := ej
      exact lv_tableIn (tgt := 732) hx hb dL_law_33 (by decide) (by decide) rfl (by decide) (law_16 hZ hm h1 hx1 hT hl hI)
    · obtain rfl : w2 = 17 := ej
      exact lv_tableIn (tgt := 745) hx hb dL_law_33 (by decide) (by decide) rfl (by decide) (law_17 hZ hm h1 hx1 hT hl hI)
    · obtain rfl : w2 = 18 := ej
      exact lv_tableIn (tgt := 768) hx hb dL_law_33 (by decide) (by decide) rfl (by decide) (law_18 hZ hm h1 hx1 hT hl hI)
    · obtain rfl : w2 = 19 := ej
      exact lv_tableIn (tgt := 791) hx hb dL_law_33 (by decide) (by decide) rfl (by decide) (law_19 hZ hm h1 hx1 hT hl hI)
    · obtain rfl : w2 = 20 := ej
      exact lv_tableIn (tgt := 804) hx hb dL_law_33 (by decide) (by decide) rfl (by decide) (law_20 hZ hm h1 hx1 hT hl hI)
    · obtain rfl : w2 = 21 := ej
      exact lv_tableIn (tgt := 827) hx hb dL_law_33 (by decide) (by decide) rfl (by decide) (law_21 hZ hm h1 hx1 hT hl hI)
    · obtain rfl : w2 = 22 := ej
      exact lv_tableIn (tgt := 840) hx hb dL_law_33 (by decide) (by decide) rfl (by decide) (law_22 hZ hm h1 hx1 hT hl hI)
    · obtain rfl : w2 = 23 := ej
      exact lv_tableIn (tgt := 853) hx hb dL_law_33 (by decide) (by decide) rfl (by decide) (law_23 hZ hm h1 hx1 hT hl hI)
    · obtain rfl : w2 = 24 := ej
      exact lv_tableIn (tgt := 866) hx hb dL_law_33 (by decide) (by decide) rfl (by decide) (law_24 hZ hm h1 hx1 hT hl hI)
    · obtain rfl : w2 = 25 := ej
      exact lv_tableIn (tgt := 879) hx hb dL_law_33 (by decide) (by decide) rfl (by decide) (law_25 hZ hm h1 hx1 hT hl hI)
    · obtain rfl : w2 = 26 := ej
      exact lv_tableIn (tgt := 892) hx hb dL_law_33 (by decide) (by decide) rfl (by decide) (law_26 hZ hm h1 hx1 hT hl hI)
    · obtain rfl : w2 = 27 := ej
      exact lv_tableIn (tgt := 925) hx hb dL_law_33 (by decide) (by decide) rfl (by decide) (law_27 hZ hm h1 hx1 hT hl hI)
    · obtain rfl : w2 = 28 := ej
      exact lv_tableIn (tgt := 948) hx hb dL_law_33 (by decide) (by decide) rfl (by decide) (law_28 hZ hm h1 hx1 hT hl hI)
    · obtain rfl : w2 = 29 := ej
      exact lv_tableIn (tgt := 981) hx hb dL_law_33 (by decide) (by decide) rfl (by decide) (law_29 hZ hm h1 hx1 hT hl hI)
    · obtain rfl : w2 = 30 := ej
      exact lv_tableIn (tgt := 1004) hx hb dL_law_33 (by decide) (by decide) rfl (by decide) (law_30 hZ hm h1 hx1 hT hl hI)
    · obtain rfl : w2 = 31 := ej
      exact lv_tableIn (tgt := 1027) hx hb dL_law_33 (by decide) (by decide) rfl (by decide) (law_31 hZ hm h1 hx1 hT hl hI)
    · obtain rfl : w2 = 32 := ej
      exact lv_tableIn (tgt := 1040) hx hb dL_law_33 (by decide) (by decide) rfl (by decide) (law_32 hZ hm h1 hx1 hT hl hI)
    · obtain rfl : w2 = 33 := ej
      exact lv_tableIn (tgt := 1053) hx hb dL_law_33 (by decide) (by decide) rfl (by decide) (law_33 hZ hm h1 hx1 hT hl hI)
    · obtain rfl : w2 = 34 := ej
      exact lv_tableIn (tgt := 1066) hx hb dL_law_33 (by decide) (by decide) rfl (by decide) (law_34 hZ hm h1 hx1 hT hl hI)
    · obtain rfl : w2 = 35 := ej
      exact lv_tableIn (tgt := 1079) hx hb dL_law_33 (by decide) (by decide) rfl (by decide) (law_35 hZ hm h1 hx1 hT hl hI)
    · obtain rfl : w2 = 36 := ej
      exact lv_tableIn (tgt := 1112) hx hb dL_law_33 (by decide) (by decide) rfl (by decide) (law_36 hZ hm h1 hx1 hT hl hI)
    · obtain rfl : w2 = 37 := ej
      exact lv_tableIn (tgt := 1155) hx hb dL_law_33 (by decide) (by decide) rfl (by decide) (law_37 hZ hm h1 hx1 hT hl hI)
    · obtain rfl : w2 = 38 := ej
      exact lv_tableIn (tgt := 1188) hx hb dL_law_33 (by decide) (by decide) rfl (by decide) (law_38 hZ hm h1 hx1 hT hl hI)
    · obtain rfl : w2 = 39 := ej
      exact lv_tableIn (tgt := 1221) hx hb dL_law_33 (by decide) (by decide) rfl (by decide) (law_39 hZ hm h1 hx1 hT hl hI)
    · obtain rfl : w2 = 40 := ej
      exact lv_tableIn (tgt := 1254) hx hb dL_law_33 (by decide) (by decide) rfl (by decide) (law_40 hZ hm h1 hx1 hT hl hI)
    · obtain rfl : w2 = 41 := ej
      exact lv_tableIn (tgt := 1267) hx hb dL_law_33 (by decide) (by decide) rfl (by decide) (law_41 hZ hm h1 hx1 hT hl hI)
    · obtain rfl : w2 = 42 := ej
      exact lv_tableIn (tgt := 1300) hx hb dL_law_33 (by decide) (by decide) rfl (by decide) (law_42 hZ hm h1 hx1 hT hl hI)
    · obtain rfl : w2 = 43 := ej
      exact lv_tableIn (tgt := 1323) hx hb dL_law_33 (by decide) (by decide) rfl (by decide) (law_43 hZ hm h1 hx1 hT hl hI)
    · obtain rfl : w2 = 44 := ej
      exact lv_tableIn (tgt := 1346) hx hb dL_law_33 (by decide) (by decide) rfl (by decide) (law_44 hZ hm h1 hx1 hT hl hI)
    · obtain rfl : w2 = 45 := ej
      exact lv_tableIn (tgt := 1369) hx hb dL_law_33 (by decide) (by decide) rfl (by decide) (law_45 hZ hm h1 hx1 hT hl hI)
    · obtain rfl : w2 = 46 := ej
      exact lv_tableIn (tgt := 1392) hx hb dL_law_33 (by decide) (by decide) rfl (by decide) (law_46 hZ hm h1 hx1 hT hl hI)
    · obtain rfl : w2 = 47 := ej
      exact lv_tableIn (tgt := 1415) hx hb dL_law_33 (by decide) (by decide) rfl (by decide) (law_47 hZ hm h1 hx1 hT hl hI)
    · obtain rfl : w2 = 48 := ej
      exact lv_tableIn (tgt := 1438) hx hb dL_law_33 (by decide) (by decide) rfl (by decide) (law_48 hZ hm h1 hx1 hT hl hI)
    · obtain rfl : w2 = 49 := ej
      exact lv_tableIn (tgt := 1461) hx hb dL_law_33 (by decide) (by decide) rfl (by decide) (law_49 hZ hm h1 hx1 hT hl hI)
    · obtain rfl : w2 = 50 := ej
      exact lv_tableIn (tgt := 1494) hx hb dL_law_33 (by decide) (by decide) rfl (by decide) (law_50 hZ hm h1 hx1 hT hl hI)
    · obtain rfl : w2 = 51 := ej
      exact lv_tableIn (tgt := 1517) hx hb dL_law_33 (by decide) (by decide) rfl (by decide) (law_51 hZ hm h1 hx1 hT hl hI)
    · obtain rfl : w2 = 52 := ej
      exact lv_tableIn (tgt := 1550) hx hb dL_law_33 (by decide) (by decide) rfl (by decide) (law_52 hZ hm h1 hx1 hT hl hI)
    · obtain rfl : w2 = 53 := ej
      exact lv_tableIn (tgt := 1583) hx hb dL_law_33 (by decide) (by decide) rfl (by decide) (law_53 hZ hm h1 hx1 hT hl hI)
    · obtain rfl : w2 = 54 := ej
      exact lv_tableIn (tgt := 1616) hx hb dL_law_33 (by decide) (by decide) rfl (by decide) (law_54 hZ hm h1 hx1 hT hl hI)
    · obtain rfl : w2 = 55 := ej
      exact lv_tableIn (tgt := 1649) hx hb dL_law_33 (by decide) (by decide) rfl (by decide) (law_55 hZ hm h1 hx1 hT hl hI)
    · obtain rfl : w2 = 56 := ej
      exact lv_tableIn (tgt := 1672) hx hb dL_law_33 (by decide) (by decide) rfl (by decide) (law_56 hZ hm h1 hx1 hT hl hI)
    · obtain rfl : w2 = 57 := ej
      exact lv_tableIn (tgt := 1705) hx hb dL_law_33 (by decide) (by decide) rfl (by decide) (law_57 hZ hm h1 hx1 hT hl hI)
    · obtain rfl : w2 = 58 := ej
      exact lv_tableIn (tgt := 1748) hx hb dL_law_33 (by decide) (by decide) rfl (by decide) (law_58 hZ hm h1 hx1 hT hl hI)
    · obtain rfl : w2 = 59 := ej
      exact lv_tableIn (tgt := 1781) hx hb dL_law_33 (by decide) (by decide) rfl (by decide) (law_59 hZ hm h1 hx1 hT hl hI)
    · obtain rfl : w2 = 60 := ej
      exact lv_tableIn (tgt := 1824) hx hb dL_law_33 (by decide) (by decide) rfl (by decide) (law_60 hZ hm h1 hx1 hT hl hI)
    · obtain rfl : w2 = 61 := ej
      exact lv_tableIn (tgt := 1837) hx hb dL_law_33 (by decide) (by decide) rfl (by decide) (law_61 hZ hm h1 hx1 hT hl hI)
    · obtain rfl : w2 = 62 := ej
      exact lv_tableIn (tgt := 1850) hx hb dL_law_33 (by decide) (by decide) rfl (by decide) (law_62 hZ hm h1 hx1 hT hl hI)
    · obtain rfl : w2 = 63 := ej
      exact lv_tableIn (tgt := 1883) hx hb dL_law_33 (by decide) (by decide) rfl (by decide) (law_63 hZ hm h1 hx1 hT hl hI)
    · obtain rfl : w2 = 64 := ej
      exact lv_tableIn (tgt := 1906) hx hb dL_law_33 (by decide) (by decide) rfl (by decide) (law_64 hZ hm h1 hx1 hT hl hI)
    · obtain rfl : w2 = 65 := ej
      exact lv_tableIn (tgt := 1929) hx hb dL_law_33 (by decide) (by decide) rfl (by decide) (law_65 hZ hm h1 hx1 hT hl hI)
    · obtain rfl : w2 = 66 := ej
      exact lv_tableIn (tgt := 1952) hx hb dL_law_33 (by decide) (by decide) rfl (by decide) (law_66 hZ hm h1 hx1 hT hl hI)
    · obtain rfl : w2 = 67 := ej
      exact lv_tableIn (tgt := 1995) hx hb dL_law_33 (by decide) (by decide) rfl (by decide) (law_67 hZ hm h1 hx1 hT hl hI)
    · obtain rfl : w2 = 68 := ej
      exact lv_tableIn (tgt := 2068) hx hb dL_law_33 (by decide) (by decide) rfl (by decide) (law_68 hZ hm h1 hx1 hT hl hI)
    · exact lv_tableOut (tgt := 2131) hx hb dL_law_33 (Or.inr (by rw [ej, nI_toInt (by omega)]; omega)) (by decide) (hT ls _ _ _ hl hI)
