section HO
variable {cI cZ cB cJ cR : ClassId} {KS : List zk} {ks ad : List Nat} {w : va_W}
theorem zobj {i kd a : Nat} {dd : Nat × List zt} (hc : zconf KS ks ad RX0 (tyA cI cZ cB cJ cR) w) (h1 : ks[i]? = some kd) (h2 : ad[i]? = some a) (hk : KS[kd]? = some (.inr dd)) : ∃ fs : List Value, w[i]? = some (a, .inr (dd.1, fs)) ∧ zF2 (zok ks ad) dd.2 fs := by
  obtain ⟨e, h3, h4⟩ := zconf_at hc h1 h2 hk
  match e, h4 with
  | .inr (ci, fs), ⟨e1, e2⟩ =>
    dsimp only at e1 e2
    subst e1
    exact ⟨fs, h3, e2⟩
  | .inl _, h4 => exact h4.elim
theorem zref {ts : List zt} {fs : List Value} {f k : Nat} {lo hi : Int} (hz : zF2 (zok ks ad) ts fs) (ht : ts[f]? = some (k + 2, lo, hi)) : ∃ r j : Nat, fs[f]? = some (.ref r) ∧ ks[j]? = some k ∧ ad[j]? = some r := by
  obtain ⟨v, h1, r, j, rfl, h2, h3⟩ := zF2_get hz ht
  exact ⟨r, j, h1, h2, h3⟩
end HO
/-- a number put into a row that is kept in mind -/
theorem zHp.stT {D : va_G} {cl : List vw_C} {A : Nat → Prop} {cI cZ cB cJ cR : ClassId} {KS : List zk} {uq NS ks ad : List Nat} {Psi : va_W → Prop} {wq : List (Nat × Nat)} {ws0 w : va_W} {H H0 H1 : Heap} {locs locs1 : List Loc} {j kd r n q : Nat} {el : List zt} {f : Nat → Int32} {y : Int32} (hw : zworld ks ad uq NS Psi) (hG : zHp D cl A H0 (tyA cI cZ cB cJ cR) KS ks ad RX0 Psi wq ws0 w H locs) (h1 : ks[j]? = some kd) (h2 : NS.contains kd = false) (h3 : w[j]? = some (r, .inl (cI, n, .inl f))) (h4 : KS[kd]? = some (.inl (0, n, el))) (hq : (kd, 1000 + q) ∈ wq) (hf : ∀ q, q < n → (zel el q).2.1 ≤ (f q).toInt ∧ (f q).toInt ≤ (zel el q).2.2) (hy : (zel el q).2.1 ≤ y.toInt ∧ y.toInt ≤ (zel el q).2.2)
    (a1 : va_P D cl (w.set j (r, .inl (cI, n, .inl (upd f q y)))) H1) (a2 : va_D A (w.set j (r, .inl (cI, n, .inl (upd f q y))))) (a3 : va_S A H0 H1 locs1) : zHp D cl A H0 (tyA cI cZ cB cJ cR) KS ks ad RX0 Psi wq ws0 (w.set j (r, .inl (cI, n, .inl (upd f q y)))) H1 locs1 := by
  refine ⟨a1, a2, a3, zconf_set hG.2.2.2.1 h1 h3 h4 ⟨rfl, rfl, zrowI ⟨(show (0 : Nat) < 3 by decide), hf⟩ (fun _ => hy)⟩, hw.2.2.2 _ _ kd _ (.inl (cI, n, .inl f)) _ h1 h2 trivial h3 hG.2.2.2.2.1, fun k f' hf' => (zfv_set h3 h1 k f' (fun e9 => ?_)).trans (hG.2.2.2.2.2 k f' hf')⟩
  subst e9
  exact zav_upd (fun e9 => hf' (by rw [e9]; exact hq))
def zbit (b q : Int32) : Int := if (b >>> (q &&& 31)) &&& 1 = 1 then 1 else 0
theorem bitsUpN : ∀ b : Nat, b < 128 → ∀ q : Nat, q < 7 → zbit (Int32.ofNat b) (Int32.ofNat q) = 0 → (b : Int) < (Int32.ofNat b ||| (1 <<< (Int32.ofNat q &&& 31))).toInt ∧ (Int32.ofNat b ||| (1 <<< (Int32.ofNat q &&& 31))).toInt ≤ 127 := by decide +kernel
theorem ofN {x : Int32} (h : 0 ≤ x.toInt) : x = Int32.ofNat x.toInt.toNat := by
  apply Int32.toInt_inj.mp
  have hb := bT x
  have e : Int32.ofNat x.toInt.toNat = Int32.ofInt (x.toInt.toNat : Int) := rfl
  rw [e, oT (by omega)]
  omega
theorem bitsUp {b q : Int32} (h1 : 0 ≤ b.toInt) (h2 : b.toInt ≤ 127) (h3 : 0 ≤ q.toInt) (h4 : q.toInt ≤ 6) (hz : zbit b q = 0) : b.toInt < (b ||| (1 <<< (q &&& 31))).toInt ∧ (b ||| (1 <<< (q &&& 31))).toInt ≤ 127 := by
  rw [ofN h1, ofN h3] at hz ⊢
  have := bitsUpN b.toInt.toNat (by omega) q.toInt.toNat (by omega) hz
  rw [← ofN h1] at this ⊢
  omega
theorem dX6_common_0 : decode cX6_common 0 = .ok (.lload_n 2, 1) := by decide +kernel
theorem dX6_common_1 : decode cX6_common 1 = .ok (.lconst 0, 1) := by decide +kernel
theorem dX6_common_10 : decode cX6_common 10 = .ok (.lload_n 2, 1) := by decide +kernel
theorem dX6_common_11 : decode cX6_common 11 = .ok (.lload_n 0, 1) := by decide +kernel
theorem dX6_common_12 : decode cX6_common 12 = .ok (.lload_n 2, 1) := by decide +kernel
theorem dX6_common_13 : decode cX6_common 13 = .ok (.lrem, 1) := by decide +kernel
theorem dX6_common_14 : decode cX6_common 14 = .ok (.invokestatic 376, 3) := by decide +kernel
theorem dX6_common_17 : decode cX6_common 17 = .ok (.lreturn, 1) := by decide +kernel
theorem dX6_common_2 : decode cX6_common 2 = .ok (.lcmp, 1) := by decide +kernel
theorem dX6_common_3 : decode cX6_common 3 = .ok (.ifCond .ne 7, 3) := by decide +kernel
theorem dX6_common_6 : decode cX6_common 6 = .ok (.lload_n 0, 1) := by decide +kernel
theorem dX6_common_7 : decode cX6_common 7 = .ok (.goto 10, 3) := by decide +kernel
theorem dX6_hours_0 : decode cX6_hours 0 = .ok (.aload_n 0, 1) := by decide +kernel
theorem dX6_hours_1 : decode cX6_hours 1 = .ok (.getfield 34, 3) := by decide +kernel
theorem dX6_hours_4 : decode cX6_hours 4 = .ok (.iconst 1, 1) := by decide +kernel
theorem dX6_hours_5 : decode cX6_hours 5 = .ok (.iaload, 1) := by decide +kernel
theorem dX6_hours_6 : decode cX6_hours 6 = .ok (.ireturn, 1) := by decide +kernel
theorem dX6_isBit_0 : decode cX6_isBit 0 = .ok (.iload_n 0, 1) := by decide +kernel
theorem dX6_isBit_1 : decode cX6_isBit 1 = .ok (.iload_n 1, 1) := by decide +kernel
theorem dX6_isBit_10 : decode cX6_isBit 10 = .ok (.goto 4, 3) := by decide +kernel
theorem dX6_isBit_13 : decode cX6_isBit 13 = .ok (.iconst 0, 1) := by decide +kernel
theorem dX6_isBit_14 : decode cX6_isBit 14 = .ok (.ireturn, 1) := by decide +kernel
theorem dX6_isBit_2 : decode cX6_isBit 2 = .ok (.ishr, 1) := by decide +kernel
theorem dX6_isBit_3 : decode cX6_isBit 3 = .ok (.iconst 1, 1) := by decide +kernel
theorem dX6_isBit_4 : decode cX6_isBit 4 = .ok (.iand, 1) := by decide +kernel
theorem dX6_isBit_5 : decode cX6_isBit 5 = .ok (.iconst 1, 1) := by decide +kernel
theorem dX6_isBit_6 : decode cX6_isBit 6 = .ok (.if_icmp .ne 7, 3) := by decide +kernel
theorem dX6_isBit_9 : decode cX6_isBit 9 = .ok (.iconst 1, 1) := by decide +kernel
theorem dX6_people_0 : decode cX6_people 0 = .ok (.aload_n 0, 1) := by decide +kernel
theorem dX6_people_1 : decode cX6_people 1 = .ok (.getfield 34, 3) := by decide +kernel
theorem dX6_people_4 : decode cX6_people 4 = .ok (.bipush 7, 2) := by decide +kernel
theorem dX6_people_6 : decode cX6_people 6 = .ok (.iaload, 1) := by decide +kernel
theorem dX6_people_7 : decode cX6_people 7 = .ok (.ireturn, 1) := by decide +kernel
theorem dX6_ringOf_0 : decode cX6_ringOf 0 = .ok (.iconst 0, 1) := by decide +kernel
theorem dX6_ringOf_1 : decode cX6_ringOf 1 = .ok (.istore_n 2, 1) := by decide +kernel
theorem dX6_ringOf_10 : decode cX6_ringOf 10 = .ok (.iload_n 3, 1) := by decide +kernel
theorem dX6_ringOf_11 : decode cX6_ringOf 11 = .ok (.invokestatic 240, 3) := by decide +kernel
theorem dX6_ringOf_14 : decode cX6_ringOf 14 = .ok (.ifCond .ne 19, 3) := by decide +kernel
theorem dX6_ringOf_17 : decode cX6_ringOf 17 = .ok (.iload_n 2, 1) := by decide +kernel
theorem dX6_ringOf_18 : decode cX6_ringOf 18 = .ok (.iconst 1, 1) := by decide +kernel
theorem dX6_ringOf_19 : decode cX6_ringOf 19 = .ok (.iload_n 3, 1) := by decide +kernel
theorem dX6_ringOf_2 : decode cX6_ringOf 2 = .ok (.iload_n 1, 1) := by decide +kernel
theorem dX6_ringOf_20 : decode cX6_ringOf 20 = .ok (.ishl, 1) := by decide +kernel
theorem dX6_ringOf_21 : decode cX6_ringOf 21 = .ok (.ior, 1) := by decide +kernel
theorem dX6_ringOf_22 : decode cX6_ringOf 22 = .ok (.istore_n 2, 1) := by decide +kernel
theorem dX6_ringOf_23 : decode cX6_ringOf 23 = .ok (.aload_n 0, 1) := by decide +kernel
theorem dX6_ringOf_24 : decode cX6_ringOf 24 = .ok (.getfield 50, 3) := by decide +kernel
theorem dX6_ringOf_27 : decode cX6_ringOf 27 = .ok (.iload_n 3, 1) := by decide +kernel
theorem dX6_ringOf_28 : decode cX6_ringOf 28 = .ok (.iaload, 1) := by decide +kernel
theorem dX6_ringOf_29 : decode cX6_ringOf 29 = .ok (.istore_n 3, 1) := by decide +kernel
theorem dX6_ringOf_3 : decode cX6_ringOf 3 = .ok (.istore_n 3, 1) := by decide +kernel
theorem dX6_ringOf_30 : decode cX6_ringOf 30 = .ok (.goto (-26), 3) := by decide +kernel
theorem dX6_ringOf_33 : decode cX6_ringOf 33 = .ok (.iload_n 3, 1) := by decide +kernel
theorem dX6_ringOf_34 : decode cX6_ringOf 34 = .ok (.iload_n 1, 1) := by decide +kernel
theorem dX6_ringOf_35 : decode cX6_ringOf 35 = .ok (.if_icmp .ne 7, 3) := by decide +kernel
theorem dX6_ringOf_38 : decode cX6_ringOf 38 = .ok (.iload_n 2, 1) := by decide +kernel
theorem dX6_ringOf_39 : decode cX6_ringOf 39 = .ok (.goto 4, 3) := by decide +kernel
theorem dX6_ringOf_4 : decode cX6_ringOf 4 = .ok (.iload_n 3, 1) := by decide +kernel
theorem dX6_ringOf_42 : decode cX6_ringOf 42 = .ok (.iconst 0, 1) := by decide +kernel
theorem dX6_ringOf_43 : decode cX6_ringOf 43 = .ok (.ireturn, 1) := by decide +kernel
theorem dX6_ringOf_5 : decode cX6_ringOf 5 = .ok (.iconst (-1), 1) := by decide +kernel
theorem dX6_ringOf_6 : decode cX6_ringOf 6 = .ok (.if_icmp .eq 27, 3) := by decide +kernel
theorem dX6_ringOf_9 : decode cX6_ringOf 9 = .ok (.iload_n 2, 1) := by decide +kernel
theorem zh_isBit {l : Launch} {D : va_G} {cI cZ cB cJ cR : ClassId} {ks ad : List Nat} {Psi : va_W → Prop} (b q : Int32) : zMet l D cI cZ cB cJ cR zKS ks ad Psi yX6_isBit (.code yX6_isBit cX6_isBit 2 (some .boolean)) 2 ([(0, b.toInt, b.toInt), (0, q.toInt, q.toInt)], some (0, zbit b q, zbit b q), [], [], [], [], []) := by
  refine zmet_gen 2 (by decide) (Nat.le_of_ble_eq_true rfl) (by show (decide (0 ≤ zbit b q) && decide (zbit b q ≤ 1)) = true; unfold zbit; split <;> rfl) ?_
  intro p e R s m args below meth c Q A ws As ls X hG hok hpre hR hl
  have hx := X.1.1
  have hb := X.1.2.1
  obtain ⟨_, _, rfl, ⟨x, rfl, lx⟩, hok1⟩ := zst1 hok
  obtain ⟨_, _, rfl, ⟨y, rfl, ly⟩, hok2⟩ := zst1 hok1
  obtain rfl := zst0 hok2
  dsimp only at lx ly
  have ex : x = b := Int32.toInt_inj.mp (by omega)
  have ey : y = q := Int32.toInt_inj.mp (by omega)
  subst ex
  subst ey
  have hl : lv_has ls 2 [(0, .int x), (1, .int y)] := hl
  refine lv_iload_n hx hb dX6_isBit_0 rfl (lv_at hl 0 rfl) ?_
  refine lv_iload_n hx hb dX6_isBit_1 rfl (lv_at hl 1 rfl) ?_
  refine lv_ishr hx hb dX6_isBit_2 ?_
  refine lv_iconst (v := 1) hx hb dX6_isBit_3 (by decide) ?_
  refine lv_iand hx hb dX6_isBit_4 ?_
  refine lv_iconst (v := 1) hx hb dX6_isBit_5 (by decide) ?_
  refine lv_icmp_ne (tgt := 13) hx hb dX6_isBit_6 (by decide) (fun hne => ?_) (fun heq => ?_)
  · skip
    refine lv_iconst (v := 0) hx hb dX6_isBit_13 (by decide) ?_
    exact hR 14 _ _ _ _ [.int 0] hG ⟨⟨⟨0, rfl, by unfold zbit; rw [if_neg hne]; decide⟩, trivial⟩, fun _ h => (by cases h), fun _ h => (by cases h)⟩ dX6_isBit_14
  · skip
    refine lv_iconst (v := 1) hx hb dX6_isBit_9 (by decide) ?_
    refine lv_goto (tgt := 14) hx hb dX6_isBit_10 (by decide) ?_
    exact hR 14 _ _ _ _ [.int 1] hG ⟨⟨⟨1, rfl, by unfold zbit; rw [if_pos heq]; decide⟩, trivial⟩, fun _ h => (by cases h), fun _ h => (by cases h)⟩ dX6_isBit_14
theorem zh_people {l : Launch} {D : va_G} {cI cZ cB cJ cR : ClassId} {ks ad : List Nat} {Psi : va_W → Prop} : zMet l D cI cZ cB cJ cR zKS ks ad Psi yX6_people (.code yX6_people cX6_people 1 (some .int)) 2 ([(8, 0, 0)], some (0, 0, 7), [], [], [], [], []) := by
  refine zmet_gen 2 (by decide) (Nat.le_of_ble_eq_true rfl) rfl ?_
  intro p e R s m args below meth c Q A ws As ls X hG hok hpre hR hl
  have hx := X.1.1
  have hb := X.1.2.1
  obtain ⟨_, _, rfl, ⟨a, i, rfl, ki, di⟩, hok1⟩ := zst1 hok
  obtain rfl := zst0 hok1
  obtain ⟨fs, hob, hfs⟩ := zobj hG.2.2.2.1 ki di zks_6
  have hl : lv_has ls 1 [(0, .ref a)] := hl
  obtain ⟨r17, j17, q17, k17, d17⟩ := zref (f := 17) (k := 42) hfs rfl
  obtain ⟨f17, g17, m17⟩ := zarrI hG.2.2.2.1 k17 d17 (rfl : zKS[42]? = _)
  refine lv_aload_n hx hb dX6_people_0 rfl (lv_at hl 0 rfl) ?_
  refine zg_RX6 X (34, 6, 17) (by decide) _ zks_6 (by decide) _ _ _ _ _ _ _ i _ (.ref r17) hG.1 hob q17 dX6_people_1 ?_
  refine lv_bipush (v := 7) hx hb dX6_people_4 (by decide) ?_
  refine va_iald hx hb X.2.1.1 hG.1 j17 0 g17 rfl (inC _ _ (by decide)) dX6_people_6 ?_
  exact hR 7 _ _ _ _ [_] hG ⟨⟨⟨_, rfl, m17 7 (by decide)⟩, trivial⟩, fun _ h => (by cases h), fun _ h => (by cases h)⟩ dX6_people_7
theorem zh_hours {l : Launch} {D : va_G} {cI cZ cB cJ cR : ClassId} {ks ad : List Nat} {Psi : va_W → Prop} : zMet l D cI cZ cB cJ cR zKS ks ad Psi yX6_hours (.code yX6_hours cX6_hours 1 (some .int)) 2 ([(8, 0, 0)], some (0, 0, 12), [], [], [], [], []) := by
  refine zmet_gen 2 (by decide) (Nat.le_of_ble_eq_true rfl) rfl ?_
  intro p e R s m args below meth c Q A ws As ls X hG hok hpre hR hl
  have hx := X.1.1
  have hb := X.1.2.1
  obtain ⟨_, _, rfl, ⟨a, i, rfl, ki, di⟩, hok1⟩ := zst1 hok
  obtain rfl := zst0 hok1
  obtain ⟨fs, hob, hfs⟩ := zobj hG.2.2.2.1 ki di zks_6
  have hl : lv_has ls 1 [(0, .ref a)] := hl
  obtain ⟨r17, j17, q17, k17, d17⟩ := zref (f := 17) (k := 42) hfs rfl
  obtain ⟨f17, g17, m17⟩ := zarrI hG.2.2.2.1 k17 d17 (rfl : zKS[42]? = _)
  refine lv_aload_n hx hb dX6_hours_0 rfl (lv_at hl 0 rfl) ?_
  refine zg_RX6 X (34, 6, 17) (by decide) _ zks_6 (by decide) _ _ _ _ _ _ _ i _ (.ref r17) hG.1 hob q17 dX6_hours_1 ?_
  refine lv_iconst (v := 1) hx hb dX6_hours_4 (by decide) ?_
  refine va_iald hx hb X.2.1.1 hG.1 j17 0 g17 rfl (inC _ _ (by decide)) dX6_hours_5 ?_
  exact hR 6 _ _ _ _ [_] hG ⟨⟨⟨_, rfl, m17 1 (by decide)⟩, trivial⟩, fun _ h => (by cases h), fun _ h => (by cases h)⟩ dX6_hours_6
theorem zh_ringOf {l : Launch} {D : va_G} {cI cZ cB cJ cR : ClassId} {ks ad : List Nat} {Psi : va_W → Prop} : zMet l D cI cZ cB cJ cR zKS ks ad Psi yX6_ringOf (.code yX6_ringOf cX6_ringOf 4 (some .int)) 4 ([(8, 0, 0), (0, 0, 6)], some (0, (-2147483648), 2147483647), [], [], [], [], []) := by
  refine zmet_gen 4 (by decide) (Nat.le_of_ble_eq_true rfl) rfl ?_
  intro p e R s m args below meth c Q A ws As ls X hG hok hpre hR hl
  have hx := X.1.1
  have hb := X.1.2.1
  obtain ⟨_, _, rfl, ⟨a, i, rfl, ki, di⟩, hok1⟩ := zst1 hok
  obtain ⟨_, _, rfl, ⟨v1, rfl, lv1⟩, hok2⟩ := zst1 hok1
  obtain rfl := zst0 hok2
  dsimp only at lv1
  have hl : lv_has ls 4 [(0, .ref a), (1, .int v1)] := hl
  have hex : ∀ (b q : Int32) (ls : Array Slot) (w : va_W) (H : Heap) (locs : List Loc), lv_has ls 4 [(3, .int q), (2, .int b), (0, .ref a), (1, .int v1)] → zHp D vwCl A s.heap (tyA cI cZ cB cJ cR) zKS ks ad RX0 Psi [] ws w H locs → W p l e R s m args below meth c H locs 0 0 Q (F0 m 33 ls []) := by
    intro b q ls w H locs hl hG
    refine lv_iload_n hx hb dX6_ringOf_33 rfl (lv_at hl 0 rfl) ?_
    refine lv_iload_n hx hb dX6_ringOf_34 rfl (lv_at hl 3 rfl) ?_
    refine lv_icmp_ne (tgt := 42) hx hb dX6_ringOf_35 (by decide) (fun _ => ?_) (fun _ => ?_)
    · skip
      refine lv_iconst (v := 0) hx hb dX6_ringOf_42 (by decide) ?_
      exact hR 43 _ _ _ _ [.int 0] hG ⟨⟨⟨_, rfl, bT _⟩, trivial⟩, fun _ h => (by cases h), fun _ h => (by cases h)⟩ dX6_ringOf_43
    · skip
      refine lv_iload_n hx hb dX6_ringOf_38 rfl (lv_at hl 1 rfl) ?_
      refine lv_goto (tgt := 43) hx hb dX6_ringOf_39 (by decide) ?_
      exact hR 43 _ _ _ _ [.int b] hG ⟨⟨⟨_, rfl, bT _⟩, trivial⟩, fun _ h => (by cases h), fun _ h => (by cases h)⟩ dX6_ringOf_43
  refine lv_iconst (v := 0) hx hb dX6_ringOf_0 (by decide) ?_
  refine lv_istore_n hx hb dX6_ringOf_1 rfl hl (by decide) rfl (fun ls hl => ?_)
  have hl : lv_has ls 4 [(2, .int 0), (0, .ref a), (1, .int v1)] := hl
  refine lv_iload_n hx hb dX6_ringOf_2 rfl (lv_at hl 2 rfl) ?_
  refine lv_istore_n hx hb dX6_ringOf_3 rfl hl (by decide) rfl (fun ls hl => ?_)
  have hl : lv_has ls 4 [(3, .int v1), (2, .int 0), (0, .ref a), (1, .int v1)] := hl
  suffices hloop : ∀ (k : Nat) (b q : Int32) (ls : Array Slot) (w : va_W) (H : Heap) (locs : List Loc), 0 ≤ b.toInt → b.toInt ≤ 127 → -1 ≤ q.toInt → q.toInt ≤ 6 → (127 - b.toInt).toNat < k → lv_has ls 4 [(3, .int q), (2, .int b), (0, .ref a), (1, .int v1)] → zHp D vwCl A s.heap (tyA cI cZ cB cJ cR) zKS ks ad RX0 Psi [] ws w H locs → W p l e R s m args below meth c H locs 0 0 Q (F0 m 4 ls []) from hloop _ 0 v1 ls _ _ _ (by decide) (by decide) (by omega) (by omega) (Nat.lt_succ_self _) hl hG
  clear hl hG
  intro k
  induction k with
  | zero => intro b q ls w H locs h1 h2 h3 h4 hk; exact absurd hk (Nat.not_lt_zero _)
  | succ k ih =>
    intro b q ls w H locs h1 h2 h3 h4 hk hl hG
    refine lv_iload_n hx hb dX6_ringOf_4 rfl (lv_at hl 0 rfl) ?_
    refine lv_iconst (v := (-1)) hx hb dX6_ringOf_5 (by decide) ?_
    refine lv_icmp_eq (tgt := 33) hx hb dX6_ringOf_6 (by decide) (fun _ => hex b q ls w H locs hl hG) (fun hne => ?_)
    have hne : q.toInt ≠ -1 := fun h9 => hne (Int32.toInt_inj.mp (h9.trans (by decide)))
    refine lv_iload_n hx hb dX6_ringOf_9 rfl (lv_at hl 1 rfl) ?_
    refine lv_iload_n hx hb dX6_ringOf_10 rfl (lv_at hl 0 rfl) ?_
    refine zq_RX6_240 X (zh_isBit b q) (by decide) rfl _ _ [] _ _ _ [.int b, .int q] hG.1 hG.2.1 hG.2.2.1 hG.2.2.2.1 hG.2.2.2.2.1 ⟨⟨_, rfl, Int.le_refl _, Int.le_refl _⟩, ⟨_, rfl, Int.le_refl _, Int.le_refl _⟩, trivial⟩ (by decide) hl.1 (fun _ h => by cases h) dX6_ringOf_11 (fun H locs w1 r b1 b2 b3 b4 b5 b6 b7 => ?_)
    obtain ⟨_, _, rfl, ⟨z, rfl, lz⟩, b8⟩ := zst1 b7.1
    obtain rfl := zst0 b8
    dsimp only at lz
    have hG : zHp D vwCl A s.heap (tyA cI cZ cB cJ cR) zKS ks ad RX0 Psi [] ws w1 H locs := ⟨b1, b2, b3, b4, b5, fun k f hf => (b6 k f (fun h9 => by cases h9)).trans (hG.2.2.2.2.2 k f hf)⟩
    clear b1 b2 b3 b4 b5 b6 b7
    dsimp only [List.cons_append, List.nil_append]
    refine lv_if_ne (tgt := 33) hx hb dX6_ringOf_14 (by decide) (fun _ => hex b q ls w1 H locs hl hG) (fun hz => ?_)
    have hz : zbit b q = 0 := by rw [hz] at lz; have : (0 : Int32).toInt = 0 := rfl; omega
    obtain ⟨u1, u2⟩ := bitsUp h1 h2 (by omega) h4 hz
    refine lv_iload_n hx hb dX6_ringOf_17 rfl (lv_at hl 1 rfl) ?_
    refine lv_iconst (v := 1) hx hb dX6_ringOf_18 (by decide) ?_
    refine lv_iload_n hx hb dX6_ringOf_19 rfl (lv_at hl 0 rfl) ?_
    refine lv_ishl hx hb dX6_ringOf_20 ?_
    refine lv_ior hx hb dX6_ringOf_21 ?_
    refine lv_istore_n hx hb dX6_ringOf_22 rfl hl (by decide) rfl (fun ls hl => ?_)
    have hl : lv_has ls 4 [(2, .int (b ||| (1 <<< (q &&& 31)))), (3, .int q), (0, .ref a), (1, .int v1)] := hl
    obtain ⟨fs, hob, hfs⟩ := zobj hG.2.2.2.1 ki di zks_6
    obtain ⟨r22, j22, q22, k22, d22⟩ := zref (f := 22) (k := 47) hfs rfl
    obtain ⟨f22, g22, m22⟩ := zarrI hG.2.2.2.1 k22 d22 (rfl : zKS[47]? = _)
    refine lv_aload_n hx hb dX6_ringOf_23 rfl (lv_at hl 2 rfl) ?_
    refine zg_RX6 X (50, 6, 22) (by decide) _ zks_6 (by decide) _ _ _ _ _ _ _ i _ (.ref r22) hG.1 hob q22 dX6_ringOf_24 ?_
    refine lv_iload_n hx hb dX6_ringOf_27 rfl (lv_at hl 1 rfl) ?_
    refine va_iald hx hb X.2.1.1 hG.1 j22 0 g22 rfl (vp_in_iff.mpr ⟨by omega, by omega⟩) dX6_ringOf_28 ?_
    have ecq : (q.toNatClampNeg : Int) = q.toInt := tcn (by omega)
    have lq : -1 ≤ (f22 q.toNatClampNeg).toInt ∧ (f22 q.toNatClampNeg).toInt ≤ 6 := m22 _ (by omega)
    refine lv_istore_n hx hb dX6_ringOf_29 rfl hl (by decide) rfl (fun ls hl => ?_)
    have hl : lv_has ls 4 [(3, .int (f22 (q).toNatClampNeg)), (2, .int (b ||| (1 <<< (q &&& 31)))), (0, .ref a), (1, .int v1)] := hl
    refine lv_goto (tgt := 4) hx hb dX6_ringOf_30 (by decide) ?_
    exact ih _ _ ls _ H locs (by omega) u2 lq.1 lq.2 (by omega) hl hG
theorem two_pow_half {f s : Int} (h1 : 0 < s) (h2 : s < f) {n : Nat} (h : f * s < 2 ^ (n + 1)) : s * (f % s) < 2 ^ n := by
  have e1 := Int.emod_nonneg f (show s ≠ 0 by omega)
  have e2 := Int.emod_lt_of_pos f h1
  have e3 := Int.mul_ediv_add_emod f s
  have e4 : 1 ≤ f / s := by
    have := Int.ediv_le_ediv h1 (Int.le_of_lt h2)
    rwa [Int.ediv_self (by omega)] at this
  have e5 : s * 1 ≤ s * (f / s) := Int.mul_le_mul_of_nonneg_left e4 (by omega)
  have e6 : 2 * (f % s) ≤ f := by omega
  have e7 : s * (2 * (f % s)) ≤ s * f := Int.mul_le_mul_of_nonneg_left e6 (by omega)
  rw [Int.mul_left_comm] at e7
  rw [Int.pow_succ] at h
  rw [Int.mul_comm s f] at e7
  omega
theorem zh_commonX {l : Launch} {D : va_G} {cI cZ cB cJ cR : ClassId} {ks ad : List Nat} {Psi : va_W → Prop} : ∀ (n : Nat) (f g : Int64), 0 ≤ g.toInt → g.toInt < f.toInt → f.toInt ≤ 1000000000000 → f.toInt * g.toInt < 2 ^ n → zMet l D cI cZ cB cJ cR zKS ks ad Psi yX6_common (.code yX6_common cX6_common 4 (some .long)) (n + 1) ([(1, f.toInt, f.toInt), (1, g.toInt, g.toInt)], some (1, 1, 1000000000000), [], [], [], [], []) := by
  intro n
  induction n with
  | zero =>
    intro f g h1 h2 h3 hp
    have hg0 : g.toInt = 0 := by
      have e : (2 : Int) ^ 0 = 1 := rfl
      rw [e] at hp
      by_cases h : g.toInt < 1
      · omega
      · have h : 1 ≤ g.toInt := by omega
        have := Int.mul_le_mul (show (1 : Int) ≤ f.toInt by omega) h (by omega) (by omega)
        omega
    refine zmet_gen 1 (by decide) (Nat.le_of_ble_eq_true rfl) rfl ?_
    intro p e R s m args below meth c Q A ws As ls X hG hok hpre hR hl
    have hx := X.1.1
    have hb := X.1.2.1
    obtain ⟨_, _, rfl, ⟨x, rfl, lx⟩, hok1⟩ := zst1 hok
    obtain ⟨_, _, rfl, ⟨y, rfl, ly⟩, hok2⟩ := zst1 hok1
    obtain rfl := zst0 hok2
    dsimp only at lx ly
    have hl : lv_has ls 4 [(0, .long x), (2, .long y)] := hl
    refine lv_lload_n hx hb dX6_common_0 rfl (lv_at hl 1 rfl) ?_
    refine lv_lconst (v := 0) hx hb dX6_common_1 (by decide) ?_
    refine W.lcmp hx hb dX6_common_2 ?_
    refine lv_if_ne (tgt := 10) hx hb dX6_common_3 (by decide) (fun hne => ?_) (fun heq => ?_)
    · exfalso
      have e0 : y = 0 := Int64.toInt_inj.mp (show y.toInt = 0 by omega)
      subst e0
      exact hne (by decide)
    · have heq : y.toInt = 0 := by
        have h0 : (lg_cmp y 0).toInt = 0 := by rw [heq]; rfl
        have g1 := cmp_ge (x := y) (y := 0) (by omega)
        have g2 := cmp_le (x := y) (y := 0) (by omega)
        have g3 : (0 : Int64).toInt = 0 := rfl
        omega
      refine lv_lload_n hx hb dX6_common_6 rfl (lv_at hl 0 rfl) ?_
      refine lv_goto (tgt := 17) hx hb dX6_common_7 (by decide) ?_
      exact hR 17 _ _ _ _ [.long x] hG ⟨⟨⟨_, rfl, show (1 : Int) ≤ _ by omega, show _ ≤ (1000000000000 : Int) by omega⟩, trivial⟩, fun _ h => (by cases h), fun _ h => (by cases h)⟩ dX6_common_17
  | succ n ih =>
    intro f g h1 h2 h3 hp
    refine zmet_gen (n + 1 + 1) (by decide) (Nat.le_of_ble_eq_true rfl) rfl ?_
    intro p e R s m args below meth c Q A ws As ls X hG hok hpre hR hl
    have hx := X.1.1
    have hb := X.1.2.1
    obtain ⟨_, _, rfl, ⟨x, rfl, lx⟩, hok1⟩ := zst1 hok
    obtain ⟨_, _, rfl, ⟨y, rfl, ly⟩, hok2⟩ := zst1 hok1
    obtain rfl := zst0 hok2
    dsimp only at lx ly
    have ex : x = f := Int64.toInt_inj.mp (by omega)
    have ey : y = g := Int64.toInt_inj.mp (by omega)
    subst ex
    subst ey
    have hl : lv_has ls 4 [(0, .long x), (2, .long y)] := hl
    refine lv_lload_n hx hb dX6_common_0 rfl (lv_at hl 1 rfl) ?_
    refine lv_lconst (v := 0) hx hb dX6_common_1 (by decide) ?_
    refine W.lcmp hx hb dX6_common_2 ?_
    refine lv_if_ne (tgt := 10) hx hb dX6_common_3 (by decide) (fun hne => ?_) (fun heq => ?_)
    · have hne : y.toInt ≠ 0 := fun h9 => hne (by rw [show y = 0 from Int64.toInt_inj.mp h9]; decide)
      refine lv_lload_n hx hb dX6_common_10 rfl (lv_at hl 1 rfl) ?_
      refine lv_lload_n hx hb dX6_common_11 rfl (lv_at hl 0 rfl) ?_
      refine lv_lload_n hx hb dX6_common_12 rfl (lv_at hl 1 rfl) ?_
      refine lv_lrem hx hb dX6_common_13 (ne64 (by omega)) ?_
      have er := remL x y (by omega) (by omega)
      have e1 := Int.emod_nonneg x.toInt (show y.toInt ≠ 0 by omega)
      have e2 := Int.emod_lt_of_pos x.toInt (show 0 < y.toInt by omega)
      generalize x - x / y * y = z at er ⊢
      refine zq_RX6_376 X (ih y z (by omega) (by omega) (by omega) (by rw [er]; exact two_pow_half (by omega) h2 hp)) (Nat.le_refl _) rfl _ _ [] _ _ _ [.long y, .long z] hG.1 hG.2.1 hG.2.2.1 hG.2.2.2.1 hG.2.2.2.2.1 ⟨⟨_, rfl, Int.le_refl _, Int.le_refl _⟩, ⟨_, rfl, Int.le_refl _, Int.le_refl _⟩, trivial⟩ (by decide) hl.1 (fun _ h => by cases h) dX6_common_14 (fun H locs w1 r b1 b2 b3 b4 b5 b6 b7 => ?_)
      obtain ⟨_, _, rfl, ⟨u, rfl, lu⟩, b8⟩ := zst1 b7.1
      obtain rfl := zst0 b8
      dsimp only at lu
      exact hR 17 _ _ _ _ [.long u] ⟨b1, b2, b3, b4, b5, fun k f hf => (b6 k f (fun h9 => by cases h9)).trans (hG.2.2.2.2.2 k f hf)⟩ ⟨⟨⟨_, rfl, lu⟩, trivial⟩, fun _ h => (by cases h), fun _ h => (by cases h)⟩ dX6_common_17
    · have heq : y.toInt = 0 := by
        have h0 : (lg_cmp y 0).toInt = 0 := by rw [heq]; rfl
        have g1 := cmp_ge (x := y) (y := 0) (by omega)
        have g2 := cmp_le (x := y) (y := 0) (by omega)
        have g3 : (0 : Int64).toInt = 0 := rfl
        omega
      refine lv_lload_n hx hb dX6_common_6 rfl (lv_at hl 0 rfl) ?_
      refine lv_goto (tgt := 17) hx hb dX6_common_7 (by decide) ?_
      exact hR 17 _ _ _ _ [.long x] hG ⟨⟨⟨_, rfl, show (1 : Int) ≤ _ by omega, show _ ≤ (1000000000000 : Int) by omega⟩, trivial⟩, fun _ h => (by cases h), fun _ h => (by cases h)⟩ dX6_common_17
theorem zh_common {l : Launch} {D : va_G} {cI cZ cB cJ cR : ClassId} {ks ad : List Nat} {Psi : va_W → Prop} : zMet l D cI cZ cB cJ cR zKS ks ad Psi yX6_common (.code yX6_common cX6_common 4 (some .long)) 90 ([(1, 0, 1000000000000), (1, 1, 1000000000000)], some (1, 1, 1000000000000), [], [], [], [], []) := by
  refine zmet_gen 90 (by decide) (Nat.le_of_ble_eq_true rfl) rfl ?_
  intro p e R s m args below meth c Q A ws As ls X hG hok hpre hR hl
  have hx := X.1.1
  have hb := X.1.2.1
  obtain ⟨_, _, rfl, ⟨x, rfl, lx⟩, hok1⟩ := zst1 hok
  obtain ⟨_, _, rfl, ⟨y, rfl, ly⟩, hok2⟩ := zst1 hok1
  obtain rfl := zst0 hok2
  dsimp only at lx ly
  have hl : lv_has ls 4 [(0, .long x), (2, .long y)] := hl
  refine lv_lload_n hx hb dX6_common_0 rfl (lv_at hl 1 rfl) ?_
  refine lv_lconst (v := 0) hx hb dX6_common_1 (by decide) ?_
  refine W.lcmp hx hb dX6_common_2 ?_
  refine lv_if_ne (tgt := 10) hx hb dX6_common_3 (by decide) (fun hne => ?_) (fun heq => ?_)
  · skip
    refine lv_lload_n hx hb dX6_common_10 rfl (lv_at hl 1 rfl) ?_
    refine lv_lload_n hx hb dX6_common_11 rfl (lv_at hl 0 rfl) ?_
    refine lv_lload_n hx hb dX6_common_12 rfl (lv_at hl 1 rfl) ?_
    refine lv_lrem hx hb dX6_common_13 (ne64 (by omega)) ?_
    have er := remL x y (by omega) (by omega)
    have e1 := Int.emod_nonneg x.toInt (show y.toInt ≠ 0 by omega)
    have e2 := Int.emod_lt_of_pos x.toInt (show 0 < y.toInt by omega)
    generalize x - x / y * y = z at er ⊢
    refine zq_RX6_376 X (zh_commonX 80 y z (by omega) (by omega) (by omega) (by have := Int.mul_le_mul (show y.toInt ≤ 1000000000000 by omega) (show z.toInt ≤ 1000000000000 by omega) (by omega) (by omega); omega)) (by decide) rfl _ _ [] _ _ _ [.long y, .long z] hG.1 hG.2.1 hG.2.2.1 hG.2.2.2.1 hG.2.2.2.2.1 ⟨⟨_, rfl, Int.le_refl _, Int.le_refl _⟩, ⟨_, rfl, Int.le_refl _, Int.le_refl _⟩, trivial⟩ (by decide) hl.1 (fun _ h => by cases h) dX6_common_14 (fun H locs w1 r b1 b2 b3 b4 b5 b6 b7 => ?_)
    obtain ⟨_, _, rfl, ⟨u, rfl, lu⟩, b8⟩ := zst1 b7.1
    obtain rfl := zst0 b8
    dsimp only at lu
    exact hR 17 _ _ _ _ [.long u] ⟨b1, b2, b3, b4, b5, fun k f hf => (b6 k f (fun h9 => by cases h9)).trans (hG.2.2.2.2.2 k f hf)⟩ ⟨⟨⟨_, rfl, lu⟩, trivial⟩, fun _ h => (by cases h), fun _ h => (by cases h)⟩ dX6_common_17
  · have heq : y.toInt = 0 := by
      have h0 : (lg_cmp y 0).toInt = 0 := by rw [heq]; rfl
      have g1 := cmp_ge (x := y) (y := 0) (by omega)
      have g2 := cmp_le (x := y) (y := 0) (by omega)
      have g3 : (0 : Int64).toInt = 0 := rfl
      omega
    omega
