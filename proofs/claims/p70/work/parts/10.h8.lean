theorem zHp.next {D : va_G} {cl : List vw_C} {A : Nat → Prop} {tys : List (ClassId × FieldType)} {KS : List zk} {ks ad : List Nat} {RC : String} {Psi : va_W → Prop} {wq wr : List (Nat × Nat)} {ws0 w w1 : va_W} {H H0 H1 : Heap} {locs locs1 : List Loc} (hG : zHp D cl A H0 tys KS ks ad RC Psi wq ws0 w H locs) (b1 : va_P D cl w1 H1) (b2 : va_D A w1) (b3 : va_S A H0 H1 locs1) (b4 : zconf KS ks ad RC tys w1) (b5 : Psi w1) (b6 : zkeep ks wr w w1) (hs : ∀ q ∈ wr, q ∈ wq) : zHp D cl A H0 tys KS ks ad RC Psi wq ws0 w1 H1 locs1 :=
  ⟨b1, b2, b3, b4, b5, fun k f hf => (b6 k f (fun h9 => hf (hs _ h9))).trans (hG.2.2.2.2.2 k f hf)⟩
section HL
variable {D : va_G} {cl : List vw_C} {A : Nat → Prop} {cI cZ cB cJ cR : ClassId} {KS : List zk} {uq NS ks ad : List Nat} {Psi : va_W → Prop} {wq : List (Nat × Nat)} {ws0 w : va_W} {H H0 H1 : Heap} {locs locs1 : List Loc}
theorem zarrZ {j k r n : Nat} {el : List zt} (hc : zconf KS ks ad RX0 (tyA cI cZ cB cJ cR) w) (h1 : ks[j]? = some k) (h2 : ad[j]? = some r) (hk : KS[k]? = some (.inl (1, n, el))) : ∃ f : Nat → Int32, w[j]? = some (r, .inl (cZ, n, .inl f)) ∧ ∀ q, q < n → (zel el q).2.1 ≤ (f q).toInt ∧ (f q).toInt ≤ (zel el q).2.2 := by
  obtain ⟨e, h3, h4⟩ := zconf_at hc h1 h2 hk
  match e, h4 with
  | .inl (cA, z, .inl f), ⟨b1, b2, b3⟩ =>
    dsimp only at b1 b3
    subst b1
    have b2' : some (cZ, FieldType.boolean) = some (cA, FieldType.boolean) := b2
    cases b2'
    exact ⟨f, h3, b3.2⟩
  | .inl (_, _, .inr (.inl _)), ⟨_, _, b3⟩ => exact absurd b3.1 (show ¬ (1 : Nat) = 3 by decide)
  | .inl (_, _, .inr (.inr (.inr (.inr _)))), ⟨_, _, b3⟩ => exact absurd b3.1 (show ¬ (1 : Nat) = 4 by decide)
  | .inl (_, _, .inr (.inr (.inl _))), ⟨_, _, b3⟩ => exact b3.elim
  | .inl (_, _, .inr (.inr (.inr (.inl _)))), ⟨_, _, b3⟩ => exact b3.elim
  | .inr _, h4 => exact h4.elim
/-- a row of longs of any numbers, written -/
theorem zHp.stL {j kd r n : Nat} {f G : Nat → Int64} (hw : zworld ks ad uq NS Psi) (hG : zHp D cl A H0 (tyA cI cZ cB cJ cR) KS ks ad RX0 Psi wq ws0 w H locs) (h1 : ks[j]? = some kd) (h2 : NS.contains kd = false) (h3 : w[j]? = some (r, .inl (cJ, n, .inr (.inl f)))) (h4 : KS[kd]? = some (.inl (3, n, [(1, (-9223372036854775808), 9223372036854775807)]))) (hq : zTA.contains kd = false ∨ ∀ q, q < n → (kd, 1000 + q) ∈ wq) (hGn : ∀ q, ¬ q < n → G q = f q)
    (a1 : va_P D cl (w.set j (r, .inl (cJ, n, .inr (.inl G)))) H1) (a2 : va_D A (w.set j (r, .inl (cJ, n, .inr (.inl G))))) (a3 : va_S A H0 H1 locs1) : zHp D cl A H0 (tyA cI cZ cB cJ cR) KS ks ad RX0 Psi wq ws0 (w.set j (r, .inl (cJ, n, .inr (.inl G)))) H1 locs1 := by
  refine ⟨a1, a2, a3, zconf_set hG.2.2.2.1 h1 h3 h4 ⟨rfl, rfl, (show (3 : Nat) = 3 from rfl), fun q _ => bL _⟩, hw.2.2.2 _ _ kd _ (.inl (cJ, n, .inr (.inl f))) _ h1 h2 trivial h3 hG.2.2.2.2.1, fun k f' hf' => (zfv_set h3 h1 k f' (fun e9 => ?_)).trans (hG.2.2.2.2.2 k f' hf')⟩
  subst e9
  rcases hq with hta | hq
  · rw [zav_un hta, zav_un hta]
  · show (if zTA.contains k && Nat.ble 1000 f' then (G (f' - 1000)).toInt else 0) = (if zTA.contains k && Nat.ble 1000 f' then (f (f' - 1000)).toInt else 0)
    split
    · rename_i hc9
      rw [Bool.and_eq_true] at hc9
      have h1000 := Nat.le_of_ble_eq_true hc9.2
      by_cases hlt : f' - 1000 < n
      · exfalso
        have := hq _ hlt
        rw [show 1000 + (f' - 1000) = f' by omega] at this
        exact hf' this
      · rw [hGn _ hlt]
    · rfl
end HL
def zslot (v : Int32) : Int := if 0 ≤ v.toInt ∧ v.toInt < 4 then 1 else 0
theorem zslot_b (v : Int32) : 0 ≤ zslot v ∧ zslot v ≤ 1 := by unfold zslot; split <;> decide
theorem zslot_in {v : Int32} (h : zslot v ≠ 0) : 0 ≤ v.toInt ∧ v.toInt ≤ 3 := by
  unfold zslot at h
  split at h
  · omega
  · exact absurd rfl h
def zhold (i n : Int32) : Int := if 0 ≤ i.toInt ∧ 0 ≤ n.toInt ∧ i.toInt + n.toInt ≤ 60 then 1 else 0
theorem zhold_b (i n : Int32) : 0 ≤ zhold i n ∧ zhold i n ≤ 1 := by unfold zhold; split <;> decide
theorem zhold_in {i n : Int32} (h : 1 ≤ zhold i n) : 0 ≤ i.toInt ∧ 0 ≤ n.toInt ∧ i.toInt + n.toInt ≤ 60 := by
  unfold zhold at h
  split at h
  · assumption
  · omega
theorem dX3_areAlike_0 : decode cX3_areAlike 0 = .ok (.aload_n 0, 1) := by decide +kernel
theorem dX3_areAlike_1 : decode cX3_areAlike 1 = .ok (.getfield 13, 3) := by decide +kernel
theorem dX3_areAlike_10 : decode cX3_areAlike 10 = .ok (.iload_n 2, 1) := by decide +kernel
theorem dX3_areAlike_11 : decode cX3_areAlike 11 = .ok (.iaload, 1) := by decide +kernel
theorem dX3_areAlike_12 : decode cX3_areAlike 12 = .ok (.if_icmp .ne 7, 3) := by decide +kernel
theorem dX3_areAlike_15 : decode cX3_areAlike 15 = .ok (.iconst 1, 1) := by decide +kernel
theorem dX3_areAlike_16 : decode cX3_areAlike 16 = .ok (.goto 4, 3) := by decide +kernel
theorem dX3_areAlike_19 : decode cX3_areAlike 19 = .ok (.iconst 0, 1) := by decide +kernel
theorem dX3_areAlike_20 : decode cX3_areAlike 20 = .ok (.ireturn, 1) := by decide +kernel
theorem dX3_areAlike_4 : decode cX3_areAlike 4 = .ok (.iload_n 1, 1) := by decide +kernel
theorem dX3_areAlike_5 : decode cX3_areAlike 5 = .ok (.iaload, 1) := by decide +kernel
theorem dX3_areAlike_6 : decode cX3_areAlike 6 = .ok (.aload_n 0, 1) := by decide +kernel
theorem dX3_areAlike_7 : decode cX3_areAlike 7 = .ok (.getfield 13, 3) := by decide +kernel
theorem dX3_copyOver_0 : decode cX3_copyOver 0 = .ok (.aload_n 0, 1) := by decide +kernel
theorem dX3_copyOver_1 : decode cX3_copyOver 1 = .ok (.getfield 20, 3) := by decide +kernel
theorem dX3_copyOver_10 : decode cX3_copyOver 10 = .ok (.aload_n 0, 1) := by decide +kernel
theorem dX3_copyOver_11 : decode cX3_copyOver 11 = .ok (.getfield 20, 3) := by decide +kernel
theorem dX3_copyOver_14 : decode cX3_copyOver 14 = .ok (.iload_n 3, 1) := by decide +kernel
theorem dX3_copyOver_15 : decode cX3_copyOver 15 = .ok (.bipush 60, 2) := by decide +kernel
theorem dX3_copyOver_17 : decode cX3_copyOver 17 = .ok (.imul, 1) := by decide +kernel
theorem dX3_copyOver_18 : decode cX3_copyOver 18 = .ok (.iload 4, 2) := by decide +kernel
theorem dX3_copyOver_20 : decode cX3_copyOver 20 = .ok (.iadd, 1) := by decide +kernel
theorem dX3_copyOver_21 : decode cX3_copyOver 21 = .ok (.iload 5, 2) := by decide +kernel
theorem dX3_copyOver_23 : decode cX3_copyOver 23 = .ok (.invokestatic 28, 3) := by decide +kernel
theorem dX3_copyOver_26 : decode cX3_copyOver 26 = .ok (.return_, 1) := by decide +kernel
theorem dX3_copyOver_4 : decode cX3_copyOver 4 = .ok (.iload_n 1, 1) := by decide +kernel
theorem dX3_copyOver_5 : decode cX3_copyOver 5 = .ok (.bipush 60, 2) := by decide +kernel
theorem dX3_copyOver_7 : decode cX3_copyOver 7 = .ok (.imul, 1) := by decide +kernel
theorem dX3_copyOver_8 : decode cX3_copyOver 8 = .ok (.iload_n 2, 1) := by decide +kernel
theorem dX3_copyOver_9 : decode cX3_copyOver 9 = .ok (.iadd, 1) := by decide +kernel
theorem dX3_hasRow_0 : decode cX3_hasRow 0 = .ok (.aload_n 0, 1) := by decide +kernel
theorem dX3_hasRow_1 : decode cX3_hasRow 1 = .ok (.getfield 9, 3) := by decide +kernel
theorem dX3_hasRow_4 : decode cX3_hasRow 4 = .ok (.iload_n 1, 1) := by decide +kernel
theorem dX3_hasRow_5 : decode cX3_hasRow 5 = .ok (.baload, 1) := by decide +kernel
theorem dX3_hasRow_6 : decode cX3_hasRow 6 = .ok (.ireturn, 1) := by decide +kernel
theorem dX3_holds_0 : decode cX3_holds 0 = .ok (.iload_n 2, 1) := by decide +kernel
theorem dX3_holds_1 : decode cX3_holds 1 = .ok (.ifCond .lt 23, 3) := by decide +kernel
theorem dX3_holds_10 : decode cX3_holds 10 = .ok (.getfield 17, 3) := by decide +kernel
theorem dX3_holds_13 : decode cX3_holds 13 = .ok (.iload_n 1, 1) := by decide +kernel
theorem dX3_holds_14 : decode cX3_holds 14 = .ok (.iaload, 1) := by decide +kernel
theorem dX3_holds_15 : decode cX3_holds 15 = .ok (.iload_n 3, 1) := by decide +kernel
theorem dX3_holds_16 : decode cX3_holds 16 = .ok (.isub, 1) := by decide +kernel
theorem dX3_holds_17 : decode cX3_holds 17 = .ok (.if_icmp .gt 7, 3) := by decide +kernel
theorem dX3_holds_20 : decode cX3_holds 20 = .ok (.iconst 1, 1) := by decide +kernel
theorem dX3_holds_21 : decode cX3_holds 21 = .ok (.goto 4, 3) := by decide +kernel
theorem dX3_holds_24 : decode cX3_holds 24 = .ok (.iconst 0, 1) := by decide +kernel
theorem dX3_holds_25 : decode cX3_holds 25 = .ok (.ireturn, 1) := by decide +kernel
theorem dX3_holds_4 : decode cX3_holds 4 = .ok (.iload_n 3, 1) := by decide +kernel
theorem dX3_holds_5 : decode cX3_holds 5 = .ok (.ifCond .lt 19, 3) := by decide +kernel
theorem dX3_holds_8 : decode cX3_holds 8 = .ok (.iload_n 2, 1) := by decide +kernel
theorem dX3_holds_9 : decode cX3_holds 9 = .ok (.aload_n 0, 1) := by decide +kernel
theorem dX3_isSlot_0 : decode cX3_isSlot 0 = .ok (.iload_n 1, 1) := by decide +kernel
theorem dX3_isSlot_1 : decode cX3_isSlot 1 = .ok (.ifCond .lt 12, 3) := by decide +kernel
theorem dX3_isSlot_10 : decode cX3_isSlot 10 = .ok (.goto 4, 3) := by decide +kernel
theorem dX3_isSlot_13 : decode cX3_isSlot 13 = .ok (.iconst 0, 1) := by decide +kernel
theorem dX3_isSlot_14 : decode cX3_isSlot 14 = .ok (.ireturn, 1) := by decide +kernel
theorem dX3_isSlot_4 : decode cX3_isSlot 4 = .ok (.iload_n 1, 1) := by decide +kernel
theorem dX3_isSlot_5 : decode cX3_isSlot 5 = .ok (.iconst 4, 1) := by decide +kernel
theorem dX3_isSlot_6 : decode cX3_isSlot 6 = .ok (.if_icmp .ge 7, 3) := by decide +kernel
theorem dX3_isSlot_9 : decode cX3_isSlot 9 = .ok (.iconst 1, 1) := by decide +kernel
theorem zh_isSlot3 {l : Launch} {D : va_G} {cI cZ cB cJ cR : ClassId} {ks ad : List Nat} {Psi : va_W → Prop} (v0 : Int32) : zMet l D cI cZ cB cJ cR zKS ks ad Psi yX3_isSlot (.code yX3_isSlot cX3_isSlot 2 (some .boolean)) 2 ([(5, 0, 0), (0, v0.toInt, v0.toInt)], some (0, zslot v0, zslot v0), [], [], [], [], []) := by
  refine zmet_gen 2 (by decide) (Nat.le_of_ble_eq_true rfl) (by show (decide (0 ≤ zslot v0) && decide (zslot v0 ≤ 1)) = true; have := zslot_b v0; simp [this]) ?_
  intro p e R s m args below meth c Q A ws As ls X hG hok hpre hR hl
  have hx := X.1.1
  have hb := X.1.2.1
  obtain ⟨_, _, rfl, ⟨a, i, rfl, ki, di⟩, hok1⟩ := zst1 hok
  obtain ⟨_, _, rfl, ⟨v, rfl, lv⟩, hok2⟩ := zst1 hok1
  obtain rfl := zst0 hok2
  dsimp only at lv
  have ev : v = v0 := Int32.toInt_inj.mp (by omega)
  subst ev
  have hl : lv_has ls 2 [(0, .ref a), (1, .int v)] := hl
  refine lv_iload_n hx hb dX3_isSlot_0 rfl (lv_at hl 1 rfl) ?_
  refine lv_if_lt (tgt := 13) hx hb dX3_isSlot_1 (by decide) (fun h1 => ?_) (fun h1 => ?_)
  · simp only [Int32.lt_iff_toInt_lt, Int32.reduceToInt] at h1
    refine lv_iconst (v := 0) hx hb dX3_isSlot_13 (by decide) ?_
    exact hR 14 _ _ _ _ [.int 0] hG ⟨⟨⟨0, rfl, by unfold zslot; rw [if_neg (by omega)]; decide⟩, trivial⟩, fun _ h => (by cases h), fun _ h => (by cases h)⟩ dX3_isSlot_14
  · simp only [Int32.lt_iff_toInt_lt, Int32.reduceToInt] at h1
    refine lv_iload_n hx hb dX3_isSlot_4 rfl (lv_at hl 1 rfl) ?_
    refine lv_iconst (v := 4) hx hb dX3_isSlot_5 (by decide) ?_
    refine lv_icmp_ge (tgt := 13) hx hb dX3_isSlot_6 (by decide) (fun h2 => ?_) (fun h2 => ?_)
    · simp only [ge_iff_le, Int32.le_iff_toInt_le, Int32.reduceToInt] at h2
      refine lv_iconst (v := 0) hx hb dX3_isSlot_13 (by decide) ?_
      exact hR 14 _ _ _ _ [.int 0] hG ⟨⟨⟨0, rfl, by unfold zslot; rw [if_neg (by omega)]; decide⟩, trivial⟩, fun _ h => (by cases h), fun _ h => (by cases h)⟩ dX3_isSlot_14
    · simp only [ge_iff_le, Int32.le_iff_toInt_le, Int32.reduceToInt] at h2
      refine lv_iconst (v := 1) hx hb dX3_isSlot_9 (by decide) ?_
      refine lv_goto (tgt := 14) hx hb dX3_isSlot_10 (by decide) ?_
      exact hR 14 _ _ _ _ [.int 1] hG ⟨⟨⟨1, rfl, by unfold zslot; rw [if_pos (by omega)]; decide⟩, trivial⟩, fun _ h => (by cases h), fun _ h => (by cases h)⟩ dX3_isSlot_14
theorem zh_hasRow3 {l : Launch} {D : va_G} {cI cZ cB cJ cR : ClassId} {ks ad : List Nat} {Psi : va_W → Prop} : zMet l D cI cZ cB cJ cR zKS ks ad Psi yX3_hasRow (.code yX3_hasRow cX3_hasRow 2 (some .boolean)) 2 ([(5, 0, 0), (0, 0, 3)], some (0, 0, 1), [], [], [], [], []) := by
  refine zmet_gen 2 (by decide) (Nat.le_of_ble_eq_true rfl) rfl ?_
  intro p e R s m args below meth c Q A ws As ls X hG hok hpre hR hl
  have hx := X.1.1
  have hb := X.1.2.1
  obtain ⟨_, _, rfl, ⟨a, i, rfl, ki, di⟩, hok1⟩ := zst1 hok
  obtain ⟨_, _, rfl, ⟨v, rfl, lv⟩, hok2⟩ := zst1 hok1
  obtain rfl := zst0 hok2
  dsimp only at lv
  obtain ⟨fs, hob, hfs⟩ := zobj hG.2.2.2.1 ki di zks_3
  have hl : lv_has ls 2 [(0, .ref a), (1, .int v)] := hl
  obtain ⟨r0, j0, q0, k0, d0⟩ := zref (f := 0) (k := 29) hfs rfl
  obtain ⟨f0, g0, m0⟩ := zarrZ hG.2.2.2.1 k0 d0 (rfl : zKS[29]? = _)
  refine lv_aload_n hx hb dX3_hasRow_0 rfl (lv_at hl 0 rfl) ?_
  refine zg_RX3 X (9, 3, 0) (by decide) _ zks_3 (by decide) _ _ _ _ _ _ _ i _ (.ref r0) hG.1 hob q0 dX3_hasRow_1 ?_
  refine lv_iload_n hx hb dX3_hasRow_4 rfl (lv_at hl 1 rfl) ?_
  have cv := tcn (z := v) lv.1
  refine va_zald hx hb X.2.1.1 hG.1 j0 1 g0 rfl (vp_in_iff.mpr ⟨by omega, by omega⟩) dX3_hasRow_5 ?_
  exact hR 6 _ _ _ _ [_] hG ⟨⟨⟨_, rfl, m0 _ (by omega)⟩, trivial⟩, fun _ h => (by cases h), fun _ h => (by cases h)⟩ dX3_hasRow_6
theorem zh_areAlike3 {l : Launch} {D : va_G} {cI cZ cB cJ cR : ClassId} {ks ad : List Nat} {Psi : va_W → Prop} : zMet l D cI cZ cB cJ cR zKS ks ad Psi yX3_areAlike (.code yX3_areAlike cX3_areAlike 3 (some .boolean)) 2 ([(5, 0, 0), (0, 0, 3), (0, 0, 3)], some (0, 0, 1), [], [], [], [], []) := by
  refine zmet_gen 2 (by decide) (Nat.le_of_ble_eq_true rfl) rfl ?_
  intro p e R s m args below meth c Q A ws As ls X hG hok hpre hR hl
  have hx := X.1.1
  have hb := X.1.2.1
  obtain ⟨_, _, rfl, ⟨a, i, rfl, ki, di⟩, hok1⟩ := zst1 hok
  obtain ⟨_, _, rfl, ⟨v, rfl, lv⟩, hok2⟩ := zst1 hok1
  obtain ⟨_, _, rfl, ⟨u, rfl, lu⟩, hok3⟩ := zst1 hok2
  obtain rfl := zst0 hok3
  dsimp only at lv lu
  obtain ⟨fs, hob, hfs⟩ := zobj hG.2.2.2.1 ki di zks_3
  have hl : lv_has ls 3 [(0, .ref a), (1, .int v), (2, .int u)] := hl
  obtain ⟨r1, j1, q1, k1, d1⟩ := zref (f := 1) (k := 30) hfs rfl
  obtain ⟨f1, g1, m1⟩ := zarrI hG.2.2.2.1 k1 d1 (rfl : zKS[30]? = _)
  refine lv_aload_n hx hb dX3_areAlike_0 rfl (lv_at hl 0 rfl) ?_
  refine zg_RX3 X (13, 3, 1) (by decide) _ zks_3 (by decide) _ _ _ _ _ _ _ i _ (.ref r1) hG.1 hob q1 dX3_areAlike_1 ?_
  refine lv_iload_n hx hb dX3_areAlike_4 rfl (lv_at hl 1 rfl) ?_
  refine va_iald hx hb X.2.1.1 hG.1 j1 0 g1 rfl (vp_in_iff.mpr ⟨by omega, by omega⟩) dX3_areAlike_5 ?_
  refine lv_aload_n hx hb dX3_areAlike_6 rfl (lv_at hl 0 rfl) ?_
  refine zg_RX3 X (13, 3, 1) (by decide) _ zks_3 (by decide) _ _ _ _ _ _ _ i _ (.ref r1) hG.1 hob q1 dX3_areAlike_7 ?_
  refine lv_iload_n hx hb dX3_areAlike_10 rfl (lv_at hl 2 rfl) ?_
  refine va_iald hx hb X.2.1.1 hG.1 j1 0 g1 rfl (vp_in_iff.mpr ⟨by omega, by omega⟩) dX3_areAlike_11 ?_
  refine lv_icmp_ne (tgt := 19) hx hb dX3_areAlike_12 (by decide) (fun _ => ?_) (fun _ => ?_)
  · skip
    refine lv_iconst (v := 0) hx hb dX3_areAlike_19 (by decide) ?_
    exact hR 20 _ _ _ _ [.int 0] hG ⟨⟨⟨0, rfl, by decide⟩, trivial⟩, fun _ h => (by cases h), fun _ h => (by cases h)⟩ dX3_areAlike_20
  · skip
    refine lv_iconst (v := 1) hx hb dX3_areAlike_15 (by decide) ?_
    refine lv_goto (tgt := 20) hx hb dX3_areAlike_16 (by decide) ?_
    exact hR 20 _ _ _ _ [.int 1] hG ⟨⟨⟨1, rfl, by decide⟩, trivial⟩, fun _ h => (by cases h), fun _ h => (by cases h)⟩ dX3_areAlike_20
theorem zh_holds3 {l : Launch} {D : va_G} {cI cZ cB cJ cR : ClassId} {ks ad : List Nat} {Psi : va_W → Prop} (x0 y0 : Int32) : zMet l D cI cZ cB cJ cR zKS ks ad Psi yX3_holds (.code yX3_holds cX3_holds 4 (some .boolean)) 2 ([(5, 0, 0), (0, 0, 3), (0, x0.toInt, x0.toInt), (0, y0.toInt, y0.toInt)], some (0, 0, zhold x0 y0), [], [], [], [], []) := by
  refine zmet_gen 2 (by decide) (Nat.le_of_ble_eq_true rfl) (by show (decide ((0 : Int) ≤ 0) && decide (zhold x0 y0 ≤ 1)) = true; have := zhold_b x0 y0; simp [this]) ?_
  intro p e R s m args below meth c Q A ws As ls X hG hok hpre hR hl
  have hx := X.1.1
  have hb := X.1.2.1
  obtain ⟨_, _, rfl, ⟨a, i, rfl, ki, di⟩, hok1⟩ := zst1 hok
  obtain ⟨_, _, rfl, ⟨v, rfl, lv⟩, hok2⟩ := zst1 hok1
  obtain ⟨_, _, rfl, ⟨x, rfl, lx⟩, hok3⟩ := zst1 hok2
  obtain ⟨_, _, rfl, ⟨y, rfl, ly⟩, hok4⟩ := zst1 hok3
  obtain rfl := zst0 hok4
  dsimp only at lv lx ly
  have ex : x = x0 := Int32.toInt_inj.mp (by omega)
  have ey : y = y0 := Int32.toInt_inj.mp (by omega)
  subst ex
  subst ey
  have hb0 := zhold_b x y
  obtain ⟨fs, hob, hfs⟩ := zobj hG.2.2.2.1 ki di zks_3
  have hl : lv_has ls 4 [(0, .ref a), (1, .int v), (2, .int x), (3, .int y)] := hl
  obtain ⟨r2, j2, q2, k2, d2⟩ := zref (f := 2) (k := 31) hfs rfl
  obtain ⟨f2, g2, m2⟩ := zarrI hG.2.2.2.1 k2 d2 (rfl : zKS[31]? = _)
  refine lv_iload_n hx hb dX3_holds_0 rfl (lv_at hl 2 rfl) ?_
  refine lv_if_lt (tgt := 24) hx hb dX3_holds_1 (by decide) (fun h1 => ?_) (fun h1 => ?_)
  · skip
    refine lv_iconst (v := 0) hx hb dX3_holds_24 (by decide) ?_
    exact hR 25 _ _ _ _ [.int 0] hG ⟨⟨⟨0, rfl, (show (0 : Int) ≤ 0 by decide), hb0.1⟩, trivial⟩, fun _ h => (by cases h), fun _ h => (by cases h)⟩ dX3_holds_25
  simp only [Int32.lt_iff_toInt_lt, Int32.reduceToInt] at h1
  refine lv_iload_n hx hb dX3_holds_4 rfl (lv_at hl 3 rfl) ?_
  refine lv_if_lt (tgt := 24) hx hb dX3_holds_5 (by decide) (fun h2 => ?_) (fun h2 => ?_)
  · skip
    refine lv_iconst (v := 0) hx hb dX3_holds_24 (by decide) ?_
    exact hR 25 _ _ _ _ [.int 0] hG ⟨⟨⟨0, rfl, (show (0 : Int) ≤ 0 by decide), hb0.1⟩, trivial⟩, fun _ h => (by cases h), fun _ h => (by cases h)⟩ dX3_holds_25
  simp only [Int32.lt_iff_toInt_lt, Int32.reduceToInt] at h2
  refine lv_iload_n hx hb dX3_holds_8 rfl (lv_at hl 2 rfl) ?_
  refine lv_aload_n hx hb dX3_holds_9 rfl (lv_at hl 0 rfl) ?_
  refine zg_RX3 X (17, 3, 2) (by decide) _ zks_3 (by decide) _ _ _ _ _ _ _ i _ (.ref r2) hG.1 hob q2 dX3_holds_10 ?_
  refine lv_iload_n hx hb dX3_holds_13 rfl (lv_at hl 1 rfl) ?_
  refine va_iald hx hb X.2.1.1 hG.1 j2 0 g2 rfl (vp_in_iff.mpr ⟨by omega, by omega⟩) dX3_holds_14 ?_
  have cv := tcn (z := v) lv.1
  have lf : 0 ≤ (f2 v.toNatClampNeg).toInt ∧ (f2 v.toNatClampNeg).toInt ≤ 60 := m2 _ (by omega)
  refine lv_iload_n hx hb dX3_holds_15 rfl (lv_at hl 3 rfl) ?_
  refine lv_isub hx hb dX3_holds_16 ?_
  refine lv_topi (fun z hz => ?_)
  have ez : z.toInt = (f2 v.toNatClampNeg).toInt - y.toInt := by rw [hz, subI _ _ (by have := bT y; omega)]
  refine lv_icmp_gt (tgt := 24) hx hb dX3_holds_17 (by decide) (fun h3 => ?_) (fun h3 => ?_)
  · skip
    refine lv_iconst (v := 0) hx hb dX3_holds_24 (by decide) ?_
    exact hR 25 _ _ _ _ [.int 0] hG ⟨⟨⟨0, rfl, (show (0 : Int) ≤ 0 by decide), hb0.1⟩, trivial⟩, fun _ h => (by cases h), fun _ h => (by cases h)⟩ dX3_holds_25
  · simp only [gt_iff_lt, Int32.lt_iff_toInt_lt] at h3
    refine lv_iconst (v := 1) hx hb dX3_holds_20 (by decide) ?_
    refine lv_goto (tgt := 25) hx hb dX3_holds_21 (by decide) ?_
    exact hR 25 _ _ _ _ [.int 1] hG ⟨⟨⟨1, rfl, (show (0 : Int) ≤ 1 by decide), (show (1 : Int) ≤ _ by unfold zhold; rw [if_pos (by omega)]; decide)⟩, trivial⟩, fun _ h => (by cases h), fun _ h => (by cases h)⟩ dX3_holds_25
theorem zh_copyOver3 {l : Launch} {D : va_G} {cI cZ cB cJ cR : ClassId} {ks ad : List Nat} {Psi : va_W → Prop} (hw : zworld ks ad zuq zNS Psi) (x0 z0 y0 : Int32) (h1 : 0 ≤ x0.toInt) (h2 : 0 ≤ z0.toInt) (h3 : 0 ≤ y0.toInt) (h4 : x0.toInt + y0.toInt ≤ 60) (h5 : z0.toInt + y0.toInt ≤ 60) : zMet l D cI cZ cB cJ cR zKS ks ad Psi yX3_copyOver (.code yX3_copyOver cX3_copyOver 6 none) 2 ([(5, 0, 0), (0, 0, 3), (0, x0.toInt, x0.toInt), (0, 0, 3), (0, z0.toInt, z0.toInt), (0, y0.toInt, y0.toInt)], none, [], [], [], zrun 32 1000 1 240, []) := by
  refine zmet_gen 2 (by decide) (Nat.le_of_ble_eq_true rfl) rfl ?_
  intro p e R s m args below meth c Q A ws As ls X hG hok hpre hR hl
  have hx := X.1.1
  have hb := X.1.2.1
  obtain ⟨_, _, rfl, ⟨a, i, rfl, ki, di⟩, hok1⟩ := zst1 hok
  obtain ⟨_, _, rfl, ⟨v, rfl, lv⟩, hok2⟩ := zst1 hok1
  obtain ⟨_, _, rfl, ⟨x, rfl, lx⟩, hok3⟩ := zst1 hok2
  obtain ⟨_, _, rfl, ⟨u, rfl, lu⟩, hok4⟩ := zst1 hok3
  obtain ⟨_, _, rfl, ⟨z, rfl, lz⟩, hok5⟩ := zst1 hok4
  obtain ⟨_, _, rfl, ⟨y, rfl, ly⟩, hok6⟩ := zst1 hok5
  obtain rfl := zst0 hok6
  dsimp only at lv lx lu lz ly
  obtain ⟨fs, hob, hfs⟩ := zobj hG.2.2.2.1 ki di zks_3
  have hl : lv_has ls 6 [(0, .ref a), (1, .int v), (2, .int x), (3, .int u), (4, .int z), (5, .int y)] := hl
  obtain ⟨r3, j3, q3, k3, d3⟩ := zref (f := 3) (k := 32) hfs rfl
  obtain ⟨f3, g3, m3⟩ := zarrJ hG.2.2.2.1 k3 d3 (rfl : zKS[32]? = _)
  refine lv_aload_n hx hb dX3_copyOver_0 rfl (lv_at hl 0 rfl) ?_
  refine zg_RX3 X (20, 3, 3) (by decide) _ zks_3 (by decide) _ _ _ _ _ _ _ i _ (.ref r3) hG.1 hob q3 dX3_copyOver_1 ?_
  refine lv_iload_n hx hb dX3_copyOver_4 rfl (lv_at hl 1 rfl) ?_
  refine lv_bipush (v := 60) hx hb dX3_copyOver_5 (by decide) ?_
  refine lv_imul hx hb dX3_copyOver_7 ?_
  refine lv_topi (fun t1 ht1 => ?_)
  have et1 : t1.toInt = v.toInt * 60 := by rw [ht1, mulI _ _ (by simp only [Int32.reduceToInt]; omega)]; rfl
  refine lv_iload_n hx hb dX3_copyOver_8 rfl (lv_at hl 2 rfl) ?_
  refine lv_iadd hx hb dX3_copyOver_9 ?_
  refine lv_topi (fun t2 ht2 => ?_)
  have et2 : t2.toInt = v.toInt * 60 + x.toInt := by rw [ht2, addI _ _ (by omega), et1]
  refine lv_aload_n hx hb dX3_copyOver_10 rfl (lv_at hl 0 rfl) ?_
  refine zg_RX3 X (20, 3, 3) (by decide) _ zks_3 (by decide) _ _ _ _ _ _ _ i _ (.ref r3) hG.1 hob q3 dX3_copyOver_11 ?_
  refine lv_iload_n hx hb dX3_copyOver_14 rfl (lv_at hl 3 rfl) ?_
  refine lv_bipush (v := 60) hx hb dX3_copyOver_15 (by decide) ?_
  refine lv_imul hx hb dX3_copyOver_17 ?_
  refine lv_topi (fun t3 ht3 => ?_)
  have et3 : t3.toInt = u.toInt * 60 := by rw [ht3, mulI _ _ (by simp only [Int32.reduceToInt]; omega)]; rfl
  refine lv_iload hx hb dX3_copyOver_18 (lv_at hl 4 rfl) ?_
  refine lv_iadd hx hb dX3_copyOver_20 ?_
  refine lv_topi (fun t4 ht4 => ?_)
  have et4 : t4.toInt = u.toInt * 60 + z.toInt := by rw [ht4, addI _ _ (by omega), et3]
  refine lv_iload hx hb dX3_copyOver_21 (lv_at hl 5 rfl) ?_
  have hfr : 1 ≤ R.frames := by have := X.2.2.2.1; omega
  have h50 : nativeFrameWords "java/lang/System" "arraycopy" 5 + 11 ≤ 50 := by decide
  have hlo : (([] : List Value).map fun v => v.category).sum + (nativeFrameWords "java/lang/System" "arraycopy" 5 + 11) ≤ R.locals := by have h120 := X.2.2.2.2.1; show 0 + _ ≤ _; omega
  have nn : ∀ q : Int32, 0 ≤ q.toInt → ¬ q < 0 := fun q hq hlt => by rw [Int32.lt_iff_toInt_lt, Int32.toInt_zero] at hlt; omega
  have c2 := tcn (z := t2) (by omega)
  have c4 := tcn (z := t4) (by omega)
  have cy := tcn (z := y) (by omega)
  refine va_copyl (rest := []) hx hb (X.1.2.2.1.trans hl.1.symm) X.1.2.2.2.1 (X.1.2.2.2.2 _ lm_62_11) (X.1.2.2.2.2 _ lm_31_13) (X.1.2.2.2.2 _ lm_31_14) (X.1.2.2.2.2 _ lm_31_15) X.2.1.1 hG.1 hG.2.1 hG.2.2.1 j3 j3 3 3 g3 g3 rfl rfl rfl (nn t2 (by omega)) (nn t4 (by omega)) (nn y (by omega)) (by omega) (by omega) (fun _ _ => rfl) hfr hlo dX3_copyOver_23 (fun H locs a1 a2 a3 => ?_)
  refine hR 26 _ _ _ _ [] (hG.stL hw k3 (by decide) g3 rfl (Or.inr (fun q hq => zrun_mem hq)) (fun q hq => ?_) a1 a2 a3) ⟨trivial, fun _ h => (by cases h), fun _ h => (by cases h)⟩ dX3_copyOver_26
  unfold va_cpy
  rw [if_neg (by omega)]
