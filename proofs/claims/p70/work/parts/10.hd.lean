def znz (L : Int) : Int := if L = 0 then 0 else 1
theorem znz_b (L : Int) : 0 ≤ znz L ∧ znz L ≤ 1 := by unfold znz; split <;> decide
theorem znz_0 {L : Int} (h : znz L = 0) : L = 0 := by
  unfold znz at h
  split at h
  · assumption
  · exact absurd h (by decide)
theorem znz_1 {L : Int} (h : znz L ≠ 0) : L ≠ 0 := fun e => h (by unfold znz; rw [if_pos e])
theorem znz_of {L x : Int} (e : x = L) (h : 0 ≤ x ∧ x ≤ 1) : znz L ≤ x ∧ x ≤ znz L := by
  subst e
  unfold znz
  split <;> omega
def zeqw (a b : Int) : Int := if a = b then 1 else 0
theorem zeqw_b (a b : Int) : 0 ≤ zeqw a b ∧ zeqw a b ≤ 1 := by unfold zeqw; split <;> decide
theorem zeqw_0 {a b : Int} (h : zeqw a b = 0) : a ≠ b := fun e => by
  unfold zeqw at h
  rw [if_pos e] at h
  exact absurd h (by decide)
theorem zeqw_1 {a b : Int} (h : zeqw a b ≠ 0) : a = b := by
  unfold zeqw at h
  split at h
  · assumption
  · exact absurd rfl h
def zhol (S i n : Int) : Int := if 0 ≤ i ∧ 0 ≤ n ∧ i + n ≤ S ∧ S ≤ 60 then 1 else 0
theorem zhol_b (S i n : Int) : 0 ≤ zhol S i n ∧ zhol S i n ≤ 1 := by unfold zhol; split <;> decide
theorem zhol_0 {S i n : Int} (h : zhol S i n = 0) : i < 0 ∨ n < 0 ∨ S < i + n ∨ 60 < S := by
  unfold zhol at h
  split at h
  · exact absurd h (by decide)
  · omega
theorem zhol_1 {S i n : Int} (h : zhol S i n ≠ 0) : 0 ≤ i ∧ 0 ≤ n ∧ i + n ≤ S ∧ S ≤ 60 := by
  unfold zhol at h
  split at h
  · assumption
  · exact absurd rfl h
theorem zhol_no {S i n : Int} (c : i < 0 ∨ n < 0 ∨ S < i + n) : zhol S i n ≤ (0 : Int32).toInt ∧ (0 : Int32).toInt ≤ zhol S i n := by
  unfold zhol
  rw [if_neg (by omega)]
  decide
theorem zhol_ye {S i n : Int} (c : 0 ≤ i ∧ 0 ≤ n ∧ i + n ≤ S ∧ S ≤ 60) : zhol S i n ≤ (1 : Int32).toInt ∧ (1 : Int32).toInt ≤ zhol S i n := by
  unfold zhol
  rw [if_pos c]
  decide
theorem zeqw_no {a b : Int} (c : a ≠ b) : zeqw a b ≤ (0 : Int32).toInt ∧ (0 : Int32).toInt ≤ zeqw a b := by
  unfold zeqw
  rw [if_neg c]
  decide
theorem zeqw_ye {a b : Int} (c : a = b) : zeqw a b ≤ (1 : Int32).toInt ∧ (1 : Int32).toInt ≤ zeqw a b := by
  unfold zeqw
  rw [if_pos c]
  decide
theorem zslot_out {v : Int32} (h : zslot v = 0) : v.toInt < 0 ∨ 3 < v.toInt := by
  unfold zslot at h
  split at h
  · exact absurd h (by decide)
  · omega
def zinr (v a b : Int) : Int := if a ≤ v ∧ v ≤ b then 1 else 0
theorem zinr_b (v a b : Int) : 0 ≤ zinr v a b ∧ zinr v a b ≤ 1 := by unfold zinr; split <;> decide
theorem zinr_no {v a b : Int} (c : v < a ∨ b < v) : zinr v a b ≤ (0 : Int32).toInt ∧ (0 : Int32).toInt ≤ zinr v a b := by
  unfold zinr
  rw [if_neg (by omega)]
  decide
theorem zinr_ye {v a b : Int} (c : a ≤ v ∧ v ≤ b) : zinr v a b ≤ (1 : Int32).toInt ∧ (1 : Int32).toInt ≤ zinr v a b := by
  unfold zinr
  rw [if_pos c]
  decide
theorem zslot_in6 (v : Int32) : zinr v.toInt64.toInt (0 : Int64).toInt (3 : Int64).toInt = zslot v := by
  rw [i2L, show (0 : Int64).toInt = 0 from by decide, show (3 : Int64).toInt = 3 from by decide]
  unfold zinr zslot
  by_cases c : 0 ≤ v.toInt ∧ v.toInt ≤ 3
  · rw [if_pos c, if_pos (by omega)]
  · rw [if_neg c, if_neg (by omega)]
/-- what paste answers: of slots, laid rows, widths, sizes -/
def zPA (v1 v2 v3 v4 v5 L1 L3 W1 W3 S1 S3 : Int) : Int := if v1 < 0 ∨ 3 < v1 ∨ v3 < 0 ∨ 3 < v3 then -2 else if L1 = 0 ∨ L3 = 0 then -6 else if W1 ≠ W3 then -8 else if v2 < 0 ∨ v4 < 0 ∨ v5 < 0 ∨ S1 < v2 + v5 ∨ S3 < v4 + v5 ∨ 60 < S1 ∨ 60 < S3 then -7 else 0
section PA
variable {v1 v2 v3 v4 v5 L1 L3 W1 W3 S1 S3 : Int}
theorem zPA2 (c1 : v1 < 0 ∨ 3 < v1 ∨ v3 < 0 ∨ 3 < v3) : zPA v1 v2 v3 v4 v5 L1 L3 W1 W3 S1 S3 ≤ (-2 : Int32).toInt ∧ (-2 : Int32).toInt ≤ zPA v1 v2 v3 v4 v5 L1 L3 W1 W3 S1 S3 := by
  unfold zPA
  rw [if_pos c1]
  decide
theorem zPA6 (c1 : ¬ (v1 < 0 ∨ 3 < v1 ∨ v3 < 0 ∨ 3 < v3)) (c2 : L1 = 0 ∨ L3 = 0) : zPA v1 v2 v3 v4 v5 L1 L3 W1 W3 S1 S3 ≤ (-6 : Int32).toInt ∧ (-6 : Int32).toInt ≤ zPA v1 v2 v3 v4 v5 L1 L3 W1 W3 S1 S3 := by
  unfold zPA
  rw [if_neg c1, if_pos c2]
  decide
theorem zPA8 (c1 : ¬ (v1 < 0 ∨ 3 < v1 ∨ v3 < 0 ∨ 3 < v3)) (c2 : ¬ (L1 = 0 ∨ L3 = 0)) (c3 : W1 ≠ W3) : zPA v1 v2 v3 v4 v5 L1 L3 W1 W3 S1 S3 ≤ (-8 : Int32).toInt ∧ (-8 : Int32).toInt ≤ zPA v1 v2 v3 v4 v5 L1 L3 W1 W3 S1 S3 := by
  unfold zPA
  rw [if_neg c1, if_neg c2, if_pos c3]
  decide
theorem zPA7 (c1 : ¬ (v1 < 0 ∨ 3 < v1 ∨ v3 < 0 ∨ 3 < v3)) (c2 : ¬ (L1 = 0 ∨ L3 = 0)) (c3 : W1 = W3) (c4 : v2 < 0 ∨ v4 < 0 ∨ v5 < 0 ∨ S1 < v2 + v5 ∨ S3 < v4 + v5 ∨ 60 < S1 ∨ 60 < S3) : zPA v1 v2 v3 v4 v5 L1 L3 W1 W3 S1 S3 ≤ (-7 : Int32).toInt ∧ (-7 : Int32).toInt ≤ zPA v1 v2 v3 v4 v5 L1 L3 W1 W3 S1 S3 := by
  unfold zPA
  rw [if_neg c1, if_neg c2, if_neg (fun h => h c3), if_pos c4]
  decide
theorem zPA0 (c1 : ¬ (v1 < 0 ∨ 3 < v1 ∨ v3 < 0 ∨ 3 < v3)) (c2 : ¬ (L1 = 0 ∨ L3 = 0)) (c3 : W1 = W3) (c4 : ¬ (v2 < 0 ∨ v4 < 0 ∨ v5 < 0 ∨ S1 < v2 + v5 ∨ S3 < v4 + v5 ∨ 60 < S1 ∨ 60 < S3)) : zPA v1 v2 v3 v4 v5 L1 L3 W1 W3 S1 S3 ≤ (0 : Int32).toInt ∧ (0 : Int32).toInt ≤ zPA v1 v2 v3 v4 v5 L1 L3 W1 W3 S1 S3 := by
  unfold zPA
  rw [if_neg c1, if_neg c2, if_neg (fun h => h c3), if_neg c4]
  decide
theorem zPA_eq0 {K1 K3 M1 M3 : Int} (c1 : ¬ (v1 < 0 ∨ 3 < v1 ∨ v3 < 0 ∨ 3 < v3)) (s1 : S1 = M1) (b1 : (L1 = 0 ∧ K1 = -1) ∨ (L1 ≠ 0 ∧ 0 ≤ K1 ∧ W1 = K1)) (s3 : S3 = M3) (b3 : (L3 = 0 ∧ K3 = -1) ∨ (L3 ≠ 0 ∧ 0 ≤ K3 ∧ W3 = K3)) : zPA v1 v2 v3 v4 v5 L1 L3 W1 W3 S1 S3 = zPA v1 v2 v3 v4 v5 (K1 + 1) (K3 + 1) K1 K3 M1 M3 := by
  rw [← s1, ← s3]
  unfold zPA
  rw [if_neg c1, if_neg c1]
  by_cases c2 : L1 = 0 ∨ L3 = 0
  · rw [if_pos c2, if_pos (show K1 + 1 = 0 ∨ K3 + 1 = 0 by omega)]
  · rw [if_neg c2, if_neg (show ¬ (K1 + 1 = 0 ∨ K3 + 1 = 0) by omega)]
    by_cases c3 : W1 ≠ W3
    · rw [if_pos c3, if_pos (show K1 ≠ K3 by omega)]
    · rw [if_neg c3, if_neg (show ¬ K1 ≠ K3 by omega)]
end PA
/-- a number of the start, exact -/
def zpe (i : Nat) (L : Int) : List zfact := [([], i, 0, L), ([], 0, i, -L)]
theorem zpe_get {rho : List Int} {i : Nat} {L v : Int} (h : zfs rho (zpe i L)) (h0 : rho[0]? = some 0) (hi : rho[i]? = some v) : v = L := by
  have h : ∀ f ∈ ([([], i, 0, L), ([], 0, i, -L)] : List zfact), zfh rho f := h
  obtain ⟨a, b, e1, e2, e3⟩ := h ([], i, 0, L) List.mem_cons_self (fun q hq => absurd hq List.not_mem_nil)
  obtain ⟨a', b', e4, e5, e6⟩ := h ([], 0, i, -L) (List.mem_cons_of_mem _ List.mem_cons_self) (fun q hq => absurd hq List.not_mem_nil)
  have e1 : rho[i]? = some a := e1
  have e2 : rho[0]? = some b := e2
  have e4 : rho[0]? = some a' := e4
  have e5 : rho[i]? = some b' := e5
  have e3 : b + L ≤ a := e3
  have e6 : b' + -L ≤ a' := e6
  rw [hi] at e1 e5
  rw [h0] at e2 e4
  injection e1 with e1
  injection e2 with e2
  injection e4 with e4
  injection e5 with e5
  omega
theorem zpe_mk {rho : List Int} {i : Nat} {L v : Int} (h0 : rho[0]? = some 0) (hi : rho[i]? = some v) (e : v = L) : zfs rho (zpe i L) := by
  intro f hf _
  have hf : f ∈ ([([], i, 0, L), ([], 0, i, -L)] : List zfact) := hf
  rcases List.mem_cons.mp hf with hf | hf
  · subst hf
    exact ⟨v, 0, hi, h0, (show (0 : Int) + L ≤ v by omega)⟩
  · rw [List.mem_singleton] at hf
    subst hf
    exact ⟨0, v, h0, hi, (show v + -L ≤ (0 : Int) by omega)⟩
theorem zfs_two {rho : List Int} {a b : List zfact} (h : zfs rho (a ++ b)) : zfs rho a ∧ zfs rho b := ⟨fun f hf => h f (List.mem_append_left _ hf), fun f hf => h f (List.mem_append_right _ hf)⟩
theorem zfs_mk2 {rho : List Int} {a b : List zfact} (h1 : zfs rho a) (h2 : zfs rho b) : zfs rho (a ++ b) := fun f hf => (List.mem_append.mp hf).elim (h1 f) (h2 f)
theorem zrun_ne {k k' f f' d n : Nat} (h : k' ≠ k) : (k', f') ∉ zrun k f d n := fun hm => by
  obtain ⟨j, _, e⟩ := List.mem_map.mp hm
  exact h (congrArg Prod.fst e : k = k').symm
theorem zwr6_ne {k f : Nat} (h1 : k ≠ 6) (h2 : k ≠ 38) : (k, f) ∉ [(6, 0)] ++ zrun 38 1000 1 240 := fun hm => (List.mem_append.mp hm).elim (fun h => h1 (congrArg Prod.fst (List.mem_singleton.mp h))) (zrun_ne h2)
theorem zrowv {ks ad NS : List Nat} {Psi : va_W → Prop} {w : va_W} {k j r n q : Nat} {cA : ClassId} {f : Nat → Int32} (hw : zworld ks ad zuq NS Psi) (hk : k ∈ zuq) (ht : zTA.contains k = true) (h1 : ks[j]? = some k) (h3 : w[j]? = some (r, .inl (cA, n, .inl f))) : zfv ks w k (1000 + q) = (f q).toInt := by
  rw [zfv_cell hw.1 hk h1 h3, zav_in ht (Nat.le_add_right _ _), Nat.add_sub_cancel_left]
theorem dX6_in_0 : decode cX6_in 0 = .ok (.lload_n 0, 1) := by decide +kernel
theorem dX6_in_1 : decode cX6_in 1 = .ok (.lload_n 2, 1) := by decide +kernel
theorem dX6_in_10 : decode cX6_in 10 = .ok (.ifCond .gt 7, 3) := by decide +kernel
theorem dX6_in_13 : decode cX6_in 13 = .ok (.iconst 1, 1) := by decide +kernel
theorem dX6_in_14 : decode cX6_in 14 = .ok (.goto 4, 3) := by decide +kernel
theorem dX6_in_17 : decode cX6_in 17 = .ok (.iconst 0, 1) := by decide +kernel
theorem dX6_in_18 : decode cX6_in 18 = .ok (.ireturn, 1) := by decide +kernel
theorem dX6_in_2 : decode cX6_in 2 = .ok (.lcmp, 1) := by decide +kernel
theorem dX6_in_3 : decode cX6_in 3 = .ok (.ifCond .lt 14, 3) := by decide +kernel
theorem dX6_in_6 : decode cX6_in 6 = .ok (.lload_n 0, 1) := by decide +kernel
theorem dX6_in_7 : decode cX6_in 7 = .ok (.lload 4, 2) := by decide +kernel
theorem dX6_in_9 : decode cX6_in 9 = .ok (.lcmp, 1) := by decide +kernel
theorem dX6_isSlot_0 : decode cX6_isSlot 0 = .ok (.iload_n 0, 1) := by decide +kernel
theorem dX6_isSlot_1 : decode cX6_isSlot 1 = .ok (.i2l, 1) := by decide +kernel
theorem dX6_isSlot_2 : decode cX6_isSlot 2 = .ok (.lconst 0, 1) := by decide +kernel
theorem dX6_isSlot_3 : decode cX6_isSlot 3 = .ok (.ldc2_w 74, 3) := by decide +kernel
theorem dX6_isSlot_6 : decode cX6_isSlot 6 = .ok (.invokestatic 76, 3) := by decide +kernel
theorem dX6_isSlot_9 : decode cX6_isSlot 9 = .ok (.ireturn, 1) := by decide +kernel
theorem zh_in6 {l : Launch} {D : va_G} {cI cZ cB cJ cR : ClassId} {ks ad : List Nat} {Psi : va_W → Prop} (x0 y0 z0 : Int64) : zMet l D cI cZ cB cJ cR zKS ks ad Psi yX6_in (.code yX6_in cX6_in 6 (some .boolean)) 1 ([(1, x0.toInt, x0.toInt), (1, y0.toInt, y0.toInt), (1, z0.toInt, z0.toInt)], some (0, zinr x0.toInt y0.toInt z0.toInt, zinr x0.toInt y0.toInt z0.toInt), [], [], [], [], []) := by
  refine zmet_gen 1 (by decide) (Nat.le_of_ble_eq_true rfl) (by show (decide (0 ≤ zinr x0.toInt y0.toInt z0.toInt) && decide (zinr x0.toInt y0.toInt z0.toInt ≤ 1)) = true; have := zinr_b x0.toInt y0.toInt z0.toInt; simp [this]) ?_
  intro p e R s m args below meth c Q A ws As ls X hG hok hpre hR hl
  have hx := X.1.1
  have hb := X.1.2.1
  obtain ⟨_, _, rfl, ⟨x, rfl, lx⟩, hok1⟩ := zst1 hok
  obtain ⟨_, _, rfl, ⟨y, rfl, ly⟩, hok2⟩ := zst1 hok1
  obtain ⟨_, _, rfl, ⟨z, rfl, lz⟩, hok3⟩ := zst1 hok2
  obtain rfl := zst0 hok3
  dsimp only at lx ly lz
  have ev_x : x = x0 := Int64.toInt_inj.mp (by omega)
  subst ev_x
  have ev_y : y = y0 := Int64.toInt_inj.mp (by omega)
  subst ev_y
  have ev_z : z = z0 := Int64.toInt_inj.mp (by omega)
  subst ev_z
  have hl : lv_has ls 6 [(0, .long x), (2, .long y), (4, .long z)] := hl
  refine lv_lload_n hx hb dX6_in_0 rfl (lv_at hl 0 rfl) ?_
  refine lv_lload_n hx hb dX6_in_1 rfl (lv_at hl 1 rfl) ?_
  refine W.lcmp hx hb dX6_in_2 ?_
  refine lv_if_lt (tgt := 17) hx hb dX6_in_3 (by decide) (fun h1 => ?_) (fun h1 => ?_)
  · simp only [Int32.lt_iff_toInt_lt, Int32.reduceToInt] at h1
    have c1 := cmp_lt (x := x) (y := y) h1
    refine lv_iconst (v := 0) hx hb dX6_in_17 (by decide) ?_
    exact hR 18 _ _ _ _ [.int 0] hG ⟨⟨⟨_, rfl, zinr_no (by omega)⟩, trivial⟩, fun _ h => (by cases h), fun _ h => (by cases h)⟩ dX6_in_18
  · simp only [Int32.lt_iff_toInt_lt, Int32.reduceToInt] at h1
    have c1 := cmp_ge (x := x) (y := y) (by omega)
    refine lv_lload_n hx hb dX6_in_6 rfl (lv_at hl 0 rfl) ?_
    refine lv_lload hx hb dX6_in_7 (lv_at hl 2 rfl) ?_
    refine W.lcmp hx hb dX6_in_9 ?_
    refine lv_if_gt (tgt := 17) hx hb dX6_in_10 (by decide) (fun h2 => ?_) (fun h2 => ?_)
    · simp only [gt_iff_lt, Int32.lt_iff_toInt_lt, Int32.reduceToInt] at h2
      have c2 := cmp_gt (x := x) (y := z) h2
      refine lv_iconst (v := 0) hx hb dX6_in_17 (by decide) ?_
      exact hR 18 _ _ _ _ [.int 0] hG ⟨⟨⟨_, rfl, zinr_no (by omega)⟩, trivial⟩, fun _ h => (by cases h), fun _ h => (by cases h)⟩ dX6_in_18
    · simp only [gt_iff_lt, Int32.lt_iff_toInt_lt, Int32.reduceToInt] at h2
      have c2 := cmp_le (x := x) (y := z) (by omega)
      refine lv_iconst (v := 1) hx hb dX6_in_13 (by decide) ?_
      refine lv_goto (tgt := 18) hx hb dX6_in_14 (by decide) ?_
      exact hR 18 _ _ _ _ [.int 1] hG ⟨⟨⟨_, rfl, zinr_ye ⟨by omega, by omega⟩⟩, trivial⟩, fun _ h => (by cases h), fun _ h => (by cases h)⟩ dX6_in_18
theorem zh_isSlot6 {l : Launch} {D : va_G} {cI cZ cB cJ cR : ClassId} {ks ad : List Nat} {Psi : va_W → Prop} (v0 : Int32) : zMet l D cI cZ cB cJ cR zKS ks ad Psi yX6_isSlot (.code yX6_isSlot cX6_isSlot 1 (some .boolean)) 2 ([(0, v0.toInt, v0.toInt)], some (0, zslot v0, zslot v0), [], [], [], [], []) := by
  refine zmet_gen 2 (by decide) (Nat.le_of_ble_eq_true rfl) (by show (decide (0 ≤ zslot v0) && decide (zslot v0 ≤ 1)) = true; have := zslot_b v0; simp [this]) ?_
  intro p e R s m args below meth c Q A ws As ls X hG hok hpre hR hl
  have hx := X.1.1
  have hb := X.1.2.1
  obtain ⟨_, _, rfl, ⟨v, rfl, lv⟩, hok1⟩ := zst1 hok
  obtain rfl := zst0 hok1
  dsimp only at lv
  have ev_v : v = v0 := Int32.toInt_inj.mp (by omega)
  subst ev_v
  have hl : lv_has ls 1 [(0, .int v)] := hl
  refine lv_iload_n hx hb dX6_isSlot_0 rfl (lv_at hl 0 rfl) ?_
  refine lv_i2l hx hb dX6_isSlot_1 rfl ?_
  refine lv_lconst (v := 0) hx hb dX6_isSlot_2 (by decide) ?_
  refine lv_ldc2 (v := 3) hx hb X.1.2.2.2.1 (X.1.2.2.2.2 _ lm_47_14) dX6_isSlot_3 ?_
  refine zq_RX6_76 X (zh_in6 v.toInt64 0 3) (by decide) rfl _ _ [] _ _ _ [.long v.toInt64, .long 0, .long 3] hG.1 hG.2.1 hG.2.2.1 hG.2.2.2.1 hG.2.2.2.2.1 ⟨⟨_, rfl, Int.le_refl _, Int.le_refl _⟩, ⟨_, rfl, Int.le_refl _, Int.le_refl _⟩, ⟨_, rfl, Int.le_refl _, Int.le_refl _⟩, trivial⟩ (by decide) hl.1 (fun _ h => by cases h) dX6_isSlot_6 (fun H locs w1 r b1 b2 b3 b4 b5 b6 b7 => ?_)
  obtain ⟨_, _, rfl, ⟨z, rfl, lz⟩, b8⟩ := zst1 b7.1
  obtain rfl := zst0 b8
  have lz : zinr v.toInt64.toInt (0 : Int64).toInt (3 : Int64).toInt ≤ z.toInt ∧ z.toInt ≤ zinr v.toInt64.toInt (0 : Int64).toInt (3 : Int64).toInt := lz
  rw [zslot_in6] at lz
  dsimp only [List.cons_append, List.nil_append]
  exact hR 9 _ _ _ _ [.int z] (hG.next b1 b2 b3 b4 b5 b6 nilz) ⟨⟨⟨_, rfl, lz⟩, trivial⟩, fun _ h => (by cases h), fun _ h => (by cases h)⟩ dX6_isSlot_9
theorem zh_hasRow3x {l : Launch} {D : va_G} {cI cZ cB cJ cR : ClassId} {ks ad : List Nat} {Psi : va_W → Prop} (hw : zworld ks ad zuq zNS Psi) (v0 : Int32) (L : Int) (in0 : 0 ≤ v0.toInt ∧ v0.toInt ≤ 3) : zMet l D cI cZ cB cJ cR zKS ks ad Psi yX3_hasRow (.code yX3_hasRow cX3_hasRow 2 (some .boolean)) 2 ([(5, 0, 0), (0, v0.toInt, v0.toInt)], some (0, znz L, znz L), [(29, 1000 + v0.toNatClampNeg)], [], [], [], zpe 3 L) := by
  refine zmet_gen 2 (by decide) (Nat.le_of_ble_eq_true rfl) (by show (decide (0 ≤ znz L) && decide (znz L ≤ 1)) = true; have := znz_b L; simp [this]) ?_
  intro p e R s m args below meth c Q A ws As ls X hG hok hpre hR hl
  have hx := X.1.1
  have hb := X.1.2.1
  obtain ⟨_, _, rfl, ⟨a, i, rfl, ki, di⟩, hok1⟩ := zst1 hok
  obtain ⟨_, _, rfl, ⟨v, rfl, lv⟩, hok2⟩ := zst1 hok1
  obtain rfl := zst0 hok2
  dsimp only at lv
  have ev_v : v = v0 := Int32.toInt_inj.mp (by omega)
  subst ev_v
  have hpre : zfs [0, 0, v.toInt, zfv ks ws 29 (1000 + v.toNatClampNeg)] (zpe 3 L) := hpre
  have eL := zpe_get (v := zfv ks ws 29 (1000 + v.toNatClampNeg)) hpre rfl rfl
  obtain ⟨fs, hob, hfs⟩ := zobj hG.2.2.2.1 ki di zks_3
  have hl : lv_has ls 2 [(0, .ref a), (1, .int v)] := hl
  obtain ⟨r0, j0, q0, k0, d0⟩ := zref (f := 0) (k := 29) hfs rfl
  obtain ⟨f0, g0, m0⟩ := zarrZ hG.2.2.2.1 k0 d0 (rfl : zKS[29]? = _)
  have cv := tcn (z := v) in0.1
  have e0 := zrowv (q := v.toNatClampNeg) hw (show 29 ∈ zuq by decide) (by decide) k0 g0
  refine lv_aload_n hx hb dX3_hasRow_0 rfl (lv_at hl 0 rfl) ?_
  refine zg_RX3 X (9, 3, 0) (by decide) _ zks_3 (by decide) _ _ _ _ _ _ _ i _ (.ref r0) hG.1 hob q0 dX3_hasRow_1 ?_
  refine lv_iload_n hx hb dX3_hasRow_4 rfl (lv_at hl 1 rfl) ?_
  refine va_zald hx hb X.2.1.1 hG.1 j0 1 g0 rfl (vp_in_iff.mpr ⟨by omega, by omega⟩) dX3_hasRow_5 ?_
  exact hR 6 _ _ _ _ [_] hG ⟨⟨⟨_, rfl, znz_of (e0.symm.trans eL) (m0 _ (by omega))⟩, trivial⟩, fun _ h => (by cases h), fun _ h => (by cases h)⟩ dX3_hasRow_6
theorem zh_areAlike3x {l : Launch} {D : va_G} {cI cZ cB cJ cR : ClassId} {ks ad : List Nat} {Psi : va_W → Prop} (hw : zworld ks ad zuq zNS Psi) (v0 u0 : Int32) (W1 W3 : Int) (in0 : 0 ≤ v0.toInt ∧ v0.toInt ≤ 3) (in1 : 0 ≤ u0.toInt ∧ u0.toInt ≤ 3) : zMet l D cI cZ cB cJ cR zKS ks ad Psi yX3_areAlike (.code yX3_areAlike cX3_areAlike 3 (some .boolean)) 2 ([(5, 0, 0), (0, v0.toInt, v0.toInt), (0, u0.toInt, u0.toInt)], some (0, zeqw W1 W3, zeqw W1 W3), [(30, 1000 + v0.toNatClampNeg), (30, 1000 + u0.toNatClampNeg)], [], [], [], zpe 4 W1 ++ zpe 5 W3) := by
  refine zmet_gen 2 (by decide) (Nat.le_of_ble_eq_true rfl) (by show (decide (0 ≤ zeqw W1 W3) && decide (zeqw W1 W3 ≤ 1)) = true; have := zeqw_b W1 W3; simp [this]) ?_
  intro p e R s m args below meth c Q A ws As ls X hG hok hpre hR hl
  have hx := X.1.1
  have hb := X.1.2.1
  obtain ⟨_, _, rfl, ⟨a, i, rfl, ki, di⟩, hok1⟩ := zst1 hok
  obtain ⟨_, _, rfl, ⟨v, rfl, lv⟩, hok2⟩ := zst1 hok1
  obtain ⟨_, _, rfl, ⟨u, rfl, lu⟩, hok3⟩ := zst1 hok2
  obtain rfl := zst0 hok3
  dsimp only at lv lu
  have ev_v : v = v0 := Int32.toInt_inj.mp (by omega)
  subst ev_v
  have ev_u : u = u0 := Int32.toInt_inj.mp (by omega)
  subst ev_u
  have hpre : zfs [0, 0, v.toInt, u.toInt, zfv ks ws 30 (1000 + v.toNatClampNeg), zfv ks ws 30 (1000 + u.toNatClampNeg)] (zpe 4 W1 ++ zpe 5 W3) := hpre
  obtain ⟨hp1, hp2⟩ := zfs_two hpre
  have eW1 := zpe_get (v := zfv ks ws 30 (1000 + v.toNatClampNeg)) hp1 rfl rfl
  have eW3 := zpe_get (v := zfv ks ws 30 (1000 + u.toNatClampNeg)) hp2 rfl rfl
  obtain ⟨fs, hob, hfs⟩ := zobj hG.2.2.2.1 ki di zks_3
  have hl : lv_has ls 3 [(0, .ref a), (1, .int v), (2, .int u)] := hl
  obtain ⟨r1, j1, q1, k1, d1⟩ := zref (f := 1) (k := 30) hfs rfl
  obtain ⟨f1, g1, m1⟩ := zarrI hG.2.2.2.1 k1 d1 (rfl : zKS[30]? = _)
  have cv := tcn (z := v) in0.1
  have cu := tcn (z := u) in1.1
  have e1 := zrowv (q := v.toNatClampNeg) hw (show 30 ∈ zuq by decide) (by decide) k1 g1
  have e2 := zrowv (q := u.toNatClampNeg) hw (show 30 ∈ zuq by decide) (by decide) k1 g1
  refine lv_aload_n hx hb dX3_areAlike_0 rfl (lv_at hl 0 rfl) ?_
  refine zg_RX3 X (13, 3, 1) (by decide) _ zks_3 (by decide) _ _ _ _ _ _ _ i _ (.ref r1) hG.1 hob q1 dX3_areAlike_1 ?_
  refine lv_iload_n hx hb dX3_areAlike_4 rfl (lv_at hl 1 rfl) ?_
  refine va_iald hx hb X.2.1.1 hG.1 j1 0 g1 rfl (vp_in_iff.mpr ⟨by omega, by omega⟩) dX3_areAlike_5 ?_
  refine lv_aload_n hx hb dX3_areAlike_6 rfl (lv_at hl 0 rfl) ?_
  refine zg_RX3 X (13, 3, 1) (by decide) _ zks_3 (by decide) _ _ _ _ _ _ _ i _ (.ref r1) hG.1 hob q1 dX3_areAlike_7 ?_
  refine lv_iload_n hx hb dX3_areAlike_10 rfl (lv_at hl 2 rfl) ?_
  refine va_iald hx hb X.2.1.1 hG.1 j1 0 g1 rfl (vp_in_iff.mpr ⟨by omega, by omega⟩) dX3_areAlike_11 ?_
  refine lv_icmp_ne (tgt := 19) hx hb dX3_areAlike_12 (by decide) (fun hne => ?_) (fun heq => ?_)
  · have c : W1 ≠ W3 := fun h9 => hne (Int32.toInt_inj.mp (by rw [← e1, ← e2, eW1, eW3]; exact h9))
    refine lv_iconst (v := 0) hx hb dX3_areAlike_19 (by decide) ?_
    exact hR 20 _ _ _ _ [.int 0] hG ⟨⟨⟨_, rfl, zeqw_no c⟩, trivial⟩, fun _ h => (by cases h), fun _ h => (by cases h)⟩ dX3_areAlike_20
  · have c : W1 = W3 := by
      have h9 := congrArg Int32.toInt heq
      rw [← e1, ← e2, eW1, eW3] at h9
      exact h9
    refine lv_iconst (v := 1) hx hb dX3_areAlike_15 (by decide) ?_
    refine lv_goto (tgt := 20) hx hb dX3_areAlike_16 (by decide) ?_
    exact hR 20 _ _ _ _ [.int 1] hG ⟨⟨⟨_, rfl, zeqw_ye c⟩, trivial⟩, fun _ h => (by cases h), fun _ h => (by cases h)⟩ dX3_areAlike_20
theorem zh_holds3x {l : Launch} {D : va_G} {cI cZ cB cJ cR : ClassId} {ks ad : List Nat} {Psi : va_W → Prop} (hw : zworld ks ad zuq zNS Psi) (v0 x0 y0 : Int32) (S : Int) (in0 : 0 ≤ v0.toInt ∧ v0.toInt ≤ 3) : zMet l D cI cZ cB cJ cR zKS ks ad Psi yX3_holds (.code yX3_holds cX3_holds 4 (some .boolean)) 2 ([(5, 0, 0), (0, v0.toInt, v0.toInt), (0, x0.toInt, x0.toInt), (0, y0.toInt, y0.toInt)], some (0, zhol S x0.toInt y0.toInt, zhol S x0.toInt y0.toInt), [(31, 1000 + v0.toNatClampNeg)], [], [], [], zpe 5 S) := by
  refine zmet_gen 2 (by decide) (Nat.le_of_ble_eq_true rfl) (by show (decide (0 ≤ zhol S x0.toInt y0.toInt) && decide (zhol S x0.toInt y0.toInt ≤ 1)) = true; have := zhol_b S x0.toInt y0.toInt; simp [this]) ?_
  intro p e R s m args below meth c Q A ws As ls X hG hok hpre hR hl
  have hx := X.1.1
  have hb := X.1.2.1
  obtain ⟨_, _, rfl, ⟨a, i, rfl, ki, di⟩, hok1⟩ := zst1 hok
  obtain ⟨_, _, rfl, ⟨v, rfl, lv⟩, hok2⟩ := zst1 hok1
  obtain ⟨_, _, rfl, ⟨x, rfl, lx⟩, hok3⟩ := zst1 hok2
  obtain ⟨_, _, rfl, ⟨y, rfl, ly⟩, hok4⟩ := zst1 hok3
  obtain rfl := zst0 hok4
  dsimp only at lv lx ly
  have ev_v : v = v0 := Int32.toInt_inj.mp (by omega)
  subst ev_v
  have ev_x : x = x0 := Int32.toInt_inj.mp (by omega)
  subst ev_x
  have ev_y : y = y0 := Int32.toInt_inj.mp (by omega)
  subst ev_y
  have hpre : zfs [0, 0, v.toInt, x.toInt, y.toInt, zfv ks ws 31 (1000 + v.toNatClampNeg)] (zpe 5 S) := hpre
  have eS := zpe_get (v := zfv ks ws 31 (1000 + v.toNatClampNeg)) hpre rfl rfl
  obtain ⟨fs, hob, hfs⟩ := zobj hG.2.2.2.1 ki di zks_3
  have hl : lv_has ls 4 [(0, .ref a), (1, .int v), (2, .int x), (3, .int y)] := hl
  obtain ⟨r2, j2, q2, k2, d2⟩ := zref (f := 2) (k := 31) hfs rfl
  obtain ⟨f2, g2, m2⟩ := zarrI hG.2.2.2.1 k2 d2 (rfl : zKS[31]? = _)
  have cv := tcn (z := v) in0.1
  have e0 := zrowv (q := v.toNatClampNeg) hw (show 31 ∈ zuq by decide) (by decide) k2 g2
  have lf : 0 ≤ (f2 v.toNatClampNeg).toInt ∧ (f2 v.toNatClampNeg).toInt ≤ 60 := m2 _ (by omega)
  have es : (f2 v.toNatClampNeg).toInt = S := e0.symm.trans eS
  refine lv_iload_n hx hb dX3_holds_0 rfl (lv_at hl 2 rfl) ?_
  refine lv_if_lt (tgt := 24) hx hb dX3_holds_1 (by decide) (fun h1 => ?_) (fun h1 => ?_)
  · simp only [Int32.lt_iff_toInt_lt, Int32.reduceToInt] at h1
    refine lv_iconst (v := 0) hx hb dX3_holds_24 (by decide) ?_
    exact hR 25 _ _ _ _ [.int 0] hG ⟨⟨⟨_, rfl, zhol_no (by omega)⟩, trivial⟩, fun _ h => (by cases h), fun _ h => (by cases h)⟩ dX3_holds_25
  simp only [Int32.lt_iff_toInt_lt, Int32.reduceToInt] at h1
  refine lv_iload_n hx hb dX3_holds_4 rfl (lv_at hl 3 rfl) ?_
  refine lv_if_lt (tgt := 24) hx hb dX3_holds_5 (by decide) (fun h2 => ?_) (fun h2 => ?_)
  · simp only [Int32.lt_iff_toInt_lt, Int32.reduceToInt] at h2
    refine lv_iconst (v := 0) hx hb dX3_holds_24 (by decide) ?_
    exact hR 25 _ _ _ _ [.int 0] hG ⟨⟨⟨_, rfl, zhol_no (by omega)⟩, trivial⟩, fun _ h => (by cases h), fun _ h => (by cases h)⟩ dX3_holds_25
  simp only [Int32.lt_iff_toInt_lt, Int32.reduceToInt] at h2
  refine lv_iload_n hx hb dX3_holds_8 rfl (lv_at hl 2 rfl) ?_
  refine lv_aload_n hx hb dX3_holds_9 rfl (lv_at hl 0 rfl) ?_
  refine zg_RX3 X (17, 3, 2) (by decide) _ zks_3 (by decide) _ _ _ _ _ _ _ i _ (.ref r2) hG.1 hob q2 dX3_holds_10 ?_
  refine lv_iload_n hx hb dX3_holds_13 rfl (lv_at hl 1 rfl) ?_
  refine va_iald hx hb X.2.1.1 hG.1 j2 0 g2 rfl (vp_in_iff.mpr ⟨by omega, by omega⟩) dX3_holds_14 ?_
  refine lv_iload_n hx hb dX3_holds_15 rfl (lv_at hl 3 rfl) ?_
  refine lv_isub hx hb dX3_holds_16 ?_
  refine lv_topi (fun z hz => ?_)
  have ez : z.toInt = (f2 v.toNatClampNeg).toInt - y.toInt := by rw [hz, subI _ _ (by have := bT y; omega)]
  refine lv_icmp_gt (tgt := 24) hx hb dX3_holds_17 (by decide) (fun h3 => ?_) (fun h3 => ?_)
  · simp only [gt_iff_lt, Int32.lt_iff_toInt_lt] at h3
    refine lv_iconst (v := 0) hx hb dX3_holds_24 (by decide) ?_
    exact hR 25 _ _ _ _ [.int 0] hG ⟨⟨⟨_, rfl, zhol_no (by omega)⟩, trivial⟩, fun _ h => (by cases h), fun _ h => (by cases h)⟩ dX3_holds_25
  · simp only [gt_iff_lt, Int32.lt_iff_toInt_lt] at h3
    refine lv_iconst (v := 1) hx hb dX3_holds_20 (by decide) ?_
    refine lv_goto (tgt := 25) hx hb dX3_holds_21 (by decide) ?_
    exact hR 25 _ _ _ _ [.int 1] hG ⟨⟨⟨_, rfl, zhol_ye ⟨by omega, by omega, by omega, by omega⟩⟩, trivial⟩, fun _ h => (by cases h), fun _ h => (by cases h)⟩ dX3_holds_25
theorem zh_paste5x {l : Launch} {D : va_G} {cI cZ cB cJ cR : ClassId} {ks ad : List Nat} {Psi : va_W → Prop} (hw : zworld ks ad zuq zNS Psi) (u1 u2 u3 u4 u5 : Int32) (L1 L3 W1 W3 S1 S3 : Int) : zMet l D cI cZ cB cJ cR zKS ks ad Psi yX5_paste (.code yX5_paste cX5_paste 6 (some .int)) 4 ([(7, 0, 0), (0, u1.toInt, u1.toInt), (0, u2.toInt, u2.toInt), (0, u3.toInt, u3.toInt), (0, u4.toInt, u4.toInt), (0, u5.toInt, u5.toInt)], some (0, zPA u1.toInt u2.toInt u3.toInt u4.toInt u5.toInt L1 L3 W1 W3 S1 S3, zPA u1.toInt u2.toInt u3.toInt u4.toInt u5.toInt L1 L3 W1 W3 S1 S3), [(29, 1000 + u1.toNatClampNeg), (29, 1000 + u3.toNatClampNeg), (30, 1000 + u1.toNatClampNeg), (30, 1000 + u3.toNatClampNeg), (31, 1000 + u1.toNatClampNeg), (31, 1000 + u3.toNatClampNeg)], [], [], zrun 32 1000 1 240, zpe 7 L1 ++ zpe 8 L3 ++ zpe 9 W1 ++ zpe 10 W3 ++ zpe 11 S1 ++ zpe 12 S3) := by
  refine zmet_gen 4 (by decide) (Nat.le_of_ble_eq_true rfl) rfl ?_
  intro p e R s m args below meth c Q A ws As ls X hG hok hpre hR hl
  have hx := X.1.1
  have hb := X.1.2.1
  obtain ⟨_, _, rfl, ⟨a, i, rfl, ki, di⟩, hok1⟩ := zst1 hok
  obtain ⟨_, _, rfl, ⟨v1, rfl, lv1⟩, hok2⟩ := zst1 hok1
  obtain ⟨_, _, rfl, ⟨v2, rfl, lv2⟩, hok3⟩ := zst1 hok2
  obtain ⟨_, _, rfl, ⟨v3, rfl, lv3⟩, hok4⟩ := zst1 hok3
  obtain ⟨_, _, rfl, ⟨v4, rfl, lv4⟩, hok5⟩ := zst1 hok4
  obtain ⟨_, _, rfl, ⟨v5, rfl, lv5⟩, hok6⟩ := zst1 hok5
  obtain rfl := zst0 hok6
  dsimp only at lv1 lv2 lv3 lv4 lv5
  have ev_v1 : v1 = u1 := Int32.toInt_inj.mp (by omega)
  subst ev_v1
  have ev_v2 : v2 = u2 := Int32.toInt_inj.mp (by omega)
  subst ev_v2
  have ev_v3 : v3 = u3 := Int32.toInt_inj.mp (by omega)
  subst ev_v3
  have ev_v4 : v4 = u4 := Int32.toInt_inj.mp (by omega)
  subst ev_v4
  have ev_v5 : v5 = u5 := Int32.toInt_inj.mp (by omega)
  subst ev_v5
  have hpre : zfs [0, 0, v1.toInt, v2.toInt, v3.toInt, v4.toInt, v5.toInt, zfv ks ws 29 (1000 + v1.toNatClampNeg), zfv ks ws 29 (1000 + v3.toNatClampNeg), zfv ks ws 30 (1000 + v1.toNatClampNeg), zfv ks ws 30 (1000 + v3.toNatClampNeg), zfv ks ws 31 (1000 + v1.toNatClampNeg), zfv ks ws 31 (1000 + v3.toNatClampNeg)] (zpe 7 L1 ++ zpe 8 L3 ++ zpe 9 W1 ++ zpe 10 W3 ++ zpe 11 S1 ++ zpe 12 S3) := hpre
  obtain ⟨hp5, hq6⟩ := zfs_two hpre
  obtain ⟨hp4, hq5⟩ := zfs_two hp5
  obtain ⟨hp3, hq4⟩ := zfs_two hp4
  obtain ⟨hp2, hq3⟩ := zfs_two hp3
  obtain ⟨hq1, hq2⟩ := zfs_two hp2
  have eL1 := zpe_get (v := zfv ks ws 29 (1000 + v1.toNatClampNeg)) hq1 rfl rfl
  have eL3 := zpe_get (v := zfv ks ws 29 (1000 + v3.toNatClampNeg)) hq2 rfl rfl
  have eW1 := zpe_get (v := zfv ks ws 30 (1000 + v1.toNatClampNeg)) hq3 rfl rfl
  have eW3 := zpe_get (v := zfv ks ws 30 (1000 + v3.toNatClampNeg)) hq4 rfl rfl
  have eS1 := zpe_get (v := zfv ks ws 31 (1000 + v1.toNatClampNeg)) hq5 rfl rfl
  have eS3 := zpe_get (v := zfv ks ws 31 (1000 + v3.toNatClampNeg)) hq6 rfl rfl
  clear hpre hp5 hp4 hp3 hp2 hq1 hq2 hq3 hq4 hq5 hq6
  have hl : lv_has ls 6 [(0, .ref a), (1, .int v1), (2, .int v2), (3, .int v3), (4, .int v4), (5, .int v5)] := hl
  obtain ⟨fs, hob, hfs⟩ := zobj hG.2.2.2.1 ki di zks_5
  obtain ⟨r1, j1, q1, k1, d1⟩ := zref (f := 1) (k := 3) hfs rfl
  refine lv_aload_n hx hb dX5_paste_0 rfl (lv_at hl 0 rfl) ?_
  refine zg_RX5 X (19, 5, 1) (by decide) _ zks_5 (by decide) _ _ _ _ _ _ _ i _ (.ref r1) hG.1 hob q1 dX5_paste_1 ?_
  refine lv_iload_n hx hb dX5_paste_4 rfl (lv_at hl 1 rfl) ?_
  refine zq_RX5_321 X (zh_isSlot3 v1) (by decide) rfl rfl _ _ [] _ _ _ [.ref r1, .int v1] hG.1 hG.2.1 hG.2.2.1 hG.2.2.2.1 hG.2.2.2.2.1 ⟨⟨_, _, rfl, k1, d1⟩, ⟨_, rfl, Int.le_refl _, Int.le_refl _⟩, trivial⟩ (by decide) hl.1 (fun _ h => by cases h) dX5_paste_5 (fun H1 locs1 w1 r b1 b2 b3 b4 b5 b6 b7 => ?_)
  obtain ⟨_, _, rfl, ⟨z1, rfl, lz1⟩, b8⟩ := zst1 b7.1
  obtain rfl := zst0 b8
  dsimp only at lz1
  have hG := hG.next b1 b2 b3 b4 b5 b6 nilz
  clear b1 b2 b3 b4 b5 b6 b7 b8 hob hfs q1 k1 d1
  dsimp only [List.cons_append, List.nil_append]
  refine lv_if_eq (tgt := 22) hx hb dX5_paste_8 (by decide) (fun hz => ?_) (fun hz => ?_)
  · skip
    have hy : z1.toInt = 0 := (congrArg Int32.toInt hz).trans Int32.toInt_zero
    have hy2 := zslot_out (show zslot v1 = 0 by omega)
    refine lv_bipush (v := (-2)) hx hb dX5_paste_22 (by decide) ?_
    exact hR 24 _ _ _ _ [.int (-2)] hG ⟨⟨⟨_, rfl, zPA2 (by omega)⟩, trivial⟩, fun _ h => (by cases h), fun _ h => (by cases h)⟩ dX5_paste_24
  have hy : z1.toInt ≠ 0 := fun h9 => hz (Int32.toInt_inj.mp (h9.trans Int32.toInt_zero.symm))
  have in1 := zslot_in (show zslot v1 ≠ 0 by omega)
  clear hy hz lz1
  obtain ⟨fs, hob, hfs⟩ := zobj hG.2.2.2.1 ki di zks_5
  obtain ⟨r1, j1, q1, k1, d1⟩ := zref (f := 1) (k := 3) hfs rfl
  refine lv_aload_n hx hb dX5_paste_11 rfl (lv_at hl 0 rfl) ?_
  refine zg_RX5 X (19, 5, 1) (by decide) _ zks_5 (by decide) _ _ _ _ _ _ _ i _ (.ref r1) hG.1 hob q1 dX5_paste_12 ?_
  refine lv_iload_n hx hb dX5_paste_15 rfl (lv_at hl 3 rfl) ?_
  refine zq_RX5_321 X (zh_isSlot3 v3) (by decide) rfl rfl _ _ [] _ _ _ [.ref r1, .int v3] hG.1 hG.2.1 hG.2.2.1 hG.2.2.2.1 hG.2.2.2.2.1 ⟨⟨_, _, rfl, k1, d1⟩, ⟨_, rfl, Int.le_refl _, Int.le_refl _⟩, trivial⟩ (by decide) hl.1 (fun _ h => by cases h) dX5_paste_16 (fun H2 locs2 w2 r b1 b2 b3 b4 b5 b6 b7 => ?_)
  obtain ⟨_, _, rfl, ⟨z2, rfl, lz2⟩, b8⟩ := zst1 b7.1
  obtain rfl := zst0 b8
  dsimp only at lz2
  have hG := hG.next b1 b2 b3 b4 b5 b6 nilz
  clear b1 b2 b3 b4 b5 b6 b7 b8 hob hfs q1 k1 d1
  dsimp only [List.cons_append, List.nil_append]
  refine lv_if_ne (tgt := 25) hx hb dX5_paste_19 (by decide) (fun hz => ?_) (fun hz => ?_)
  case refine_2 =>
    have hy : z2.toInt = 0 := (congrArg Int32.toInt hz).trans Int32.toInt_zero
    have hy2 := zslot_out (show zslot v3 = 0 by omega)
    refine lv_bipush (v := (-2)) hx hb dX5_paste_22 (by decide) ?_
    exact hR 24 _ _ _ _ [.int (-2)] hG ⟨⟨⟨_, rfl, zPA2 (by omega)⟩, trivial⟩, fun _ h => (by cases h), fun _ h => (by cases h)⟩ dX5_paste_24
  have hy : z2.toInt ≠ 0 := fun h9 => hz (Int32.toInt_inj.mp (h9.trans Int32.toInt_zero.symm))
  have in3 := zslot_in (show zslot v3 ≠ 0 by omega)
  clear hy hz lz2
  obtain ⟨fs, hob, hfs⟩ := zobj hG.2.2.2.1 ki di zks_5
  obtain ⟨r1, j1, q1, k1, d1⟩ := zref (f := 1) (k := 3) hfs rfl
  refine lv_aload_n hx hb dX5_paste_25 rfl (lv_at hl 0 rfl) ?_
  refine zg_RX5 X (19, 5, 1) (by decide) _ zks_5 (by decide) _ _ _ _ _ _ _ i _ (.ref r1) hG.1 hob q1 dX5_paste_26 ?_
  refine lv_iload_n hx hb dX5_paste_29 rfl (lv_at hl 1 rfl) ?_
  refine zq_RX5_328 X (zh_hasRow3x hw v1 L1 in1) (by decide) rfl rfl _ _ [] _ _ _ [.ref r1, .int v1] hG.1 hG.2.1 hG.2.2.1 hG.2.2.2.1 hG.2.2.2.2.1 ⟨⟨_, _, rfl, k1, d1⟩, ⟨_, rfl, Int.le_refl _, Int.le_refl _⟩, trivial⟩ (by decide) hl.1 (show zfs [0, 0, v1.toInt, zfv ks w2 29 (1000 + v1.toNatClampNeg)] (zpe 3 L1) from zpe_mk (v := zfv ks w2 29 (1000 + v1.toNatClampNeg)) rfl rfl ((hG.2.2.2.2.2 29 (1000 + v1.toNatClampNeg) (zrun_ne (by decide))).trans eL1)) dX5_paste_30 (fun H3 locs3 w3 r b1 b2 b3 b4 b5 b6 b7 => ?_)
  obtain ⟨_, _, rfl, ⟨z3, rfl, lz3⟩, b8⟩ := zst1 b7.1
  obtain rfl := zst0 b8
  dsimp only at lz3
  have hG := hG.next b1 b2 b3 b4 b5 b6 nilz
  clear b1 b2 b3 b4 b5 b6 b7 b8 hob hfs q1 k1 d1
  dsimp only [List.cons_append, List.nil_append]
  refine lv_if_eq (tgt := 47) hx hb dX5_paste_33 (by decide) (fun hz => ?_) (fun hz => ?_)
  · skip
    have hy : z3.toInt = 0 := (congrArg Int32.toInt hz).trans Int32.toInt_zero
    have hy2 := znz_0 (show znz L1 = 0 by omega)
    refine lv_bipush (v := (-6)) hx hb dX5_paste_47 (by decide) ?_
    exact hR 49 _ _ _ _ [.int (-6)] hG ⟨⟨⟨_, rfl, zPA6 (by omega) (by omega)⟩, trivial⟩, fun _ h => (by cases h), fun _ h => (by cases h)⟩ dX5_paste_49
  have hy : z3.toInt ≠ 0 := fun h9 => hz (Int32.toInt_inj.mp (h9.trans Int32.toInt_zero.symm))
  have l1 := znz_1 (show znz L1 ≠ 0 by omega)
  clear hy hz lz3
  obtain ⟨fs, hob, hfs⟩ := zobj hG.2.2.2.1 ki di zks_5
  obtain ⟨r1, j1, q1, k1, d1⟩ := zref (f := 1) (k := 3) hfs rfl
  refine lv_aload_n hx hb dX5_paste_36 rfl (lv_at hl 0 rfl) ?_
  refine zg_RX5 X (19, 5, 1) (by decide) _ zks_5 (by decide) _ _ _ _ _ _ _ i _ (.ref r1) hG.1 hob q1 dX5_paste_37 ?_
  refine lv_iload_n hx hb dX5_paste_40 rfl (lv_at hl 3 rfl) ?_
  refine zq_RX5_328 X (zh_hasRow3x hw v3 L3 in3) (by decide) rfl rfl _ _ [] _ _ _ [.ref r1, .int v3] hG.1 hG.2.1 hG.2.2.1 hG.2.2.2.1 hG.2.2.2.2.1 ⟨⟨_, _, rfl, k1, d1⟩, ⟨_, rfl, Int.le_refl _, Int.le_refl _⟩, trivial⟩ (by decide) hl.1 (show zfs [0, 0, v3.toInt, zfv ks w3 29 (1000 + v3.toNatClampNeg)] (zpe 3 L3) from zpe_mk (v := zfv ks w3 29 (1000 + v3.toNatClampNeg)) rfl rfl ((hG.2.2.2.2.2 29 (1000 + v3.toNatClampNeg) (zrun_ne (by decide))).trans eL3)) dX5_paste_41 (fun H4 locs4 w4 r b1 b2 b3 b4 b5 b6 b7 => ?_)
  obtain ⟨_, _, rfl, ⟨z4, rfl, lz4⟩, b8⟩ := zst1 b7.1
  obtain rfl := zst0 b8
  dsimp only at lz4
  have hG := hG.next b1 b2 b3 b4 b5 b6 nilz
  clear b1 b2 b3 b4 b5 b6 b7 b8 hob hfs q1 k1 d1
  dsimp only [List.cons_append, List.nil_append]
  refine lv_if_ne (tgt := 50) hx hb dX5_paste_44 (by decide) (fun hz => ?_) (fun hz => ?_)
  case refine_2 =>
    have hy : z4.toInt = 0 := (congrArg Int32.toInt hz).trans Int32.toInt_zero
    have hy2 := znz_0 (show znz L3 = 0 by omega)
    refine lv_bipush (v := (-6)) hx hb dX5_paste_47 (by decide) ?_
    exact hR 49 _ _ _ _ [.int (-6)] hG ⟨⟨⟨_, rfl, zPA6 (by omega) (by omega)⟩, trivial⟩, fun _ h => (by cases h), fun _ h => (by cases h)⟩ dX5_paste_49
  have hy : z4.toInt ≠ 0 := fun h9 => hz (Int32.toInt_inj.mp (h9.trans Int32.toInt_zero.symm))
  have l3 := znz_1 (show znz L3 ≠ 0 by omega)
  clear hy hz lz4
  obtain ⟨fs, hob, hfs⟩ := zobj hG.2.2.2.1 ki di zks_5
  obtain ⟨r1, j1, q1, k1, d1⟩ := zref (f := 1) (k := 3) hfs rfl
  refine lv_aload_n hx hb dX5_paste_50 rfl (lv_at hl 0 rfl) ?_
  refine zg_RX5 X (19, 5, 1) (by decide) _ zks_5 (by decide) _ _ _ _ _ _ _ i _ (.ref r1) hG.1 hob q1 dX5_paste_51 ?_
  refine lv_iload_n hx hb dX5_paste_54 rfl (lv_at hl 1 rfl) ?_
  refine lv_iload_n hx hb dX5_paste_55 rfl (lv_at hl 3 rfl) ?_
  refine zq_RX5_335 X (zh_areAlike3x hw v1 v3 W1 W3 in1 in3) (by decide) rfl rfl _ _ [] _ _ _ [.ref r1, .int v1, .int v3] hG.1 hG.2.1 hG.2.2.1 hG.2.2.2.1 hG.2.2.2.2.1 ⟨⟨_, _, rfl, k1, d1⟩, ⟨_, rfl, Int.le_refl _, Int.le_refl _⟩, ⟨_, rfl, Int.le_refl _, Int.le_refl _⟩, trivial⟩ (by decide) hl.1 (show zfs [0, 0, v1.toInt, v3.toInt, zfv ks w4 30 (1000 + v1.toNatClampNeg), zfv ks w4 30 (1000 + v3.toNatClampNeg)] (zpe 4 W1 ++ zpe 5 W3) from zfs_mk2 (zpe_mk (v := zfv ks w4 30 (1000 + v1.toNatClampNeg)) rfl rfl ((hG.2.2.2.2.2 30 (1000 + v1.toNatClampNeg) (zrun_ne (by decide))).trans eW1)) (zpe_mk (v := zfv ks w4 30 (1000 + v3.toNatClampNeg)) rfl rfl ((hG.2.2.2.2.2 30 (1000 + v3.toNatClampNeg) (zrun_ne (by decide))).trans eW3))) dX5_paste_56 (fun H5 locs5 w5 r b1 b2 b3 b4 b5 b6 b7 => ?_)
  obtain ⟨_, _, rfl, ⟨z5, rfl, lz5⟩, b8⟩ := zst1 b7.1
  obtain rfl := zst0 b8
  dsimp only at lz5
  have hG := hG.next b1 b2 b3 b4 b5 b6 nilz
  clear b1 b2 b3 b4 b5 b6 b7 b8 hob hfs q1 k1 d1
  dsimp only [List.cons_append, List.nil_append]
  refine lv_if_ne (tgt := 65) hx hb dX5_paste_59 (by decide) (fun hz => ?_) (fun hz => ?_)
  case refine_2 =>
    have hy : z5.toInt = 0 := (congrArg Int32.toInt hz).trans Int32.toInt_zero
    have hy2 := zeqw_0 (show zeqw W1 W3 = 0 by omega)
    refine lv_bipush (v := (-8)) hx hb dX5_paste_62 (by decide) ?_
    exact hR 64 _ _ _ _ [.int (-8)] hG ⟨⟨⟨_, rfl, zPA8 (by omega) (by omega) hy2⟩, trivial⟩, fun _ h => (by cases h), fun _ h => (by cases h)⟩ dX5_paste_64
  have hy : z5.toInt ≠ 0 := fun h9 => hz (Int32.toInt_inj.mp (h9.trans Int32.toInt_zero.symm))
  have w13 := zeqw_1 (show zeqw W1 W3 ≠ 0 by omega)
  clear hy hz lz5
  obtain ⟨fs, hob, hfs⟩ := zobj hG.2.2.2.1 ki di zks_5
  obtain ⟨r1, j1, q1, k1, d1⟩ := zref (f := 1) (k := 3) hfs rfl
  refine lv_aload_n hx hb dX5_paste_65 rfl (lv_at hl 0 rfl) ?_
  refine zg_RX5 X (19, 5, 1) (by decide) _ zks_5 (by decide) _ _ _ _ _ _ _ i _ (.ref r1) hG.1 hob q1 dX5_paste_66 ?_
  refine lv_iload_n hx hb dX5_paste_69 rfl (lv_at hl 1 rfl) ?_
  refine lv_iload_n hx hb dX5_paste_70 rfl (lv_at hl 2 rfl) ?_
  refine lv_iload hx hb dX5_paste_71 (lv_at hl 5 rfl) ?_
  refine zq_RX5_338 X (zh_holds3x hw v1 v2 v5 S1 in1) (by decide) rfl rfl _ _ [] _ _ _ [.ref r1, .int v1, .int v2, .int v5] hG.1 hG.2.1 hG.2.2.1 hG.2.2.2.1 hG.2.2.2.2.1 ⟨⟨_, _, rfl, k1, d1⟩, ⟨_, rfl, Int.le_refl _, Int.le_refl _⟩, ⟨_, rfl, Int.le_refl _, Int.le_refl _⟩, ⟨_, rfl, Int.le_refl _, Int.le_refl _⟩, trivial⟩ (by decide) hl.1 (show zfs [0, 0, v1.toInt, v2.toInt, v5.toInt, zfv ks w5 31 (1000 + v1.toNatClampNeg)] (zpe 5 S1) from zpe_mk (v := zfv ks w5 31 (1000 + v1.toNatClampNeg)) rfl rfl ((hG.2.2.2.2.2 31 (1000 + v1.toNatClampNeg) (zrun_ne (by decide))).trans eS1)) dX5_paste_73 (fun H6 locs6 w6 r b1 b2 b3 b4 b5 b6 b7 => ?_)
  obtain ⟨_, _, rfl, ⟨z6, rfl, lz6⟩, b8⟩ := zst1 b7.1
  obtain rfl := zst0 b8
  dsimp only at lz6
  have hG := hG.next b1 b2 b3 b4 b5 b6 nilz
  clear b1 b2 b3 b4 b5 b6 b7 b8 hob hfs q1 k1 d1
  dsimp only [List.cons_append, List.nil_append]
  refine lv_if_eq (tgt := 94) hx hb dX5_paste_76 (by decide) (fun hz => ?_) (fun hz => ?_)
  · skip
    have hy : z6.toInt = 0 := (congrArg Int32.toInt hz).trans Int32.toInt_zero
    have hy2 := zhol_0 (show zhol S1 v2.toInt v5.toInt = 0 by omega)
    refine lv_bipush (v := (-7)) hx hb dX5_paste_94 (by decide) ?_
    exact hR 96 _ _ _ _ [.int (-7)] hG ⟨⟨⟨_, rfl, zPA7 (by omega) (by omega) w13 (by omega)⟩, trivial⟩, fun _ h => (by cases h), fun _ h => (by cases h)⟩ dX5_paste_96
  have hy : z6.toInt ≠ 0 := fun h9 => hz (Int32.toInt_inj.mp (h9.trans Int32.toInt_zero.symm))
  have ho1 := zhol_1 (show zhol S1 v2.toInt v5.toInt ≠ 0 by omega)
  clear hy hz lz6
  obtain ⟨fs, hob, hfs⟩ := zobj hG.2.2.2.1 ki di zks_5
  obtain ⟨r1, j1, q1, k1, d1⟩ := zref (f := 1) (k := 3) hfs rfl
  refine lv_aload_n hx hb dX5_paste_79 rfl (lv_at hl 0 rfl) ?_
  refine zg_RX5 X (19, 5, 1) (by decide) _ zks_5 (by decide) _ _ _ _ _ _ _ i _ (.ref r1) hG.1 hob q1 dX5_paste_80 ?_
  refine lv_iload_n hx hb dX5_paste_83 rfl (lv_at hl 3 rfl) ?_
  refine lv_iload hx hb dX5_paste_84 (lv_at hl 4 rfl) ?_
  refine lv_iload hx hb dX5_paste_86 (lv_at hl 5 rfl) ?_
  refine zq_RX5_338 X (zh_holds3x hw v3 v4 v5 S3 in3) (by decide) rfl rfl _ _ [] _ _ _ [.ref r1, .int v3, .int v4, .int v5] hG.1 hG.2.1 hG.2.2.1 hG.2.2.2.1 hG.2.2.2.2.1 ⟨⟨_, _, rfl, k1, d1⟩, ⟨_, rfl, Int.le_refl _, Int.le_refl _⟩, ⟨_, rfl, Int.le_refl _, Int.le_refl _⟩, ⟨_, rfl, Int.le_refl _, Int.le_refl _⟩, trivial⟩ (by decide) hl.1 (show zfs [0, 0, v3.toInt, v4.toInt, v5.toInt, zfv ks w6 31 (1000 + v3.toNatClampNeg)] (zpe 5 S3) from zpe_mk (v := zfv ks w6 31 (1000 + v3.toNatClampNeg)) rfl rfl ((hG.2.2.2.2.2 31 (1000 + v3.toNatClampNeg) (zrun_ne (by decide))).trans eS3)) dX5_paste_88 (fun H7 locs7 w7 r b1 b2 b3 b4 b5 b6 b7 => ?_)
  obtain ⟨_, _, rfl, ⟨z7, rfl, lz7⟩, b8⟩ := zst1 b7.1
  obtain rfl := zst0 b8
  dsimp only at lz7
  have hG := hG.next b1 b2 b3 b4 b5 b6 nilz
  clear b1 b2 b3 b4 b5 b6 b7 b8 hob hfs q1 k1 d1
  dsimp only [List.cons_append, List.nil_append]
  refine lv_if_ne (tgt := 97) hx hb dX5_paste_91 (by decide) (fun hz => ?_) (fun hz => ?_)
  case refine_2 =>
    have hy : z7.toInt = 0 := (congrArg Int32.toInt hz).trans Int32.toInt_zero
    have hy2 := zhol_0 (show zhol S3 v4.toInt v5.toInt = 0 by omega)
    refine lv_bipush (v := (-7)) hx hb dX5_paste_94 (by decide) ?_
    exact hR 96 _ _ _ _ [.int (-7)] hG ⟨⟨⟨_, rfl, zPA7 (by omega) (by omega) w13 (by omega)⟩, trivial⟩, fun _ h => (by cases h), fun _ h => (by cases h)⟩ dX5_paste_96
  have hy : z7.toInt ≠ 0 := fun h9 => hz (Int32.toInt_inj.mp (h9.trans Int32.toInt_zero.symm))
  have ho3 := zhol_1 (show zhol S3 v4.toInt v5.toInt ≠ 0 by omega)
  clear hy hz lz7
  obtain ⟨fs, hob, hfs⟩ := zobj hG.2.2.2.1 ki di zks_5
  obtain ⟨r1, j1, q1, k1, d1⟩ := zref (f := 1) (k := 3) hfs rfl
  refine lv_aload_n hx hb dX5_paste_97 rfl (lv_at hl 0 rfl) ?_
  refine zg_RX5 X (19, 5, 1) (by decide) _ zks_5 (by decide) _ _ _ _ _ _ _ i _ (.ref r1) hG.1 hob q1 dX5_paste_98 ?_
  refine lv_iload_n hx hb dX5_paste_101 rfl (lv_at hl 1 rfl) ?_
  refine lv_iload_n hx hb dX5_paste_102 rfl (lv_at hl 2 rfl) ?_
  refine lv_iload_n hx hb dX5_paste_103 rfl (lv_at hl 3 rfl) ?_
  refine lv_iload hx hb dX5_paste_104 (lv_at hl 4 rfl) ?_
  refine lv_iload hx hb dX5_paste_106 (lv_at hl 5 rfl) ?_
  refine zq_RX5_341 X (zh_copyOver3 hw v2 v4 v5 ho1.1 ho3.1 ho1.2.1 (by omega) (by omega)) (by decide) rfl rfl _ _ [] _ _ _ [.ref r1, .int v1, .int v2, .int v3, .int v4, .int v5] hG.1 hG.2.1 hG.2.2.1 hG.2.2.2.1 hG.2.2.2.2.1 ⟨⟨_, _, rfl, k1, d1⟩, ⟨_, rfl, in1⟩, ⟨_, rfl, Int.le_refl _, Int.le_refl _⟩, ⟨_, rfl, in3⟩, ⟨_, rfl, Int.le_refl _, Int.le_refl _⟩, ⟨_, rfl, Int.le_refl _, Int.le_refl _⟩, trivial⟩ (by decide) hl.1 (fun _ h => by cases h) dX5_paste_108 (fun H8 locs8 w8 r b1 b2 b3 b4 b5 b6 b7 => ?_)
  obtain rfl := zst0 b7.1
  have hG := hG.next b1 b2 b3 b4 b5 b6 (fun _ h => h)
  clear b1 b2 b3 b4 b5 b6 b7
  dsimp only [List.nil_append]
  refine lv_iconst (v := 0) hx hb dX5_paste_111 (by decide) ?_
  exact hR 112 _ _ _ _ [.int (0)] hG ⟨⟨⟨_, rfl, zPA0 (by omega) (by omega) w13 (by omega)⟩, trivial⟩, fun _ h => (by cases h), fun _ h => (by cases h)⟩ dX5_paste_112
theorem zh_paste6x {l : Launch} {D : va_G} {cI cZ cB cJ cR : ClassId} {ks ad : List Nat} {Psi : va_W → Prop} (hw : zworld ks ad zuq zNS Psi) (u1 u2 u3 u4 u5 : Int32) (K1 K3 M1 M3 : Int) : zMet l D cI cZ cB cJ cR zKS ks ad Psi yX6_paste (.code yX6_paste cX6_paste 7 (some .int)) 12 ([(8, 0, 0), (0, u1.toInt, u1.toInt), (0, u2.toInt, u2.toInt), (0, u3.toInt, u3.toInt), (0, u4.toInt, u4.toInt), (0, u5.toInt, u5.toInt)], some (0, zPA u1.toInt u2.toInt u3.toInt u4.toInt u5.toInt (K1 + 1) (K3 + 1) K1 K3 M1 M3, zPA u1.toInt u2.toInt u3.toInt u4.toInt u5.toInt (K1 + 1) (K3 + 1) K1 K3 M1 M3), [(36, 1000 + u1.toNatClampNeg), (36, 1000 + u3.toNatClampNeg), (37, 1000 + u1.toNatClampNeg), (37, 1000 + u3.toNatClampNeg)], [], [], [(6, 0)] ++ zrun 38 1000 1 240, zpe 7 K1 ++ zpe 8 K3 ++ zpe 9 M1 ++ zpe 10 M3) := by
  refine zmet_gen 12 (by decide) (Nat.le_of_ble_eq_true rfl) rfl ?_
  intro p e R s m args below meth c Q A ws As ls X hG hok hpre hR hl
  have hx := X.1.1
  have hb := X.1.2.1
  obtain ⟨_, _, rfl, ⟨a, i, rfl, ki, di⟩, hok1⟩ := zst1 hok
  obtain ⟨_, _, rfl, ⟨v1, rfl, lv1⟩, hok2⟩ := zst1 hok1
  obtain ⟨_, _, rfl, ⟨v2, rfl, lv2⟩, hok3⟩ := zst1 hok2
  obtain ⟨_, _, rfl, ⟨v3, rfl, lv3⟩, hok4⟩ := zst1 hok3
  obtain ⟨_, _, rfl, ⟨v4, rfl, lv4⟩, hok5⟩ := zst1 hok4
  obtain ⟨_, _, rfl, ⟨v5, rfl, lv5⟩, hok6⟩ := zst1 hok5
  obtain rfl := zst0 hok6
  dsimp only at lv1 lv2 lv3 lv4 lv5
  have ev_v1 : v1 = u1 := Int32.toInt_inj.mp (by omega)
  subst ev_v1
  have ev_v2 : v2 = u2 := Int32.toInt_inj.mp (by omega)
  subst ev_v2
  have ev_v3 : v3 = u3 := Int32.toInt_inj.mp (by omega)
  subst ev_v3
  have ev_v4 : v4 = u4 := Int32.toInt_inj.mp (by omega)
  subst ev_v4
  have ev_v5 : v5 = u5 := Int32.toInt_inj.mp (by omega)
  subst ev_v5
  have hpre : zfs [0, 0, v1.toInt, v2.toInt, v3.toInt, v4.toInt, v5.toInt, zfv ks ws 36 (1000 + v1.toNatClampNeg), zfv ks ws 36 (1000 + v3.toNatClampNeg), zfv ks ws 37 (1000 + v1.toNatClampNeg), zfv ks ws 37 (1000 + v3.toNatClampNeg)] (zpe 7 K1 ++ zpe 8 K3 ++ zpe 9 M1 ++ zpe 10 M3) := hpre
  obtain ⟨hp3, hq4⟩ := zfs_two hpre
  obtain ⟨hp2, hq3⟩ := zfs_two hp3
  obtain ⟨hq1, hq2⟩ := zfs_two hp2
  have eK1 := zpe_get (v := zfv ks ws 36 (1000 + v1.toNatClampNeg)) hq1 rfl rfl
  have eK3 := zpe_get (v := zfv ks ws 36 (1000 + v3.toNatClampNeg)) hq2 rfl rfl
  have eM1 := zpe_get (v := zfv ks ws 37 (1000 + v1.toNatClampNeg)) hq3 rfl rfl
  have eM3 := zpe_get (v := zfv ks ws 37 (1000 + v3.toNatClampNeg)) hq4 rfl rfl
  clear hpre hp3 hp2 hq1 hq2 hq3 hq4
  obtain ⟨fs, hob, hfs⟩ := zobj hG.2.2.2.1 ki di zks_6
  have hl : lv_has ls 7 [(0, .ref a), (1, .int v1), (2, .int v2), (3, .int v3), (4, .int v4), (5, .int v5)] := hl
  refine lv_aload_n hx hb dX6_paste_0 rfl (lv_at hl 0 rfl) ?_
  refine lv_iconst (v := 0) hx hb dX6_paste_1 (by decide) ?_
  have hvv : zok ks ad (0, 0, 0) (.int 0) := ⟨_, rfl, by decide⟩
  refine zp_RX6 X (71, 6, 0) (by decide) _ (0, 0, 0) zks_6 rfl _ _ _ _ _ _ _ i _ _ hG.1 hG.2.1 hG.2.2.1 hob (zF2_len hfs).symm hvv dX6_paste_2 (fun H locs a1 a2 a3 => ?_)
  have hG := hG.putf hw ki (by decide) zks_6 rfl hob rfl hvv (List.mem_append_left _ List.mem_cons_self) a1 a2 a3
  clear a1 a2 a3 hob hfs
  refine lv_iload_n hx hb dX6_paste_5 rfl (lv_at hl 1 rfl) ?_
  refine zq_RX6_80 X (zh_isSlot6 v1) (by decide) rfl _ _ [] _ _ _ [.int v1] hG.1 hG.2.1 hG.2.2.1 hG.2.2.2.1 hG.2.2.2.2.1 ⟨⟨_, rfl, Int.le_refl _, Int.le_refl _⟩, trivial⟩ (by decide) hl.1 (fun _ h => by cases h) dX6_paste_6 (fun H locs w0 r b1 b2 b3 b4 b5 b6 b7 => ?_)
  obtain ⟨_, _, rfl, ⟨z, rfl, lz⟩, b8⟩ := zst1 b7.1
  obtain rfl := zst0 b8
  dsimp only at lz
  have hG := hG.next b1 b2 b3 b4 b5 b6 nilz
  clear b1 b2 b3 b4 b5 b6 b7 b8
  dsimp only [List.cons_append, List.nil_append]
  refine lv_if_eq (tgt := 19) hx hb dX6_paste_9 (by decide) (fun hz => ?_) (fun hz => ?_)
  · skip
    have hy : z.toInt = 0 := (congrArg Int32.toInt hz).trans Int32.toInt_zero
    have hy2 := zslot_out (show zslot v1 = 0 by omega)
    refine lv_bipush (v := (-2)) hx hb dX6_paste_19 (by decide) ?_
    exact hR 21 _ _ _ _ [.int (-2)] hG ⟨⟨⟨_, rfl, zPA2 (by omega)⟩, trivial⟩, fun _ h => (by cases h), fun _ h => (by cases h)⟩ dX6_paste_21
  have hy : z.toInt ≠ 0 := fun h9 => hz (Int32.toInt_inj.mp (h9.trans Int32.toInt_zero.symm))
  have in1 := zslot_in (show zslot v1 ≠ 0 by omega)
  clear hy hz lz
  refine lv_iload_n hx hb dX6_paste_12 rfl (lv_at hl 3 rfl) ?_
  refine zq_RX6_80 X (zh_isSlot6 v3) (by decide) rfl _ _ [] _ _ _ [.int v3] hG.1 hG.2.1 hG.2.2.1 hG.2.2.2.1 hG.2.2.2.2.1 ⟨⟨_, rfl, Int.le_refl _, Int.le_refl _⟩, trivial⟩ (by decide) hl.1 (fun _ h => by cases h) dX6_paste_13 (fun H locs w1 r b1 b2 b3 b4 b5 b6 b7 => ?_)
  obtain ⟨_, _, rfl, ⟨z, rfl, lz⟩, b8⟩ := zst1 b7.1
  obtain rfl := zst0 b8
  dsimp only at lz
  have hG := hG.next b1 b2 b3 b4 b5 b6 nilz
  clear b1 b2 b3 b4 b5 b6 b7 b8
  dsimp only [List.cons_append, List.nil_append]
  refine lv_if_ne (tgt := 22) hx hb dX6_paste_16 (by decide) (fun hz => ?_) (fun hz => ?_)
  case refine_2 =>
    have hy : z.toInt = 0 := (congrArg Int32.toInt hz).trans Int32.toInt_zero
    have hy2 := zslot_out (show zslot v3 = 0 by omega)
    refine lv_bipush (v := (-2)) hx hb dX6_paste_19 (by decide) ?_
    exact hR 21 _ _ _ _ [.int (-2)] hG ⟨⟨⟨_, rfl, zPA2 (by omega)⟩, trivial⟩, fun _ h => (by cases h), fun _ h => (by cases h)⟩ dX6_paste_21
  have hy : z.toInt ≠ 0 := fun h9 => hz (Int32.toInt_inj.mp (h9.trans Int32.toInt_zero.symm))
  have in2 := zslot_in (show zslot v3 ≠ 0 by omega)
  clear hy hz lz
  obtain ⟨fs, hob, hfs⟩ := zobj hG.2.2.2.1 ki di zks_6
  obtain ⟨r1, j1, q1, k1, d1⟩ := zref (f := 1) (k := 36) hfs rfl
  obtain ⟨r2, j2, q2, k2, d2⟩ := zref (f := 2) (k := 37) hfs rfl
  obtain ⟨f1, g1, m1⟩ := zarrI hG.2.2.2.1 k1 d1 (rfl : zKS[36]? = _)
  obtain ⟨f2, g2, m2⟩ := zarrI hG.2.2.2.1 k2 d2 (rfl : zKS[37]? = _)
  have cv1 := tcn (z := v1) in1.1
  have cv3 := tcn (z := v3) in2.1
  have xK1 : (f1 v1.toNatClampNeg).toInt = K1 := (zrowv (q := v1.toNatClampNeg) hw (show 36 ∈ zuq by decide) (by decide) k1 g1).symm.trans ((hG.2.2.2.2.2 36 (1000 + v1.toNatClampNeg) (zwr6_ne (by decide) (by decide))).trans eK1)
  have xK3 : (f1 v3.toNatClampNeg).toInt = K3 := (zrowv (q := v3.toNatClampNeg) hw (show 36 ∈ zuq by decide) (by decide) k1 g1).symm.trans ((hG.2.2.2.2.2 36 (1000 + v3.toNatClampNeg) (zwr6_ne (by decide) (by decide))).trans eK3)
  have xM1 : (f2 v1.toNatClampNeg).toInt = M1 := (zrowv (q := v1.toNatClampNeg) hw (show 37 ∈ zuq by decide) (by decide) k2 g2).symm.trans ((hG.2.2.2.2.2 37 (1000 + v1.toNatClampNeg) (zwr6_ne (by decide) (by decide))).trans eM1)
  have xM3 : (f2 v3.toNatClampNeg).toInt = M3 := (zrowv (q := v3.toNatClampNeg) hw (show 37 ∈ zuq by decide) (by decide) k2 g2).symm.trans ((hG.2.2.2.2.2 37 (1000 + v3.toNatClampNeg) (zwr6_ne (by decide) (by decide))).trans eM3)
  have em1 : (-1 : Int32).toInt = -1 := by decide
  refine lv_aload_n hx hb dX6_paste_22 rfl (lv_at hl 0 rfl) ?_
  refine zg_RX6 X (7, 6, 1) (by decide) _ zks_6 (by decide) _ _ _ _ _ _ _ i _ (.ref r1) hG.1 hob q1 dX6_paste_23 ?_
  refine lv_iload_n hx hb dX6_paste_26 rfl (lv_at hl 1 rfl) ?_
  refine va_iald hx hb X.2.1.1 hG.1 j1 0 g1 rfl (vp_in_iff.mpr ⟨by omega, by omega⟩) dX6_paste_27 ?_
  refine lv_iconst (v := (-1)) hx hb dX6_paste_28 (by decide) ?_
  refine lv_icmp_eq (tgt := 42) hx hb dX6_paste_29 (by decide) (fun hz => ?_) (fun hz => ?_)
  · skip
    have hy : K1 = -1 := by
      have h9 := congrArg Int32.toInt hz
      rw [xK1, em1] at h9
      exact h9
    refine lv_bipush (v := (-6)) hx hb dX6_paste_42 (by decide) ?_
    exact hR 44 _ _ _ _ [.int (-6)] hG ⟨⟨⟨_, rfl, zPA6 (by omega) (by omega)⟩, trivial⟩, fun _ h => (by cases h), fun _ h => (by cases h)⟩ dX6_paste_44
  have nK1 : K1 ≠ -1 := fun h9 => hz (Int32.toInt_inj.mp (by rw [xK1, em1]; exact h9))
  clear hz
  refine lv_aload_n hx hb dX6_paste_32 rfl (lv_at hl 0 rfl) ?_
  refine zg_RX6 X (7, 6, 1) (by decide) _ zks_6 (by decide) _ _ _ _ _ _ _ i _ (.ref r1) hG.1 hob q1 dX6_paste_33 ?_
  refine lv_iload_n hx hb dX6_paste_36 rfl (lv_at hl 3 rfl) ?_
  refine va_iald hx hb X.2.1.1 hG.1 j1 0 g1 rfl (vp_in_iff.mpr ⟨by omega, by omega⟩) dX6_paste_37 ?_
  refine lv_iconst (v := (-1)) hx hb dX6_paste_38 (by decide) ?_
  refine lv_icmp_ne (tgt := 45) hx hb dX6_paste_39 (by decide) (fun hz => ?_) (fun hz => ?_)
  case refine_2 =>
    have hy : K3 = -1 := by
      have h9 := congrArg Int32.toInt hz
      rw [xK3, em1] at h9
      exact h9
    refine lv_bipush (v := (-6)) hx hb dX6_paste_42 (by decide) ?_
    exact hR 44 _ _ _ _ [.int (-6)] hG ⟨⟨⟨_, rfl, zPA6 (by omega) (by omega)⟩, trivial⟩, fun _ h => (by cases h), fun _ h => (by cases h)⟩ dX6_paste_44
  have nK3 : K3 ≠ -1 := fun h9 => hz (Int32.toInt_inj.mp (by rw [xK3, em1]; exact h9))
  clear hz
  refine lv_aload_n hx hb dX6_paste_45 rfl (lv_at hl 0 rfl) ?_
  refine zg_RX6 X (7, 6, 1) (by decide) _ zks_6 (by decide) _ _ _ _ _ _ _ i _ (.ref r1) hG.1 hob q1 dX6_paste_46 ?_
  refine lv_iload_n hx hb dX6_paste_49 rfl (lv_at hl 1 rfl) ?_
  refine va_iald hx hb X.2.1.1 hG.1 j1 0 g1 rfl (vp_in_iff.mpr ⟨by omega, by omega⟩) dX6_paste_50 ?_
  refine lv_aload_n hx hb dX6_paste_51 rfl (lv_at hl 0 rfl) ?_
  refine zg_RX6 X (7, 6, 1) (by decide) _ zks_6 (by decide) _ _ _ _ _ _ _ i _ (.ref r1) hG.1 hob q1 dX6_paste_52 ?_
  refine lv_iload_n hx hb dX6_paste_55 rfl (lv_at hl 3 rfl) ?_
  refine va_iald hx hb X.2.1.1 hG.1 j1 0 g1 rfl (vp_in_iff.mpr ⟨by omega, by omega⟩) dX6_paste_56 ?_
  refine lv_icmp_eq (tgt := 63) hx hb dX6_paste_57 (by decide) (fun hz => ?_) (fun hz => ?_)
  case refine_2 =>
    have hy : K1 ≠ K3 := fun h9 => hz (Int32.toInt_inj.mp (by rw [xK1, xK3]; exact h9))
    refine lv_bipush (v := (-8)) hx hb dX6_paste_60 (by decide) ?_
    exact hR 62 _ _ _ _ [.int (-8)] hG ⟨⟨⟨_, rfl, zPA8 (by omega) (by omega) hy⟩, trivial⟩, fun _ h => (by cases h), fun _ h => (by cases h)⟩ dX6_paste_62
  have w13 : K1 = K3 := by
    have h9 := congrArg Int32.toInt hz
    rw [xK1, xK3] at h9
    exact h9
  clear hz
  have c1 : ¬ (v1.toInt < 0 ∨ 3 < v1.toInt ∨ v3.toInt < 0 ∨ 3 < v3.toInt) := by omega
  have c2 : ¬ (K1 + 1 = 0 ∨ K3 + 1 = 0) := by omega
  have lm0 : (f2 v1.toNatClampNeg).toInt ≤ 60 := (m2 _ (by omega)).2
  have lm1 : (f2 v3.toNatClampNeg).toInt ≤ 60 := (m2 _ (by omega)).2
  refine lv_iload_n hx hb dX6_paste_63 rfl (lv_at hl 2 rfl) ?_
  refine lv_if_lt (tgt := 112) hx hb dX6_paste_64 (by decide) (fun hz => ?_) (fun hv2 => ?_)
  · simp only [Int32.lt_iff_toInt_lt, Int32.reduceToInt] at hz
    refine lv_bipush (v := (-7)) hx hb dX6_paste_112 (by decide) ?_
    exact hR 114 _ _ _ _ [.int (-7)] hG ⟨⟨⟨_, rfl, zPA7 c1 c2 w13 (by omega)⟩, trivial⟩, fun _ h => (by cases h), fun _ h => (by cases h)⟩ dX6_paste_114
  simp only [Int32.lt_iff_toInt_lt, Int32.reduceToInt] at hv2
  refine lv_iload hx hb dX6_paste_67 (lv_at hl 4 rfl) ?_
  refine lv_if_lt (tgt := 112) hx hb dX6_paste_69 (by decide) (fun hz => ?_) (fun hv4 => ?_)
  · simp only [Int32.lt_iff_toInt_lt, Int32.reduceToInt] at hz
    refine lv_bipush (v := (-7)) hx hb dX6_paste_112 (by decide) ?_
    exact hR 114 _ _ _ _ [.int (-7)] hG ⟨⟨⟨_, rfl, zPA7 c1 c2 w13 (by omega)⟩, trivial⟩, fun _ h => (by cases h), fun _ h => (by cases h)⟩ dX6_paste_114
  simp only [Int32.lt_iff_toInt_lt, Int32.reduceToInt] at hv4
  refine lv_iload hx hb dX6_paste_72 (lv_at hl 5 rfl) ?_
  refine lv_if_lt (tgt := 112) hx hb dX6_paste_74 (by decide) (fun hz => ?_) (fun hv5 => ?_)
  · simp only [Int32.lt_iff_toInt_lt, Int32.reduceToInt] at hz
    refine lv_bipush (v := (-7)) hx hb dX6_paste_112 (by decide) ?_
    exact hR 114 _ _ _ _ [.int (-7)] hG ⟨⟨⟨_, rfl, zPA7 c1 c2 w13 (by omega)⟩, trivial⟩, fun _ h => (by cases h), fun _ h => (by cases h)⟩ dX6_paste_114
  simp only [Int32.lt_iff_toInt_lt, Int32.reduceToInt] at hv5
  refine lv_iload_n hx hb dX6_paste_77 rfl (lv_at hl 2 rfl) ?_
  refine lv_i2l hx hb dX6_paste_78 rfl ?_
  refine lv_iload hx hb dX6_paste_79 (lv_at hl 5 rfl) ?_
  refine lv_i2l hx hb dX6_paste_81 rfl ?_
  refine lv_ladd hx hb dX6_paste_82 ?_
  refine lv_aload_n hx hb dX6_paste_83 rfl (lv_at hl 0 rfl) ?_
  refine zg_RX6 X (13, 6, 2) (by decide) _ zks_6 (by decide) _ _ _ _ _ _ _ i _ (.ref r2) hG.1 hob q2 dX6_paste_84 ?_
  refine lv_iload_n hx hb dX6_paste_87 rfl (lv_at hl 1 rfl) ?_
  refine va_iald hx hb X.2.1.1 hG.1 j2 0 g2 rfl (vp_in_iff.mpr ⟨by omega, by omega⟩) dX6_paste_88 ?_
  refine lv_i2l hx hb dX6_paste_89 rfl ?_
  refine W.lcmp hx hb dX6_paste_90 ?_
  have es0 : (v2.toInt64 + v5.toInt64).toInt = v2.toInt + v5.toInt := by rw [addL _ _ (by rw [i2L, i2L]; have := bT v2; have := bT v5; omega), i2L, i2L]
  refine lv_if_gt (tgt := 112) hx hb dX6_paste_91 (by decide) (fun hz => ?_) (fun hz => ?_)
  · skip
    have h9 := cmp_gt (x := v2.toInt64 + v5.toInt64) (y := (f2 v1.toNatClampNeg).toInt64) (by have := hz; simp only [gt_iff_lt, Int32.lt_iff_toInt_lt, Int32.le_iff_toInt_le, Int32.reduceToInt] at this; omega)
    rw [es0, i2L] at h9
    refine lv_bipush (v := (-7)) hx hb dX6_paste_112 (by decide) ?_
    exact hR 114 _ _ _ _ [.int (-7)] hG ⟨⟨⟨_, rfl, zPA7 c1 c2 w13 (by omega)⟩, trivial⟩, fun _ h => (by cases h), fun _ h => (by cases h)⟩ dX6_paste_114
  have hd0 : v2.toInt + v5.toInt ≤ (f2 v1.toNatClampNeg).toInt := by
    have h9 := cmp_le (x := v2.toInt64 + v5.toInt64) (y := (f2 v1.toNatClampNeg).toInt64) (by have := hz; simp only [gt_iff_lt, Int32.lt_iff_toInt_lt, Int32.le_iff_toInt_le, Int32.reduceToInt] at this; omega)
    rw [es0, i2L] at h9
    exact h9
  have hc0 : v2.toInt + v5.toInt ≤ 60 := by omega
  clear hz
  refine lv_iload hx hb dX6_paste_94 (lv_at hl 4 rfl) ?_
  refine lv_i2l hx hb dX6_paste_96 rfl ?_
  refine lv_iload hx hb dX6_paste_97 (lv_at hl 5 rfl) ?_
  refine lv_i2l hx hb dX6_paste_99 rfl ?_
  refine lv_ladd hx hb dX6_paste_100 ?_
  refine lv_aload_n hx hb dX6_paste_101 rfl (lv_at hl 0 rfl) ?_
  refine zg_RX6 X (13, 6, 2) (by decide) _ zks_6 (by decide) _ _ _ _ _ _ _ i _ (.ref r2) hG.1 hob q2 dX6_paste_102 ?_
  refine lv_iload_n hx hb dX6_paste_105 rfl (lv_at hl 3 rfl) ?_
  refine va_iald hx hb X.2.1.1 hG.1 j2 0 g2 rfl (vp_in_iff.mpr ⟨by omega, by omega⟩) dX6_paste_106 ?_
  refine lv_i2l hx hb dX6_paste_107 rfl ?_
  refine W.lcmp hx hb dX6_paste_108 ?_
  have es1 : (v4.toInt64 + v5.toInt64).toInt = v4.toInt + v5.toInt := by rw [addL _ _ (by rw [i2L, i2L]; have := bT v4; have := bT v5; omega), i2L, i2L]
  refine lv_if_le (tgt := 115) hx hb dX6_paste_109 (by decide) (fun hz => ?_) (fun hz => ?_)
  case refine_2 =>
    have h9 := cmp_gt (x := v4.toInt64 + v5.toInt64) (y := (f2 v3.toNatClampNeg).toInt64) (by have := hz; simp only [gt_iff_lt, Int32.lt_iff_toInt_lt, Int32.le_iff_toInt_le, Int32.reduceToInt] at this; omega)
    rw [es1, i2L] at h9
    refine lv_bipush (v := (-7)) hx hb dX6_paste_112 (by decide) ?_
    exact hR 114 _ _ _ _ [.int (-7)] hG ⟨⟨⟨_, rfl, zPA7 c1 c2 w13 (by omega)⟩, trivial⟩, fun _ h => (by cases h), fun _ h => (by cases h)⟩ dX6_paste_114
  have hd1 : v4.toInt + v5.toInt ≤ (f2 v3.toNatClampNeg).toInt := by
    have h9 := cmp_le (x := v4.toInt64 + v5.toInt64) (y := (f2 v3.toNatClampNeg).toInt64) (by have := hz; simp only [gt_iff_lt, Int32.lt_iff_toInt_lt, Int32.le_iff_toInt_le, Int32.reduceToInt] at this; omega)
    rw [es1, i2L] at h9
    exact h9
  have hc1 : v4.toInt + v5.toInt ≤ 60 := by omega
  clear hz
  have c4 : ¬ (v2.toInt < 0 ∨ v4.toInt < 0 ∨ v5.toInt < 0 ∨ M1 < v2.toInt + v5.toInt ∨ M3 < v4.toInt + v5.toInt ∨ 60 < M1 ∨ 60 < M3) := by omega
  have hB : ∀ (k : Nat) (x : Int32) (ls : Array Slot) (w : va_W) (H : Heap) (locs : List Loc), 0 ≤ x.toInt → x.toInt ≤ v5.toInt → (v5.toInt - x.toInt).toNat < k → lv_has ls 7 [(6, .int x), (0, .ref a), (1, .int v1), (2, .int v2), (3, .int v3), (4, .int v4), (5, .int v5)] → zHp D vwCl A s.heap (tyA cI cZ cB cJ cR) zKS ks ad RX0 Psi ([(6, 0)] ++ zrun 38 1000 1 240) ws w H locs → W p l e R s m args below meth c H locs 0 0 Q (F0 m 155 ls []) := by
    intro k
    induction k with
    | zero => intro x ls w H locs h1 h2 hk; exact absurd hk (Nat.not_lt_zero _)
    | succ k ih =>
      intro x ls w H locs h1 h2 hk hl hG
      refine lv_iload hx hb dX6_paste_155 (lv_at hl 0 rfl) ?_
      refine lv_iload hx hb dX6_paste_157 (lv_at hl 6 rfl) ?_
      refine lv_icmp_ge (tgt := 190) hx hb dX6_paste_159 (by decide) (fun _ => ?_) (fun hge => ?_)
      · skip
        refine lv_iconst (v := 0) hx hb dX6_paste_190 (by decide) ?_
        exact hR 191 _ _ _ _ [.int (0)] hG ⟨⟨⟨_, rfl, zPA0 c1 c2 w13 c4⟩, trivial⟩, fun _ h => (by cases h), fun _ h => (by cases h)⟩ dX6_paste_191
      · simp only [ge_iff_le, Int32.le_iff_toInt_le] at hge
        obtain ⟨fs, hob, hfs⟩ := zobj hG.2.2.2.1 ki di zks_6
        obtain ⟨r3, j3, q3, k3, d3⟩ := zref (f := 3) (k := 38) hfs rfl
        obtain ⟨r4, j4, q4, k4, d4⟩ := zref (f := 4) (k := 39) hfs rfl
        obtain ⟨f3, g3, m3⟩ := zarrJ hG.2.2.2.1 k3 d3 (rfl : zKS[38]? = _)
        obtain ⟨f4, g4, m4⟩ := zarrJ hG.2.2.2.1 k4 d4 (rfl : zKS[39]? = _)
        refine lv_aload_n hx hb dX6_paste_162 rfl (lv_at hl 1 rfl) ?_
        refine zg_RX6 X (16, 6, 3) (by decide) _ zks_6 (by decide) _ _ _ _ _ _ _ i _ (.ref r3) hG.1 hob q3 dX6_paste_163 ?_
        refine lv_bipush (v := 60) hx hb dX6_paste_166 (by decide) ?_
        refine lv_iload_n hx hb dX6_paste_168 rfl (lv_at hl 4 rfl) ?_
        refine lv_imul hx hb dX6_paste_169 ?_
        refine lv_topi (fun t1 ht1 => ?_)
        have et1 : t1.toInt = 60 * v3.toInt := by rw [ht1, mulI _ _ (by simp only [Int32.reduceToInt]; omega)]; rfl
        refine lv_iload hx hb dX6_paste_170 (lv_at hl 5 rfl) ?_
        refine lv_iadd hx hb dX6_paste_172 ?_
        refine lv_topi (fun t2 ht2 => ?_)
        have et2 : t2.toInt = 60 * v3.toInt + v4.toInt := by rw [ht2, addI _ _ (by omega), et1]
        refine lv_iload hx hb dX6_paste_173 (lv_at hl 0 rfl) ?_
        refine lv_iadd hx hb dX6_paste_175 ?_
        refine lv_topi (fun t3 ht3 => ?_)
        have et3 : t3.toInt = 60 * v3.toInt + v4.toInt + x.toInt := by rw [ht3, addI _ _ (by omega), et2]
        have ct3 := tcn (z := t3) (by omega)
        refine lv_aload_n hx hb dX6_paste_176 rfl (lv_at hl 1 rfl) ?_
        refine zg_RX6 X (20, 6, 4) (by decide) _ zks_6 (by decide) _ _ _ _ _ _ _ i _ (.ref r4) hG.1 hob q4 dX6_paste_177 ?_
        refine lv_iload hx hb dX6_paste_180 (lv_at hl 0 rfl) ?_
        have cx := tcn (z := x) h1
        refine va_lald hx hb X.2.1.1 hG.1 j4 3 g4 rfl (vp_in_iff.mpr ⟨by omega, by omega⟩) dX6_paste_182 ?_
        refine va_last hx hb X.2.1.1 hG.1 hG.2.1 hG.2.2.1 j3 3 g3 rfl (vp_in_iff.mpr ⟨by omega, by omega⟩) dX6_paste_183 (fun H locs a1 a2 a3 => ?_)
        have hG := hG.stL hw k3 (by decide) g3 rfl (Or.inr (fun q hq => List.mem_append_right _ (zrun_mem hq))) (fun q hq => by unfold vp_updL; rw [if_neg (by omega)]) a1 a2 a3
        clear a1 a2 a3
        refine lv_iinc (k := 0) hx hb dX6_paste_184 hl rfl rfl (by decide) rfl (fun ls hl => ?_)
        have hl : lv_has ls 7 [(6, .int (x + Int32.ofInt 1)), (0, .ref a), (1, .int v1), (2, .int v2), (3, .int v3), (4, .int v4), (5, .int v5)] := hl
        refine lv_goto (tgt := 155) hx hb dX6_paste_187 (by decide) ?_
        have e3 : (x + Int32.ofInt 1).toInt = x.toInt + 1 := by rw [addI _ _ (by rw [show (Int32.ofInt 1).toInt = 1 from by decide]; omega)]; rfl
        exact ih _ ls _ H locs (by omega) (by omega) (by omega) hl hG
  have hA : ∀ (k : Nat) (x : Int32) (ls : Array Slot) (w : va_W) (H : Heap) (locs : List Loc), 0 ≤ x.toInt → x.toInt ≤ v5.toInt → (v5.toInt - x.toInt).toNat < k → lv_has ls 7 [(6, .int x), (0, .ref a), (1, .int v1), (2, .int v2), (3, .int v3), (4, .int v4), (5, .int v5)] → zHp D vwCl A s.heap (tyA cI cZ cB cJ cR) zKS ks ad RX0 Psi ([(6, 0)] ++ zrun 38 1000 1 240) ws w H locs → W p l e R s m args below meth c H locs 0 0 Q (F0 m 118 ls []) := by
    intro k
    induction k with
    | zero => intro x ls w H locs h1 h2 hk; exact absurd hk (Nat.not_lt_zero _)
    | succ k ih =>
      intro x ls w H locs h1 h2 hk hl hG
      refine lv_iload hx hb dX6_paste_118 (lv_at hl 0 rfl) ?_
      refine lv_iload hx hb dX6_paste_120 (lv_at hl 6 rfl) ?_
      refine lv_icmp_ge (tgt := 152) hx hb dX6_paste_122 (by decide) (fun _ => ?_) (fun hge => ?_)
      · skip
        refine lv_iconst (v := 0) hx hb dX6_paste_152 (by decide) ?_
        refine lv_istore hx hb dX6_paste_153 hl (by decide) rfl (fun ls hl => ?_)
        have hl : lv_has ls 7 [(6, .int 0), (0, .ref a), (1, .int v1), (2, .int v2), (3, .int v3), (4, .int v4), (5, .int v5)] := hl
        exact hB _ _ ls _ _ _ (by decide) (by have : (0 : Int32).toInt = 0 := rfl; omega) (Nat.lt_succ_self _) hl hG
      · simp only [ge_iff_le, Int32.le_iff_toInt_le] at hge
        obtain ⟨fs, hob, hfs⟩ := zobj hG.2.2.2.1 ki di zks_6
        obtain ⟨r3, j3, q3, k3, d3⟩ := zref (f := 3) (k := 38) hfs rfl
        obtain ⟨r4, j4, q4, k4, d4⟩ := zref (f := 4) (k := 39) hfs rfl
        obtain ⟨f3, g3, m3⟩ := zarrJ hG.2.2.2.1 k3 d3 (rfl : zKS[38]? = _)
        obtain ⟨f4, g4, m4⟩ := zarrJ hG.2.2.2.1 k4 d4 (rfl : zKS[39]? = _)
        refine lv_aload_n hx hb dX6_paste_125 rfl (lv_at hl 1 rfl) ?_
        refine zg_RX6 X (20, 6, 4) (by decide) _ zks_6 (by decide) _ _ _ _ _ _ _ i _ (.ref r4) hG.1 hob q4 dX6_paste_126 ?_
        refine lv_iload hx hb dX6_paste_129 (lv_at hl 0 rfl) ?_
        refine lv_aload_n hx hb dX6_paste_131 rfl (lv_at hl 1 rfl) ?_
        refine zg_RX6 X (16, 6, 3) (by decide) _ zks_6 (by decide) _ _ _ _ _ _ _ i _ (.ref r3) hG.1 hob q3 dX6_paste_132 ?_
        refine lv_bipush (v := 60) hx hb dX6_paste_135 (by decide) ?_
        refine lv_iload_n hx hb dX6_paste_137 rfl (lv_at hl 2 rfl) ?_
        refine lv_imul hx hb dX6_paste_138 ?_
        refine lv_topi (fun t1 ht1 => ?_)
        have et1 : t1.toInt = 60 * v1.toInt := by rw [ht1, mulI _ _ (by simp only [Int32.reduceToInt]; omega)]; rfl
        refine lv_iload_n hx hb dX6_paste_139 rfl (lv_at hl 3 rfl) ?_
        refine lv_iadd hx hb dX6_paste_140 ?_
        refine lv_topi (fun t2 ht2 => ?_)
        have et2 : t2.toInt = 60 * v1.toInt + v2.toInt := by rw [ht2, addI _ _ (by omega), et1]
        refine lv_iload hx hb dX6_paste_141 (lv_at hl 0 rfl) ?_
        refine lv_iadd hx hb dX6_paste_143 ?_
        refine lv_topi (fun t3 ht3 => ?_)
        have et3 : t3.toInt = 60 * v1.toInt + v2.toInt + x.toInt := by rw [ht3, addI _ _ (by omega), et2]
        have ct3 := tcn (z := t3) (by omega)
        have cx := tcn (z := x) h1
        refine va_lald hx hb X.2.1.1 hG.1 j3 3 g3 rfl (vp_in_iff.mpr ⟨by omega, by omega⟩) dX6_paste_144 ?_
        refine va_last hx hb X.2.1.1 hG.1 hG.2.1 hG.2.2.1 j4 3 g4 rfl (vp_in_iff.mpr ⟨by omega, by omega⟩) dX6_paste_145 (fun H locs a1 a2 a3 => ?_)
        have hG := hG.stL hw k4 (by decide) g4 rfl (Or.inl (by decide)) (fun q hq => by unfold vp_updL; rw [if_neg (by omega)]) a1 a2 a3
        clear a1 a2 a3
        refine lv_iinc (k := 0) hx hb dX6_paste_146 hl rfl rfl (by decide) rfl (fun ls hl => ?_)
        have hl : lv_has ls 7 [(6, .int (x + Int32.ofInt 1)), (0, .ref a), (1, .int v1), (2, .int v2), (3, .int v3), (4, .int v4), (5, .int v5)] := hl
        refine lv_goto (tgt := 118) hx hb dX6_paste_149 (by decide) ?_
        have e3 : (x + Int32.ofInt 1).toInt = x.toInt + 1 := by rw [addI _ _ (by rw [show (Int32.ofInt 1).toInt = 1 from by decide]; omega)]; rfl
        exact ih _ ls _ H locs (by omega) (by omega) (by omega) hl hG
  refine lv_iconst (v := 0) hx hb dX6_paste_115 (by decide) ?_
  refine lv_istore hx hb dX6_paste_116 hl (by decide) rfl (fun ls hl => ?_)
  have hl : lv_has ls 7 [(6, .int 0), (0, .ref a), (1, .int v1), (2, .int v2), (3, .int v3), (4, .int v4), (5, .int v5)] := hl
  exact hA _ _ ls _ _ _ (by decide) (by have : (0 : Int32).toInt = 0 := rfl; omega) (Nat.lt_succ_self _) hl hG
