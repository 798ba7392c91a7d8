theorem lset {α : Type} : ∀ {l : List α} {j : Nat} {x : α}, l[j]? = some x → l.set j x = l
  | [], _, _, _ => rfl
  | y :: l, 0, x, h => by
    have h : some y = some x := h
    cases h
    rfl
  | y :: l, j + 1, x, h => by
    show y :: l.set j x = y :: l
    rw [lset (show l[j]? = some x from h)]
/-- k numbers of part a over part b -/
def zck (f : Nat → Int32) (M a b k : Nat) : Nat → Int32 := fun j => if M * b ≤ j ∧ j < M * b + k then f (M * a + (j - M * b)) else f j
theorem zck_0 {f : Nat → Int32} {M a b : Nat} : zck f M a b 0 = f := by
  funext j
  unfold zck
  rw [if_neg (by omega)]
theorem zck_at {f : Nat → Int32} {M a b k : Nat} (hk : k < M) : zck f M a b k (M * a + k) = f (M * a + k) := by
  unfold zck
  rw [if_neg]
  intro h
  rcases Nat.lt_or_ge a b with h1 | h1
  · have := Nat.mul_le_mul_left M (show a + 1 ≤ b from h1)
    rw [Nat.mul_add, Nat.mul_one] at this
    omega
  · have := Nat.mul_le_mul_left M h1
    omega
theorem zck_s {f : Nat → Int32} {M a b k : Nat} : upd (zck f M a b k) (M * b + k) (f (M * a + k)) = zck f M a b (k + 1) := by
  funext j
  unfold upd zck
  by_cases h : j = M * b + k
  · subst h
    rw [if_pos rfl, if_pos (by omega)]
    congr 1
    omega
  · rw [if_neg h]
    by_cases h2 : M * b ≤ j ∧ j < M * b + k
    · rw [if_pos h2, if_pos (by omega)]
    · rw [if_neg h2, if_neg (by omega)]
theorem dX6_copyRow_0 : decode cX6_copyRow 0 = .ok (.iconst 0, 1) := by decide +kernel
theorem dX6_copyRow_1 : decode cX6_copyRow 1 = .ok (.istore 4, 2) := by decide +kernel
theorem dX6_copyRow_10 : decode cX6_copyRow 10 = .ok (.iload_n 1, 1) := by decide +kernel
theorem dX6_copyRow_11 : decode cX6_copyRow 11 = .ok (.iload_n 3, 1) := by decide +kernel
theorem dX6_copyRow_12 : decode cX6_copyRow 12 = .ok (.imul, 1) := by decide +kernel
theorem dX6_copyRow_13 : decode cX6_copyRow 13 = .ok (.iload 4, 2) := by decide +kernel
theorem dX6_copyRow_15 : decode cX6_copyRow 15 = .ok (.iadd, 1) := by decide +kernel
theorem dX6_copyRow_16 : decode cX6_copyRow 16 = .ok (.aload_n 0, 1) := by decide +kernel
theorem dX6_copyRow_17 : decode cX6_copyRow 17 = .ok (.iload_n 1, 1) := by decide +kernel
theorem dX6_copyRow_18 : decode cX6_copyRow 18 = .ok (.iload_n 2, 1) := by decide +kernel
theorem dX6_copyRow_19 : decode cX6_copyRow 19 = .ok (.imul, 1) := by decide +kernel
theorem dX6_copyRow_20 : decode cX6_copyRow 20 = .ok (.iload 4, 2) := by decide +kernel
theorem dX6_copyRow_22 : decode cX6_copyRow 22 = .ok (.iadd, 1) := by decide +kernel
theorem dX6_copyRow_23 : decode cX6_copyRow 23 = .ok (.iaload, 1) := by decide +kernel
theorem dX6_copyRow_24 : decode cX6_copyRow 24 = .ok (.iastore, 1) := by decide +kernel
theorem dX6_copyRow_25 : decode cX6_copyRow 25 = .ok (.iinc 4 1, 3) := by decide +kernel
theorem dX6_copyRow_28 : decode cX6_copyRow 28 = .ok (.goto (-25), 3) := by decide +kernel
theorem dX6_copyRow_3 : decode cX6_copyRow 3 = .ok (.iload 4, 2) := by decide +kernel
theorem dX6_copyRow_31 : decode cX6_copyRow 31 = .ok (.return_, 1) := by decide +kernel
theorem dX6_copyRow_5 : decode cX6_copyRow 5 = .ok (.iload_n 1, 1) := by decide +kernel
theorem dX6_copyRow_6 : decode cX6_copyRow 6 = .ok (.if_icmp .ge 25, 3) := by decide +kernel
theorem dX6_copyRow_9 : decode cX6_copyRow 9 = .ok (.aload_n 0, 1) := by decide +kernel
theorem zh_copyRow {l : Launch} {D : va_G} {cI cZ cB cJ cR : ClassId} {ks ad : List Nat} {Psi : va_W → Prop} {kk M n : Nat} {el : List zt} {b1 b2 : Int} {wr : List (Nat × Nat)} (hk : zKS[kk]? = some (.inl (0, n, el))) (hn : n = M * 5) (hM : M ≤ 160) (hb1 : 0 ≤ b1) (hb2 : b2 ≤ 4) (hel : ∀ a b k : Nat, a < 5 → b < 5 → k < M → zel el (M * b + k) = zel el (M * a + k))
    (hwr : zTA.contains kk = false ∨ ∀ b k : Nat, b1 ≤ (b : Int) → (b : Int) ≤ b2 → k < M → (kk, 1000 + (M * b + k)) ∈ wr)
    (hPsi : ∀ (w : va_W) (j r a b : Nat) (f : Nat → Int32), ks[j]? = some kk → w[j]? = some (r, .inl (cI, n, .inl f)) → a < 5 → b < 5 → Psi w → Psi (w.set j (r, .inl (cI, n, .inl (zck f M a b M))))) :
    zMet l D cI cZ cB cJ cR zKS ks ad Psi yX6_copyRow (.code yX6_copyRow cX6_copyRow 5 none) 2 ([(kk + 2, 0, 0), (0, (M : Int), (M : Int)), (0, 0, 4), (0, b1, b2)], none, [], [], [], wr, []) := by
  refine zmet_gen 2 (by decide) (by show (if (kk + 2 == 1) then 2 else 1) + (1 + (1 + (1 + 0))) ≤ 5; split <;> omega) rfl ?_
  intro p e R s m args below meth c Q A ws As ls X hG hok hpre hR hl
  have hx := X.1.1
  have hb := X.1.2.1
  obtain ⟨_, _, rfl, ⟨r, j, rfl, kj, dj⟩, hok1⟩ := zst1 hok
  obtain ⟨_, _, rfl, ⟨v1, rfl, lv1⟩, hok2⟩ := zst1 hok1
  obtain ⟨_, _, rfl, ⟨v2, rfl, lv2⟩, hok3⟩ := zst1 hok2
  obtain ⟨_, _, rfl, ⟨v3, rfl, lv3⟩, hok4⟩ := zst1 hok3
  obtain rfl := zst0 hok4
  dsimp only at lv1 lv2 lv3
  have hl : lv_has ls 5 [(0, .ref r), (1, .int v1), (2, .int v2), (3, .int v3)] := hl
  obtain ⟨f, gf, mf⟩ := zarrI hG.2.2.2.1 kj dj hk
  obtain ⟨a, ha⟩ : ∃ a : Nat, v2.toInt = (a : Int) := ⟨v2.toInt.toNat, by omega⟩
  obtain ⟨b, hbb⟩ : ∃ b : Nat, v3.toInt = (b : Int) := ⟨v3.toInt.toNat, by omega⟩
  have em : v1.toInt = (M : Int) := by omega
  have ha5 : a < 5 := by omega
  have hb5 : b < 5 := by omega
  have hMa := Nat.mul_le_mul_left M (show a ≤ 4 by omega)
  have hMb := Nat.mul_le_mul_left M (show b ≤ 4 by omega)
  refine lv_iconst (v := 0) hx hb dX6_copyRow_0 (by decide) ?_
  refine lv_istore hx hb dX6_copyRow_1 hl (by decide) rfl (fun ls hl => ?_)
  have hl : lv_has ls 5 [(4, .int 0), (0, .ref r), (1, .int v1), (2, .int v2), (3, .int v3)] := hl
  suffices hloop : ∀ (q k : Nat) (y : Int32) (ls : Array Slot) (H : Heap) (locs : List Loc), y.toInt = (k : Int) → k ≤ M → M - k < q → lv_has ls 5 [(4, .int y), (0, .ref r), (1, .int v1), (2, .int v2), (3, .int v3)] → va_P D vwCl (ws.set j (r, .inl (cI, n, .inl (zck f M a b k)))) H → va_D A (ws.set j (r, .inl (cI, n, .inl (zck f M a b k)))) → va_S A s.heap H locs → W p l e R s m args below meth c H locs 0 0 Q (F0 m 3 ls []) from hloop _ 0 _ ls _ _ rfl (Nat.zero_le _) (Nat.lt_succ_self _) hl (by rw [zck_0, lset gf]; exact hG.1) (by rw [zck_0, lset gf]; exact hG.2.1) hG.2.2.1
  clear hl
  intro q
  induction q with
  | zero => intro k y ls H locs h1 h2 hk; exact absurd hk (Nat.not_lt_zero _)
  | succ q ih =>
    intro k y ls H locs hy hkM hq hl hP hD hS
    refine lv_iload hx hb dX6_copyRow_3 (lv_at hl 0 rfl) ?_
    refine lv_iload_n hx hb dX6_copyRow_5 rfl (lv_at hl 2 rfl) ?_
    refine lv_icmp_ge (tgt := 31) hx hb dX6_copyRow_6 (by decide) (fun hge => ?_) (fun hge => ?_)
    · simp only [ge_iff_le, Int32.le_iff_toInt_le] at hge
      have ekM : k = M := by omega
      subst ekM
      refine hR 31 _ _ _ _ [] ⟨hP, hD, hS, zconf_set hG.2.2.2.1 kj gf hk ⟨rfl, rfl, (show (0 : Nat) < 3 by decide), fun z hz => ?_⟩, hPsi ws j r a b f kj gf ha5 hb5 hG.2.2.2.2.1, fun k' f' hf' => ?_⟩ ⟨trivial, fun _ h => (by cases h), fun _ h => (by cases h)⟩ dX6_copyRow_31
      · unfold zck
        split
        · rename_i hin
          obtain ⟨x, hxx⟩ : ∃ x, z = k * b + x := ⟨z - k * b, by omega⟩
          rw [show k * a + (z - k * b) = k * a + x by omega, show zel el z = zel el (k * a + x) by rw [hxx]; exact hel a b x ha5 hb5 (by omega)]
          exact mf _ (by omega)
        · exact mf z hz
      · refine (zfv_set gf kj k' f' (fun e9 => ?_)).trans (hG.2.2.2.2.2 k' f' hf')
        subst e9
        rcases hwr with hta | hwr
        · rw [zav_un hta, zav_un hta]
        · show (if zTA.contains k' && Nat.ble 1000 f' then (zck f k a b k (f' - 1000)).toInt else 0) = (if zTA.contains k' && Nat.ble 1000 f' then (f (f' - 1000)).toInt else 0)
          split
          · rename_i hc9
            rw [Bool.and_eq_true] at hc9
            have h1000 := Nat.le_of_ble_eq_true hc9.2
            unfold zck
            rw [if_neg]
            intro hin
            refine hf' ?_
            have := hwr b (f' - 1000 - k * b) (by omega) (by omega) (by omega)
            rw [show 1000 + (k * b + (f' - 1000 - k * b)) = f' by omega] at this
            exact this
          · rfl
    · simp only [ge_iff_le, Int32.le_iff_toInt_le] at hge
      refine lv_aload_n hx hb dX6_copyRow_9 rfl (lv_at hl 1 rfl) ?_
      refine lv_iload_n hx hb dX6_copyRow_10 rfl (lv_at hl 2 rfl) ?_
      refine lv_iload_n hx hb dX6_copyRow_11 rfl (lv_at hl 4 rfl) ?_
      refine lv_imul hx hb dX6_copyRow_12 ?_
      refine lv_topi (fun y1 hy1 => ?_)
      have e1 : y1.toInt = ((M * b : Nat) : Int) := by rw [hy1, mulI _ _ (by rw [em, hbb, ← Int.natCast_mul]; omega), em, hbb, ← Int.natCast_mul]
      refine lv_iload hx hb dX6_copyRow_13 (lv_at hl 0 rfl) ?_
      refine lv_iadd hx hb dX6_copyRow_15 ?_
      refine lv_topi (fun y2 hy2 => ?_)
      have e2 : y2.toInt = ((M * b + k : Nat) : Int) := by rw [hy2, addI _ _ (by rw [e1, hy]; omega), e1, hy]; omega
      refine lv_aload_n hx hb dX6_copyRow_16 rfl (lv_at hl 1 rfl) ?_
      refine lv_iload_n hx hb dX6_copyRow_17 rfl (lv_at hl 2 rfl) ?_
      refine lv_iload_n hx hb dX6_copyRow_18 rfl (lv_at hl 3 rfl) ?_
      refine lv_imul hx hb dX6_copyRow_19 ?_
      refine lv_topi (fun y3 hy3 => ?_)
      have e3 : y3.toInt = ((M * a : Nat) : Int) := by rw [hy3, mulI _ _ (by rw [em, ha, ← Int.natCast_mul]; omega), em, ha, ← Int.natCast_mul]
      refine lv_iload hx hb dX6_copyRow_20 (lv_at hl 0 rfl) ?_
      refine lv_iadd hx hb dX6_copyRow_22 ?_
      refine lv_topi (fun y4 hy4 => ?_)
      have e4 : y4.toInt = ((M * a + k : Nat) : Int) := by rw [hy4, addI _ _ (by rw [e3, hy]; omega), e3, hy]; omega
      have gk : (ws.set j (r, .inl (cI, n, .inl (zck f M a b k))))[j]? = some (r, .inl (cI, n, .inl (zck f M a b k))) := List.getElem?_set_self (List.getElem?_eq_some_iff.mp gf).1
      refine va_iald hx hb X.2.1.1 hP j 0 gk rfl (vp_in_iff.mpr ⟨by omega, by omega⟩) dX6_copyRow_23 ?_
      have c4 : y4.toNatClampNeg = M * a + k := by have := tcn (z := y4) (by omega); omega
      have c2 : y2.toNatClampNeg = M * b + k := by have := tcn (z := y2) (by omega); omega
      rw [c4, zck_at (by omega)]
      refine va_iast hx hb X.2.1.1 hP hD hS j 0 gk rfl (vp_in_iff.mpr ⟨by omega, by omega⟩) dX6_copyRow_24 (fun H locs a1 a2 a3 => ?_)
      rw [c2, zck_s, List.set_set] at a1 a2
      refine lv_iinc (k := 0) hx hb dX6_copyRow_25 hl rfl rfl (by decide) rfl (fun ls hl => ?_)
      have hl : lv_has ls 5 [(4, .int (y + Int32.ofInt 1)), (0, .ref r), (1, .int v1), (2, .int v2), (3, .int v3)] := hl
      refine lv_goto (tgt := 3) hx hb dX6_copyRow_28 (by decide) ?_
      refine ih (k + 1) _ ls H locs ?_ (by omega) (by omega) hl a1 a2 a3
      rw [addI _ _ (by rw [hy, show (Int32.ofInt 1).toInt = 1 from by decide]; omega), hy]
      rfl
