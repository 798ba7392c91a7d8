theorem andDec (v : Int32) (h : ¬ v = 0) : (v &&& (v - 1)).toBitVec.toNat < v.toBitVec.toNat := by
  have e : (v &&& (v - 1)).toBitVec = v.toBitVec &&& (v.toBitVec - 1#32) := by rw [Int32.toBitVec_and, Int32.toBitVec_sub]; rfl
  rw [e, BitVec.toNat_and]
  have h1 : v.toBitVec ≠ 0#32 := fun h2 => h (Int32.toBitVec_inj.mp (h2.trans rfl))
  have h2 : 0 < v.toBitVec.toNat := by
    rcases Nat.eq_zero_or_pos v.toBitVec.toNat with h3 | h3
    · exact absurd (BitVec.eq_of_toNat_eq (h3.trans rfl)) h1
    · exact h3
  have h3 : (v.toBitVec - 1#32).toNat = v.toBitVec.toNat - 1 := by
    rw [BitVec.toNat_sub]
    have := v.toBitVec.isLt
    simp
    omega
  have h4 := @Nat.and_le_right v.toBitVec.toNat (v.toBitVec - 1#32).toNat
  omega
theorem zh_sizeOf {l : Launch} {D : va_G} {cI cZ cB cJ cR : ClassId} {ks ad : List Nat} {Psi : va_W → Prop} : zMet l D cI cZ cB cJ cR zKS ks ad Psi yX6_sizeOf (.code yX6_sizeOf cX6_sizeOf 3 (some .int)) 2 zc_1123 := by
  intro ws As sz hc hPsi hok hpre
  refine Met.ofW (cc := cX6_sizeOf) (maxL := 3) (ret := some .int) (by decide) rfl ?_
  intro p e s m args below meth c s₁ B hml hv
  obtain ⟨rfl, ⟨hsz, hP, hk, hD0⟩, hSx⟩ := hv
  subst hsz
  have hx := B.exec
  have hb := B.bytes
  have hr := B.returns
  have hlocks := B.notSynchronized
  have hD : va_D (va_A ws s.heap.size) ws := hD0.self
  obtain ⟨w, As', rfl, ⟨x, rfl, -⟩, hok'⟩ := zst1 hok
  obtain rfl := zst0 hok'
  have hl := lv_entry ([.int x]) (n := 3) (Nat.le_of_ble_eq_true rfl)
  rw [lg_entry_eq]
  generalize (lg_sl ([.int x]) ++ List.replicate (3 - (lg_sl ([.int x])).length) Slot.unset).toArray = ls at hl ⊢
  have hl : lv_has ls 3 [(0, .int x)] := hl
  refine lv_iconst (n := 0) hx hb (by decide +kernel) rfl ?_
  refine lv_istore_n (k := 1) hx hb (by decide +kernel) rfl hl (by decide) rfl (fun ls hl => ?_)
  refine lv_iload_n (k := 0) hx hb (by decide +kernel) rfl (lv_at hl 1 rfl) ?_
  refine lv_istore_n (k := 2) hx hb (by decide +kernel) rfl hl (by decide) rfl (fun ls hl => ?_)
  have hl : lv_has ls 3 [(2, .int x), (1, .int (Int32.ofInt 0)), (0, .int x)] := hl
  generalize Int32.ofInt 0 = n at hl
  have d4 : decode cX6_sizeOf 4 = .ok (.iload_n 2, 1) := by decide +kernel
  have d5 : decode cX6_sizeOf 5 = .ok (.ifCond .eq 15, 3) := by decide +kernel
  have d8 : decode cX6_sizeOf 8 = .ok (.iinc 1 1, 3) := by decide +kernel
  have d11 : decode cX6_sizeOf 11 = .ok (.iload_n 2, 1) := by decide +kernel
  have d12 : decode cX6_sizeOf 12 = .ok (.iload_n 2, 1) := by decide +kernel
  have d13 : decode cX6_sizeOf 13 = .ok (.iconst 1, 1) := by decide +kernel
  have d14 : decode cX6_sizeOf 14 = .ok (.isub, 1) := by decide +kernel
  have d15 : decode cX6_sizeOf 15 = .ok (.iand, 1) := by decide +kernel
  have d16 : decode cX6_sizeOf 16 = .ok (.istore_n 2, 1) := by decide +kernel
  have d17 : decode cX6_sizeOf 17 = .ok (.goto (-13), 3) := by decide +kernel
  have d20 : decode cX6_sizeOf 20 = .ok (.iload_n 1, 1) := by decide +kernel
  have d21 : decode cX6_sizeOf 21 = .ok (.ireturn, 1) := by decide +kernel
  suffices hloop : ∀ (k : Nat) (n v : Int32) (ls : Array Slot), v.toBitVec.toNat < k → lv_has ls 3 [(2, .int v), (1, .int n), (0, .int x)] → W p l e (headSpec (wA (.code yX6_sizeOf cX6_sizeOf 3 (some .int))) (zrm 2)).room s m ([.int x] : List Value).toArray below meth c s.heap [] 0 0 (MQ below (zQ (zrt zc_1123.2.1) D cI cZ cB cJ cR zKS ks ad Psi zc_1123 [.int x] ws (va_A ws s.heap.size)) ([.int x] : List Value).toArray s 0 0 (va_A ws s.heap.size)) (F0 m 4 ls []) from hloop _ n x ls (Nat.lt_succ_self _) hl
  intro k
  induction k with
  | zero => intro n v ls hk; exact absurd hk (Nat.not_lt_zero _)
  | succ k ih =>
    intro n v ls hk hl
    refine lv_iload_n hx hb d4 rfl (lv_at hl 0 rfl) ?_
    refine lv_if_eq (tgt := 20) hx hb d5 (by decide) (fun _ => ?_) (fun h0 => ?_)
    · refine lv_iload_n hx hb d20 rfl (lv_at hl 1 rfl) ?_
      exact W.iret (v := n) hx hb hr (fun t ht _ => ⟨⟨n, ws, rfl, ⟨⟨⟨⟨n, rfl, bT n⟩, trivial⟩, (fun _ h => by cases h), (fun _ h => by cases h)⟩, hc, hPsi, fun _ _ _ => rfl⟩, by rw [ht]; exact hP, hD⟩, (va_S.rf (A := va_A ws s.heap.size)).F ht⟩) (fun _ h => by cases h) d21
    · refine lv_iinc (k := 1) hx hb d8 hl rfl rfl (by decide) rfl (fun ls hl => ?_)
      have hl : lv_has ls 3 [(1, .int (n + Int32.ofInt 1)), (2, .int v), (0, .int x)] := hl
      refine lv_iload_n hx hb d11 rfl (lv_at hl 1 rfl) ?_
      refine lv_iload_n hx hb d12 rfl (lv_at hl 1 rfl) ?_
      refine lv_iconst hx hb d13 (show Int32.ofInt 1 = 1 from by decide) ?_
      refine lv_isub hx hb d14 ?_
      refine lv_iand hx hb d15 ?_
      refine lv_istore_n hx hb d16 rfl hl (by decide) rfl (fun ls hl => ?_)
      refine lv_goto (tgt := 4) hx hb d17 (by decide) ?_
      exact ih (n + Int32.ofInt 1) (v &&& (v - 1)) ls (by have := andDec v h0; omega) (lv_sub hl [0, 1, 2] rfl)
