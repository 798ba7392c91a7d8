set_option maxHeartbeats 4000000 in
set_option maxRecDepth 100000 in
theorem whole_start {p : Program} {e : Env} {s : State} {m : MethodId} {below : List Frame} {meth : Method} {c : Code} (l : Launch) {b L : Nat} {xs : Nat → Int32} (hL : L ≤ 6) (C0 : lw_At p s m meth c b L xs) : W p l e room_1 s m #[Value.ref b] below meth c s.heap [] 0 0 (lw_Z below #[Value.ref b] s) (entryFrame m ([Value.ref b] : List Value).toArray 4) := by
  obtain ⟨hx, hb, hr, hml, hown, hts0, hX, hbl, hlocks, hgv⟩ := id C0
  have hts := fun w h => hts0 w (wsL_law_in w h)
  have hA : ∀ q : Nat, s.heap.size ≤ q → (fun q : Nat => s.heap.size ≤ q) q := fun _ h => h
  have hbA : ¬ (fun q : Nat => s.heap.size ≤ q) b := Nat.not_le.mpr hbl
  obtain ⟨c0, iS0, hKn0⟩ := u_known (C := RX0) (T := TX0) (N := 14) (n := 14) hts0 inX0 (hts (.instantiable RX0 14) (by decide +kernel))
  obtain ⟨c1, iS1, hKn1⟩ := u_known (C := RX1) (T := TX1) (N := 7) (n := 7) hts0 inX1 (hts (.instantiable RX1 7) (by decide +kernel))
  obtain ⟨c2, iS2, hKn2⟩ := u_known (C := RX2) (T := TX2) (N := 18) (n := 18) hts0 inX2 (hts (.instantiable RX2 18) (by decide +kernel))
  obtain ⟨c3, iS3, hKn3⟩ := u_known (C := RX3) (T := TX3) (N := 4) (n := 4) hts0 inX3 (hts (.instantiable RX3 4) (by decide +kernel))
  obtain ⟨c4, iS4, hKn4⟩ := u_known (C := RX4) (T := TX4) (N := 8) (n := 8) hts0 inX4 (hts (.instantiable RX4 8) (by decide +kernel))
  obtain ⟨c5, iS5, hKn5⟩ := u_known (C := RX5) (T := TX5) (N := 8) (n := 8) hts0 inX5 (hts (.instantiable RX5 8) (by decide +kernel))
  obtain ⟨c6, iS6, hKn6⟩ := u_known (C := RX6) (T := TX6) (N := 36) (n := 36) hts0 inX6 (hts (.instantiable RX6 36) (by decide +kernel))
  obtain ⟨dC, dI, hKc⟩ : ∃ (dC : Nat → ClassId) (dI : Nat → Nat → Nat), ∀ (k : Nat) (q : vw_C), vwCl[k]? = some q → u_Kn s q.1 q.2.1 q.2.2 (dC k) (dI k) := by
    refine ⟨fun k => if k = 0 then c0 else if k = 1 then c1 else if k = 2 then c2 else if k = 3 then c3 else if k = 4 then c4 else if k = 5 then c5 else c6, fun k => if k = 0 then iS0 else if k = 1 then iS1 else if k = 2 then iS2 else if k = 3 then iS3 else if k = 4 then iS4 else if k = 5 then iS5 else iS6, ?_⟩
    intro k q hq
    match k, hq with
    | 0, hq => cases hq; exact hKn0
    | 1, hq => cases hq; exact hKn1
    | 2, hq => cases hq; exact hKn2
    | 3, hq => cases hq; exact hKn3
    | 4, hq => cases hq; exact hKn4
    | 5, hq => cases hq; exact hKn5
    | 6, hq => cases hq; exact hKn6
    | k + 7, hq => simp [vwCl] at hq
  obtain ⟨cI, hcI1, hcI2⟩ := arr_known (ty := .int) (hts (.arrayClass .int) (by decide +kernel)) rfl
  obtain ⟨cZ, hcZ1, hcZ2⟩ := arr_known (ty := .boolean) (hts (.arrayClass .boolean) (by decide +kernel)) rfl
  obtain ⟨cB, hcB1, hcB2⟩ := arr_known (ty := .byte) (hts (.arrayClass .byte) (by decide +kernel)) rfl
  obtain ⟨cJ, hcJ1, hcJ2⟩ := arr_known (ty := .long) (hts (.arrayClass .long) (by decide +kernel)) rfl
  have hao : va_AO RX0 s := va_AO.of (hts0 (.arrayOver (.object RX0)) (by decide +kernel))
  obtain ⟨cR, hcR1, hcR2⟩ := arr_knownO hao
  obtain ⟨D, hDe⟩ : ∃ D : va_G, D = (dC, dI) := ⟨_, rfl⟩
  have hK : va_K D vwCl (tyA cI cZ cB cJ cR) s := by
    rw [hDe]
    refine ⟨hKc, fun k q hq => ?_⟩
    match k, hq with
    | 0, hq => cases hq; exact ⟨hcI1, hcI2⟩
    | 1, hq => cases hq; exact ⟨hcZ1, hcZ2⟩
    | 2, hq => cases hq; exact ⟨hcB1, hcB2⟩
    | 3, hq => cases hq; exact ⟨hcJ1, hcJ2⟩
    | 4, hq => cases hq; exact ⟨hcR1, hcR2⟩
    | k + 5, hq => simp [tyA] at hq
  have hz : zH s := fun w hw => va_Nw.of (zN_on w hw) (hts0 w (zN_in w hw))
  have hk : kB D cI cZ cB cJ cR s := ⟨hK, hz, hao⟩
  have hS : va_S (fun q : Nat => s.heap.size ≤ q) s.heap s.heap [] := va_S.rf
  have hP : va_P D vwCl [] s.heap := fun k q h => by simp at h
  have hD : va_D (fun q : Nat => s.heap.size ≤ q) [] := ⟨fun i j p q h => by simp at h, fun k q h => by simp at h⟩
  have hl := lv_entry ([.ref b]) (n := 4) (Nat.le_of_ble_eq_true rfl)
  rw [lg_entry_eq]
  generalize (lg_sl ([.ref b]) ++ List.replicate (4 - (lg_sl ([.ref b])).length) Slot.unset).toArray = ls at hl ⊢
  have hl : lv_has ls 4 [(0, .ref b)] := hl
  have hi5 : ∀ w ∈ wsX50, w ∈ wsL_law := inlX5
  have hi6 : ∀ w ∈ wsX60, w ∈ wsL_law := inlX6
  refine va_new (ci := 5) (fs := [.null, .null, .null, .null, .null, .null, .null, .null]) (C := RX5) (T := TX5) (N := 8) hx hb hts hi5 tyX5 tyX5_ok hown (hts (.classLink RL 7 RX5) (by decide +kernel)) (hts (.instantiable RX5 8) (by decide +kernel)) (hts (.initialized RX5) (by decide +kernel)) hK hP hD hS hA rfl (newf5) (show 1 ≤ 600000 by decide) (show 8 ≤ 7302250 by decide) dL_law_0 (fun q1 H hP hD hS => ?_)
  have hP : va_P D vwCl [(q1, .inr (5, [.null, .null, .null, .null, .null, .null, .null, .null]))] H := hP
  have hD : va_D (fun q : Nat => s.heap.size ≤ q) [(q1, .inr (5, [.null, .null, .null, .null, .null, .null, .null, .null]))] := hD
  refine W.widen (k := 1) (n := 8) (show 1 ≤ 1 by decide) (show 8 ≤ 8 by decide) ?_
  refine lv_dup hx hb dL_law_3 rfl ?_
  have hPc := hP.sub (ws' := [(q1, .inr (5, [.null, .null, .null, .null, .null, .null, .null, .null]))]) [0] rfl
  have hDc := hD.sub (ws' := [(q1, .inr (5, [.null, .null, .null, .null, .null, .null, .null, .null]))]) [0] (by decide +kernel) rfl
  have hFc := va_free (wc := [(q1, .inr (5, [.null, .null, .null, .null, .null, .null, .null, .null]))]) hD hS hA [0] rfl
  refine va_callv (va_runI (As := []) (rest := [.ref q1]) ⟨hx, hb, hml, hown, hts⟩ (kx_init l D cI cZ cB cJ cR q1 (H.size)) (cwI 0 hts gq_X5_init rfl rfl rfl (hts (.initialized RX5) (by decide +kernel)) (hts (.methodLink RL 9 yX5_init) (by decide +kernel)) (hts (.instanceMethod yX5_init) (by decide +kernel)) rfl (by decide +kernel) ⟨Nat.le_of_ble_eq_true rfl, Nat.le_of_ble_eq_true rfl⟩) ⟨fbQ, pQ_at hPc hk hDc⟩ rfl rfl hl.1 rfl (lv_room (Nat.le_of_ble_eq_true rfl)) dL_law_4 ⟨show 79 ≤ 600000 by decide, show 3756 ≤ 7302250 by decide⟩) hS (fun q _ h => hFc q h) hFc (fun u3 t H1 locs ht hvm hw hB hz1 hk1 hS => ?_)
  obtain ⟨hP1, hD1⟩ := hB
  rw [ht] at hP1
  obtain ⟨hP, hD⟩ := va_join (wr := []) (w1 := [(q1, .inr (5, [.ref (u3 0 0), .ref (u3 0 1), .ref (u3 0 2), .ref (u3 0 3), .ref (u3 0 4), .ref (u3 0 5), .ref (u3 0 6), .ref (u3 0 7)])), (u3 0 0, .inr (4, [.ref (u3 6 0), .int 0, .int 0, .int (-1), .int 0, .int 0, .int 0, .int 0])), (u3 6 0, .inl (cB, 1200, .inl (fun _ => 0))), (u3 0 1, .inr (3, [.ref (u3 7 0), .ref (u3 7 1), .ref (u3 7 2), .ref (u3 7 3)])), (u3 7 0, .inl (cZ, 4, .inl (fun _ => 0))), (u3 7 1, .inl (cI, 4, .inl (fun _ => 0))), (u3 7 2, .inl (cI, 4, .inl (fun _ => 0))), (u3 7 3, .inl (cJ, 240, .inr (.inl (fun _ => 0)))), (u3 0 2, .inr (2, [.int 0, .int 0, .int 0, .int 0, .ref (u3 9 4), .ref (u3 9 5), .ref (u3 9 6), .ref (u3 9 7), .ref (u3 9 8), .int 0, .int 0, .int 0, .int 0, .int 0, .ref (u3 9 14), .int 0, .ref (u3 9 16), .ref (u3 9 17)])), (u3 0 4, .inl (cR, 3, .inr (.inr (.inr (.inr (va_up (va_up (va_up (fun _ => none) (Int32.toNatClampNeg 0) (some (u3 8 0))) (Int32.toNatClampNeg 1) (some (u3 8 1))) (Int32.toNatClampNeg 2) (some (u3 8 2)))))))), (u3 0 5, .inl (cZ, 3, .inl (fun _ => 0))), (u3 0 6, .inr (0, [.ref (u3 1 0), .int 0, .int 0, .int 0, .ref (u3 1 4), .ref (u3 1 5), .ref (u3 1 6), .ref (u3 1 7), .ref (u3 1 8), .int 0, .ref (u3 1 10), .ref (u3 1 11), .ref (u3 1 12), .ref (u3 1 13)])), (u3 1 0, .inl (cI, 7, .inl (fun _ => 0))), (u3 1 4, .inl (cI, 7, .inl (fun _ => 0))), (u3 1 5, .inl (cI, 7, .inl (fun _ => 0))), (u3 1 6, .inl (cI, 84, .inl (fun _ => 0))), (u3 1 7, .inl (cI, 7, .inl (fun _ => 0))), (u3 1 10, .inl (cI, 40, .inl (fun _ => 0))), (u3 1 11, .inl (cI, 40, .inl (fun _ => 0))), (u3 1 12, .inl (cI, 40, .inl (fun _ => 0))), (u3 1 13, .inl (cI, 40, .inl (fun _ => 0))), (u3 0 7, .inr (0, [.ref (u3 2 0), .int 0, .int 0, .int 0, .ref (u3 2 4), .ref (u3 2 5), .ref (u3 2 6), .ref (u3 2 7), .ref (u3 2 8), .int 0, .ref (u3 2 10), .ref (u3 2 11), .ref (u3 2 12), .ref (u3 2 13)])), (u3 2 0, .inl (cI, 7, .inl (fun _ => 0))), (u3 8 0, .inr (0, [.ref (u3 3 0), .int 0, .int 0, .int 0, .ref (u3 3 4), .ref (u3 3 5), .ref (u3 3 6), .ref (u3 3 7), .ref (u3 3 8), .int 0, .ref (u3 3 10), .ref (u3 3 11), .ref (u3 3 12), .ref (u3 3 13)])), (u3 3 0, .inl (cI, 7, .inl (fun _ => 0))), (u3 3 4, .inl (cI, 7, .inl (fun _ => 0))), (u3 3 5, .inl (cI, 7, .inl (fun _ => 0))), (u3 3 6, .inl (cI, 84, .inl (fun _ => 0))), (u3 3 7, .inl (cI, 7, .inl (fun _ => 0))), (u3 3 10, .inl (cI, 40, .inl (fun _ => 0))), (u3 3 11, .inl (cI, 40, .inl (fun _ => 0))), (u3 3 12, .inl (cI, 40, .inl (fun _ => 0))), (u3 3 13, .inl (cI, 40, .inl (fun _ => 0))), (u3 8 1, .inr (0, [.ref (u3 4 0), .int 0, .int 0, .int 0, .ref (u3 4 4), .ref (u3 4 5), .ref (u3 4 6), .ref (u3 4 7), .ref (u3 4 8), .int 0, .ref (u3 4 10), .ref (u3 4 11), .ref (u3 4 12), .ref (u3 4 13)])), (u3 4 0, .inl (cI, 7, .inl (fun _ => 0))), (u3 4 4, .inl (cI, 7, .inl (fun _ => 0))), (u3 4 5, .inl (cI, 7, .inl (fun _ => 0))), (u3 4 6, .inl (cI, 84, .inl (fun _ => 0))), (u3 4 7, .inl (cI, 7, .inl (fun _ => 0))), (u3 4 10, .inl (cI, 40, .inl (fun _ => 0))), (u3 4 11, .inl (cI, 40, .inl (fun _ => 0))), (u3 4 12, .inl (cI, 40, .inl (fun _ => 0))), (u3 4 13, .inl (cI, 40, .inl (fun _ => 0))), (u3 8 2, .inr (0, [.ref (u3 5 0), .int 0, .int 0, .int 0, .ref (u3 5 4), .ref (u3 5 5), .ref (u3 5 6), .ref (u3 5 7), .ref (u3 5 8), .int 0, .ref (u3 5 10), .ref (u3 5 11), .ref (u3 5 12), .ref (u3 5 13)])), (u3 5 0, .inl (cI, 7, .inl (fun _ => 0))), (u3 5 4, .inl (cI, 7, .inl (fun _ => 0))), (u3 5 5, .inl (cI, 7, .inl (fun _ => 0))), (u3 5 6, .inl (cI, 84, .inl (fun _ => 0))), (u3 5 7, .inl (cI, 7, .inl (fun _ => 0))), (u3 5 10, .inl (cI, 40, .inl (fun _ => 0))), (u3 5 11, .inl (cI, 40, .inl (fun _ => 0))), (u3 5 12, .inl (cI, 40, .inl (fun _ => 0))), (u3 5 13, .inl (cI, 40, .inl (fun _ => 0)))]) hP hD [0] [] rfl rfl (by decide +kernel) (by decide +kernel) hk1 hFc hP1 hD1
  generalize H1 = H at hP hS ⊢
  have hP : va_P D vwCl [(q1, .inr (5, [.ref (u3 0 0), .ref (u3 0 1), .ref (u3 0 2), .ref (u3 0 3), .ref (u3 0 4), .ref (u3 0 5), .ref (u3 0 6), .ref (u3 0 7)])), (u3 0 0, .inr (4, [.ref (u3 6 0), .int 0, .int 0, .int (-1), .int 0, .int 0, .int 0, .int 0])), (u3 6 0, .inl (cB, 1200, .inl (fun _ => 0))), (u3 0 1, .inr (3, [.ref (u3 7 0), .ref (u3 7 1), .ref (u3 7 2), .ref (u3 7 3)])), (u3 7 0, .inl (cZ, 4, .inl (fun _ => 0))), (u3 7 1, .inl (cI, 4, .inl (fun _ => 0))), (u3 7 2, .inl (cI, 4, .inl (fun _ => 0))), (u3 7 3, .inl (cJ, 240, .inr (.inl (fun _ => 0)))), (u3 0 2, .inr (2, [.int 0, .int 0, .int 0, .int 0, .ref (u3 9 4), .ref (u3 9 5), .ref (u3 9 6), .ref (u3 9 7), .ref (u3 9 8), .int 0, .int 0, .int 0, .int 0, .int 0, .ref (u3 9 14), .int 0, .ref (u3 9 16), .ref (u3 9 17)])), (u3 0 4, .inl (cR, 3, .inr (.inr (.inr (.inr (va_up (va_up (va_up (fun _ => none) (Int32.toNatClampNeg 0) (some (u3 8 0))) (Int32.toNatClampNeg 1) (some (u3 8 1))) (Int32.toNatClampNeg 2) (some (u3 8 2)))))))), (u3 0 5, .inl (cZ, 3, .inl (fun _ => 0))), (u3 0 6, .inr (0, [.ref (u3 1 0), .int 0, .int 0, .int 0, .ref (u3 1 4), .ref (u3 1 5), .ref (u3 1 6), .ref (u3 1 7), .ref (u3 1 8), .int 0, .ref (u3 1 10), .ref (u3 1 11), .ref (u3 1 12), .ref (u3 1 13)])), (u3 1 0, .inl (cI, 7, .inl (fun _ => 0))), (u3 1 4, .inl (cI, 7, .inl (fun _ => 0))), (u3 1 5, .inl (cI, 7, .inl (fun _ => 0))), (u3 1 6, .inl (cI, 84, .inl (fun _ => 0))), (u3 1 7, .inl (cI, 7, .inl (fun _ => 0))), (u3 1 10, .inl (cI, 40, .inl (fun _ => 0))), (u3 1 11, .inl (cI, 40, .inl (fun _ => 0))), (u3 1 12, .inl (cI, 40, .inl (fun _ => 0))), (u3 1 13, .inl (cI, 40, .inl (fun _ => 0))), (u3 0 7, .inr (0, [.ref (u3 2 0), .int 0, .int 0, .int 0, .ref (u3 2 4), .ref (u3 2 5), .ref (u3 2 6), .ref (u3 2 7), .ref (u3 2 8), .int 0, .ref (u3 2 10), .ref (u3 2 11), .ref (u3 2 12), .ref (u3 2 13)])), (u3 2 0, .inl (cI, 7, .inl (fun _ => 0))), (u3 8 0, .inr (0, [.ref (u3 3 0), .int 0, .int 0, .int 0, .ref (u3 3 4), .ref (u3 3 5), .ref (u3 3 6), .ref (u3 3 7), .ref (u3 3 8), .int 0, .ref (u3 3 10), .ref (u3 3 11), .ref (u3 3 12), .ref (u3 3 13)])), (u3 3 0, .inl (cI, 7, .inl (fun _ => 0))), (u3 3 4, .inl (cI, 7, .inl (fun _ => 0))), (u3 3 5, .inl (cI, 7, .inl (fun _ => 0))), (u3 3 6, .inl (cI, 84, .inl (fun _ => 0))), (u3 3 7, .inl (cI, 7, .inl (fun _ => 0))), (u3 3 10, .inl (cI, 40, .inl (fun _ => 0))), (u3 3 11, .inl (cI, 40, .inl (fun _ => 0))), (u3 3 12, .inl (cI, 40, .inl (fun _ => 0))), (u3 3 13, .inl (cI, 40, .inl (fun _ => 0))), (u3 8 1, .inr (0, [.ref (u3 4 0), .int 0, .int 0, .int 0, .ref (u3 4 4), .ref (u3 4 5), .ref (u3 4 6), .ref (u3 4 7), .ref (u3 4 8), .int 0, .ref (u3 4 10), .ref (u3 4 11), .ref (u3 4 12), .ref (u3 4 13)])), (u3 4 0, .inl (cI, 7, .inl (fun _ => 0))), (u3 4 4, .inl (cI, 7, .inl (fun _ => 0))), (u3 4 5, .inl (cI, 7, .inl (fun _ => 0))), (u3 4 6, .inl (cI, 84, .inl (fun _ => 0))), (u3 4 7, .inl (cI, 7, .inl (fun _ => 0))), (u3 4 10, .inl (cI, 40, .inl (fun _ => 0))), (u3 4 11, .inl (cI, 40, .inl (fun _ => 0))), (u3 4 12, .inl (cI, 40, .inl (fun _ => 0))), (u3 4 13, .inl (cI, 40, .inl (fun _ => 0))), (u3 8 2, .inr (0, [.ref (u3 5 0), .int 0, .int 0, .int 0, .ref (u3 5 4), .ref (u3 5 5), .ref (u3 5 6), .ref (u3 5 7), .ref (u3 5 8), .int 0, .ref (u3 5 10), .ref (u3 5 11), .ref (u3 5 12), .ref (u3 5 13)])), (u3 5 0, .inl (cI, 7, .inl (fun _ => 0))), (u3 5 4, .inl (cI, 7, .inl (fun _ => 0))), (u3 5 5, .inl (cI, 7, .inl (fun _ => 0))), (u3 5 6, .inl (cI, 84, .inl (fun _ => 0))), (u3 5 7, .inl (cI, 7, .inl (fun _ => 0))), (u3 5 10, .inl (cI, 40, .inl (fun _ => 0))), (u3 5 11, .inl (cI, 40, .inl (fun _ => 0))), (u3 5 12, .inl (cI, 40, .inl (fun _ => 0))), (u3 5 13, .inl (cI, 40, .inl (fun _ => 0)))] H := hP
  have hD : va_D (fun q : Nat => s.heap.size ≤ q) [(q1, .inr (5, [.ref (u3 0 0), .ref (u3 0 1), .ref (u3 0 2), .ref (u3 0 3), .ref (u3 0 4), .ref (u3 0 5), .ref (u3 0 6), .ref (u3 0 7)])), (u3 0 0, .inr (4, [.ref (u3 6 0), .int 0, .int 0, .int (-1), .int 0, .int 0, .int 0, .int 0])), (u3 6 0, .inl (cB, 1200, .inl (fun _ => 0))), (u3 0 1, .inr (3, [.ref (u3 7 0), .ref (u3 7 1), .ref (u3 7 2), .ref (u3 7 3)])), (u3 7 0, .inl (cZ, 4, .inl (fun _ => 0))), (u3 7 1, .inl (cI, 4, .inl (fun _ => 0))), (u3 7 2, .inl (cI, 4, .inl (fun _ => 0))), (u3 7 3, .inl (cJ, 240, .inr (.inl (fun _ => 0)))), (u3 0 2, .inr (2, [.int 0, .int 0, .int 0, .int 0, .ref (u3 9 4), .ref (u3 9 5), .ref (u3 9 6), .ref (u3 9 7), .ref (u3 9 8), .int 0, .int 0, .int 0, .int 0, .int 0, .ref (u3 9 14), .int 0, .ref (u3 9 16), .ref (u3 9 17)])), (u3 0 4, .inl (cR, 3, .inr (.inr (.inr (.inr (va_up (va_up (va_up (fun _ => none) (Int32.toNatClampNeg 0) (some (u3 8 0))) (Int32.toNatClampNeg 1) (some (u3 8 1))) (Int32.toNatClampNeg 2) (some (u3 8 2)))))))), (u3 0 5, .inl (cZ, 3, .inl (fun _ => 0))), (u3 0 6, .inr (0, [.ref (u3 1 0), .int 0, .int 0, .int 0, .ref (u3 1 4), .ref (u3 1 5), .ref (u3 1 6), .ref (u3 1 7), .ref (u3 1 8), .int 0, .ref (u3 1 10), .ref (u3 1 11), .ref (u3 1 12), .ref (u3 1 13)])), (u3 1 0, .inl (cI, 7, .inl (fun _ => 0))), (u3 1 4, .inl (cI, 7, .inl (fun _ => 0))), (u3 1 5, .inl (cI, 7, .inl (fun _ => 0))), (u3 1 6, .inl (cI, 84, .inl (fun _ => 0))), (u3 1 7, .inl (cI, 7, .inl (fun _ => 0))), (u3 1 10, .inl (cI, 40, .inl (fun _ => 0))), (u3 1 11, .inl (cI, 40, .inl (fun _ => 0))), (u3 1 12, .inl (cI, 40, .inl (fun _ => 0))), (u3 1 13, .inl (cI, 40, .inl (fun _ => 0))), (u3 0 7, .inr (0, [.ref (u3 2 0), .int 0, .int 0, .int 0, .ref (u3 2 4), .ref (u3 2 5), .ref (u3 2 6), .ref (u3 2 7), .ref (u3 2 8), .int 0, .ref (u3 2 10), .ref (u3 2 11), .ref (u3 2 12), .ref (u3 2 13)])), (u3 2 0, .inl (cI, 7, .inl (fun _ => 0))), (u3 8 0, .inr (0, [.ref (u3 3 0), .int 0, .int 0, .int 0, .ref (u3 3 4), .ref (u3 3 5), .ref (u3 3 6), .ref (u3 3 7), .ref (u3 3 8), .int 0, .ref (u3 3 10), .ref (u3 3 11), .ref (u3 3 12), .ref (u3 3 13)])), (u3 3 0, .inl (cI, 7, .inl (fun _ => 0))), (u3 3 4, .inl (cI, 7, .inl (fun _ => 0))), (u3 3 5, .inl (cI, 7, .inl (fun _ => 0))), (u3 3 6, .inl (cI, 84, .inl (fun _ => 0))), (u3 3 7, .inl (cI, 7, .inl (fun _ => 0))), (u3 3 10, .inl (cI, 40, .inl (fun _ => 0))), (u3 3 11, .inl (cI, 40, .inl (fun _ => 0))), (u3 3 12, .inl (cI, 40, .inl (fun _ => 0))), (u3 3 13, .inl (cI, 40, .inl (fun _ => 0))), (u3 8 1, .inr (0, [.ref (u3 4 0), .int 0, .int 0, .int 0, .ref (u3 4 4), .ref (u3 4 5), .ref (u3 4 6), .ref (u3 4 7), .ref (u3 4 8), .int 0, .ref (u3 4 10), .ref (u3 4 11), .ref (u3 4 12), .ref (u3 4 13)])), (u3 4 0, .inl (cI, 7, .inl (fun _ => 0))), (u3 4 4, .inl (cI, 7, .inl (fun _ => 0))), (u3 4 5, .inl (cI, 7, .inl (fun _ => 0))), (u3 4 6, .inl (cI, 84, .inl (fun _ => 0))), (u3 4 7, .inl (cI, 7, .inl (fun _ => 0))), (u3 4 10, .inl (cI, 40, .inl (fun _ => 0))), (u3 4 11, .inl (cI, 40, .inl (fun _ => 0))), (u3 4 12, .inl (cI, 40, .inl (fun _ => 0))), (u3 4 13, .inl (cI, 40, .inl (fun _ => 0))), (u3 8 2, .inr (0, [.ref (u3 5 0), .int 0, .int 0, .int 0, .ref (u3 5 4), .ref (u3 5 5), .ref (u3 5 6), .ref (u3 5 7), .ref (u3 5 8), .int 0, .ref (u3 5 10), .ref (u3 5 11), .ref (u3 5 12), .ref (u3 5 13)])), (u3 5 0, .inl (cI, 7, .inl (fun _ => 0))), (u3 5 4, .inl (cI, 7, .inl (fun _ => 0))), (u3 5 5, .inl (cI, 7, .inl (fun _ => 0))), (u3 5 6, .inl (cI, 84, .inl (fun _ => 0))), (u3 5 7, .inl (cI, 7, .inl (fun _ => 0))), (u3 5 10, .inl (cI, 40, .inl (fun _ => 0))), (u3 5 11, .inl (cI, 40, .inl (fun _ => 0))), (u3 5 12, .inl (cI, 40, .inl (fun _ => 0))), (u3 5 13, .inl (cI, 40, .inl (fun _ => 0)))] := hD
  refine W.widen (k := 79) (n := 3756) (show 79 ≤ 79 by decide) (show 3756 ≤ 3756 by decide) ?_
  refine lv_astore_n (lv' := [(1, .ref q1), (0, .ref b)]) hx hb dL_law_7 rfl hl (by decide) rfl (fun ls hl => ?_)
  refine va_new (ci := 6) (fs := [.int 0, .null, .null, .null, .null, .null, .int 0, .int 0, .int 0, .int 0, .int 0, .long 0, .int 0, .int 0, .int 0, .int 0, .null, .null, .null, .null, .null, .null, .null, .null, .null, .int 0, .int 0, .int 0, .int 0, .int 0, .null, .null, .null, .null, .int 0, .int 0]) (C := RX6) (T := TX6) (N := 36) hx hb hts hi6 tyX6 tyX6_ok hown (hts (.classLink RL 10 RX6) (by decide +kernel)) (hts (.instantiable RX6 36) (by decide +kernel)) (hts (.initialized RX6) (by decide +kernel)) hK hP hD hS hA rfl (newf6) (show 80 ≤ 600000 by decide) (show 3792 ≤ 7302250 by decide) dL_law_8 (fun q4 H hP hD hS => ?_)
  have hP : va_P D vwCl [(q1, .inr (5, [.ref (u3 0 0), .ref (u3 0 1), .ref (u3 0 2), .ref (u3 0 3), .ref (u3 0 4), .ref (u3 0 5), .ref (u3 0 6), .ref (u3 0 7)])), (u3 0 0, .inr (4, [.ref (u3 6 0), .int 0, .int 0, .int (-1), .int 0, .int 0, .int 0, .int 0])), (u3 6 0, .inl (cB, 1200, .inl (fun _ => 0))), (u3 0 1, .inr (3, [.ref (u3 7 0), .ref (u3 7 1), .ref (u3 7 2), .ref (u3 7 3)])), (u3 7 0, .inl (cZ, 4, .inl (fun _ => 0))), (u3 7 1, .inl (cI, 4, .inl (fun _ => 0))), (u3 7 2, .inl (cI, 4, .inl (fun _ => 0))), (u3 7 3, .inl (cJ, 240, .inr (.inl (fun _ => 0)))), (u3 0 2, .inr (2, [.int 0, .int 0, .int 0, .int 0, .ref (u3 9 4), .ref (u3 9 5), .ref (u3 9 6), .ref (u3 9 7), .ref (u3 9 8), .int 0, .int 0, .int 0, .int 0, .int 0, .ref (u3 9 14), .int 0, .ref (u3 9 16), .ref (u3 9 17)])), (u3 0 4, .inl (cR, 3, .inr (.inr (.inr (.inr (va_up (va_up (va_up (fun _ => none) (Int32.toNatClampNeg 0) (some (u3 8 0))) (Int32.toNatClampNeg 1) (some (u3 8 1))) (Int32.toNatClampNeg 2) (some (u3 8 2)))))))), (u3 0 5, .inl (cZ, 3, .inl (fun _ => 0))), (u3 0 6, .inr (0, [.ref (u3 1 0), .int 0, .int 0, .int 0, .ref (u3 1 4), .ref (u3 1 5), .ref (u3 1 6), .ref (u3 1 7), .ref (u3 1 8), .int 0, .ref (u3 1 10), .ref (u3 1 11), .ref (u3 1 12), .ref (u3 1 13)])), (u3 1 0, .inl (cI, 7, .inl (fun _ => 0))), (u3 1 4, .inl (cI, 7, .inl (fun _ => 0))), (u3 1 5, .inl (cI, 7, .inl (fun _ => 0))), (u3 1 6, .inl (cI, 84, .inl (fun _ => 0))), (u3 1 7, .inl (cI, 7, .inl (fun _ => 0))), (u3 1 10, .inl (cI, 40, .inl (fun _ => 0))), (u3 1 11, .inl (cI, 40, .inl (fun _ => 0))), (u3 1 12, .inl (cI, 40, .inl (fun _ => 0))), (u3 1 13, .inl (cI, 40, .inl (fun _ => 0))), (u3 0 7, .inr (0, [.ref (u3 2 0), .int 0, .int 0, .int 0, .ref (u3 2 4), .ref (u3 2 5), .ref (u3 2 6), .ref (u3 2 7), .ref (u3 2 8), .int 0, .ref (u3 2 10), .ref (u3 2 11), .ref (u3 2 12), .ref (u3 2 13)])), (u3 2 0, .inl (cI, 7, .inl (fun _ => 0))), (u3 8 0, .inr (0, [.ref (u3 3 0), .int 0, .int 0, .int 0, .ref (u3 3 4), .ref (u3 3 5), .ref (u3 3 6), .ref (u3 3 7), .ref (u3 3 8), .int 0, .ref (u3 3 10), .ref (u3 3 11), .ref (u3 3 12), .ref (u3 3 13)])), (u3 3 0, .inl (cI, 7, .inl (fun _ => 0))), (u3 3 4, .inl (cI, 7, .inl (fun _ => 0))), (u3 3 5, .inl (cI, 7, .inl (fun _ => 0))), (u3 3 6, .inl (cI, 84, .inl (fun _ => 0))), (u3 3 7, .inl (cI, 7, .inl (fun _ => 0))), (u3 3 10, .inl (cI, 40, .inl (fun _ => 0))), (u3 3 11, .inl (cI, 40, .inl (fun _ => 0))), (u3 3 12, .inl (cI, 40, .inl (fun _ => 0))), (u3 3 13, .inl (cI, 40, .inl (fun _ => 0))), (u3 8 1, .inr (0, [.ref (u3 4 0), .int 0, .int 0, .int 0, .ref (u3 4 4), .ref (u3 4 5), .ref (u3 4 6), .ref (u3 4 7), .ref (u3 4 8), .int 0, .ref (u3 4 10), .ref (u3 4 11), .ref (u3 4 12), .ref (u3 4 13)])), (u3 4 0, .inl (cI, 7, .inl (fun _ => 0))), (u3 4 4, .inl (cI, 7, .inl (fun _ => 0))), (u3 4 5, .inl (cI, 7, .inl (fun _ => 0))), (u3 4 6, .inl (cI, 84, .inl (fun _ => 0))), (u3 4 7, .inl (cI, 7, .inl (fun _ => 0))), (u3 4 10, .inl (cI, 40, .inl (fun _ => 0))), (u3 4 11, .inl (cI, 40, .inl (fun _ => 0))), (u3 4 12, .inl (cI, 40, .inl (fun _ => 0))), (u3 4 13, .inl (cI, 40, .inl (fun _ => 0))), (u3 8 2, .inr (0, [.ref (u3 5 0), .int 0, .int 0, .int 0, .ref (u3 5 4), .ref (u3 5 5), .ref (u3 5 6), .ref (u3 5 7), .ref (u3 5 8), .int 0, .ref (u3 5 10), .ref (u3 5 11), .ref (u3 5 12), .ref (u3 5 13)])), (u3 5 0, .inl (cI, 7, .inl (fun _ => 0))), (u3 5 4, .inl (cI, 7, .inl (fun _ => 0))), (u3 5 5, .inl (cI, 7, .inl (fun _ => 0))), (u3 5 6, .inl (cI, 84, .inl (fun _ => 0))), (u3 5 7, .inl (cI, 7, .inl (fun _ => 0))), (u3 5 10, .inl (cI, 40, .inl (fun _ => 0))), (u3 5 11, .inl (cI, 40, .inl (fun _ => 0))), (u3 5 12, .inl (cI, 40, .inl (fun _ => 0))), (u3 5 13, .inl (cI, 40, .inl (fun _ => 0))), (q4, .inr (6, [.int 0, .null, .null, .null, .null, .null, .int 0, .int 0, .int 0, .int 0, .int 0, .long 0, .int 0, .int 0, .int 0, .int 0, .null, .null, .null, .null, .null, .null, .null, .null, .null, .int 0, .int 0, .int 0, .int 0, .int 0, .null, .null, .null, .null, .int 0, .int 0]))] H := hP
  have hD : va_D (fun q : Nat => s.heap.size ≤ q) [(q1, .inr (5, [.ref (u3 0 0), .ref (u3 0 1), .ref (u3 0 2), .ref (u3 0 3), .ref (u3 0 4), .ref (u3 0 5), .ref (u3 0 6), .ref (u3 0 7)])), (u3 0 0, .inr (4, [.ref (u3 6 0), .int 0, .int 0, .int (-1), .int 0, .int 0, .int 0, .int 0])), (u3 6 0, .inl (cB, 1200, .inl (fun _ => 0))), (u3 0 1, .inr (3, [.ref (u3 7 0), .ref (u3 7 1), .ref (u3 7 2), .ref (u3 7 3)])), (u3 7 0, .inl (cZ, 4, .inl (fun _ => 0))), (u3 7 1, .inl (cI, 4, .inl (fun _ => 0))), (u3 7 2, .inl (cI, 4, .inl (fun _ => 0))), (u3 7 3, .inl (cJ, 240, .inr (.inl (fun _ => 0)))), (u3 0 2, .inr (2, [.int 0, .int 0, .int 0, .int 0, .ref (u3 9 4), .ref (u3 9 5), .ref (u3 9 6), .ref (u3 9 7), .ref (u3 9 8), .int 0, .int 0, .int 0, .int 0, .int 0, .ref (u3 9 14), .int 0, .ref (u3 9 16), .ref (u3 9 17)])), (u3 0 4, .inl (cR, 3, .inr (.inr (.inr (.inr (va_up (va_up (va_up (fun _ => none) (Int32.toNatClampNeg 0) (some (u3 8 0))) (Int32.toNatClampNeg 1) (some (u3 8 1))) (Int32.toNatClampNeg 2) (some (u3 8 2)))))))), (u3 0 5, .inl (cZ, 3, .inl (fun _ => 0))), (u3 0 6, .inr (0, [.ref (u3 1 0), .int 0, .int 0, .int 0, .ref (u3 1 4), .ref (u3 1 5), .ref (u3 1 6), .ref (u3 1 7), .ref (u3 1 8), .int 0, .ref (u3 1 10), .ref (u3 1 11), .ref (u3 1 12), .ref (u3 1 13)])), (u3 1 0, .inl (cI, 7, .inl (fun _ => 0))), (u3 1 4, .inl (cI, 7, .inl (fun _ => 0))), (u3 1 5, .inl (cI, 7, .inl (fun _ => 0))), (u3 1 6, .inl (cI, 84, .inl (fun _ => 0))), (u3 1 7, .inl (cI, 7, .inl (fun _ => 0))), (u3 1 10, .inl (cI, 40, .inl (fun _ => 0))), (u3 1 11, .inl (cI, 40, .inl (fun _ => 0))), (u3 1 12, .inl (cI, 40, .inl (fun _ => 0))), (u3 1 13, .inl (cI, 40, .inl (fun _ => 0))), (u3 0 7, .inr (0, [.ref (u3 2 0), .int 0, .int 0, .int 0, .ref (u3 2 4), .ref (u3 2 5), .ref (u3 2 6), .ref (u3 2 7), .ref (u3 2 8), .int 0, .ref (u3 2 10), .ref (u3 2 11), .ref (u3 2 12), .ref (u3 2 13)])), (u3 2 0, .inl (cI, 7, .inl (fun _ => 0))), (u3 8 0, .inr (0, [.ref (u3 3 0), .int 0, .int 0, .int 0, .ref (u3 3 4), .ref (u3 3 5), .ref (u3 3 6), .ref (u3 3 7), .ref (u3 3 8), .int 0, .ref (u3 3 10), .ref (u3 3 11), .ref (u3 3 12), .ref (u3 3 13)])), (u3 3 0, .inl (cI, 7, .inl (fun _ => 0))), (u3 3 4, .inl (cI, 7, .inl (fun _ => 0))), (u3 3 5, .inl (cI, 7, .inl (fun _ => 0))), (u3 3 6, .inl (cI, 84, .inl (fun _ => 0))), (u3 3 7, .inl (cI, 7, .inl (fun _ => 0))), (u3 3 10, .inl (cI, 40, .inl (fun _ => 0))), (u3 3 11, .inl (cI, 40, .inl (fun _ => 0))), (u3 3 12, .inl (cI, 40, .inl (fun _ => 0))), (u3 3 13, .inl (cI, 40, .inl (fun _ => 0))), (u3 8 1, .inr (0, [.ref (u3 4 0), .int 0, .int 0, .int 0, .ref (u3 4 4), .ref (u3 4 5), .ref (u3 4 6), .ref (u3 4 7), .ref (u3 4 8), .int 0, .ref (u3 4 10), .ref (u3 4 11), .ref (u3 4 12), .ref (u3 4 13)])), (u3 4 0, .inl (cI, 7, .inl (fun _ => 0))), (u3 4 4, .inl (cI, 7, .inl (fun _ => 0))), (u3 4 5, .inl (cI, 7, .inl (fun _ => 0))), (u3 4 6, .inl (cI, 84, .inl (fun _ => 0))), (u3 4 7, .inl (cI, 7, .inl (fun _ => 0))), (u3 4 10, .inl (cI, 40, .inl (fun _ => 0))), (u3 4 11, .inl (cI, 40, .inl (fun _ => 0))), (u3 4 12, .inl (cI, 40, .inl (fun _ => 0))), (u3 4 13, .inl (cI, 40, .inl (fun _ => 0))), (u3 8 2, .inr (0, [.ref (u3 5 0), .int 0, .int 0, .int 0, .ref (u3 5 4), .ref (u3 5 5), .ref (u3 5 6), .ref (u3 5 7), .ref (u3 5 8), .int 0, .ref (u3 5 10), .ref (u3 5 11), .ref (u3 5 12), .ref (u3 5 13)])), (u3 5 0, .inl (cI, 7, .inl (fun _ => 0))), (u3 5 4, .inl (cI, 7, .inl (fun _ => 0))), (u3 5 5, .inl (cI, 7, .inl (fun _ => 0))), (u3 5 6, .inl (cI, 84, .inl (fun _ => 0))), (u3 5 7, .inl (cI, 7, .inl (fun _ => 0))), (u3 5 10, .inl (cI, 40, .inl (fun _ => 0))), (u3 5 11, .inl (cI, 40, .inl (fun _ => 0))), (u3 5 12, .inl (cI, 40, .inl (fun _ => 0))), (u3 5 13, .inl (cI, 40, .inl (fun _ => 0))), (q4, .inr (6, [.int 0, .null, .null, .null, .null, .null, .int 0, .int 0, .int 0, .int 0, .int 0, .long 0, .int 0, .int 0, .int 0, .int 0, .null, .null, .null, .null, .null, .null, .null, .null, .null, .int 0, .int 0, .int 0, .int 0, .int 0, .null, .null, .null, .null, .int 0, .int 0]))] := hD
  refine W.widen (k := 80) (n := 3792) (show 80 ≤ 80 by decide) (show 3792 ≤ 3792 by decide) ?_
  refine lv_dup hx hb dL_law_11 rfl ?_
  have hPc := hP.sub (ws' := [(q4, .inr (6, [.int 0, .null, .null, .null, .null, .null, .int 0, .int 0, .int 0, .int 0, .int 0, .long 0, .int 0, .int 0, .int 0, .int 0, .null, .null, .null, .null, .null, .null, .null, .null, .null, .int 0, .int 0, .int 0, .int 0, .int 0, .null, .null, .null, .null, .int 0, .int 0]))]) [53] rfl
  have hDc := hD.sub (ws' := [(q4, .inr (6, [.int 0, .null, .null, .null, .null, .null, .int 0, .int 0, .int 0, .int 0, .int 0, .long 0, .int 0, .int 0, .int 0, .int 0, .null, .null, .null, .null, .null, .null, .null, .null, .null, .int 0, .int 0, .int 0, .int 0, .int 0, .null, .null, .null, .null, .int 0, .int 0]))]) [53] (by decide +kernel) rfl
  have hFc := va_free (wc := [(q4, .inr (6, [.int 0, .null, .null, .null, .null, .null, .int 0, .int 0, .int 0, .int 0, .int 0, .long 0, .int 0, .int 0, .int 0, .int 0, .null, .null, .null, .null, .null, .null, .null, .null, .null, .int 0, .int 0, .int 0, .int 0, .int 0, .null, .null, .null, .null, .int 0, .int 0]))]) hD hS hA [53] rfl
  refine va_callv (va_runI (As := []) (rest := [.ref q4]) ⟨hx, hb, hml, hown, hts⟩ (mx_init l D cI cZ cB cJ cR q4 (H.size)) (cwI 0 hts gq_X6_init rfl rfl rfl (hts (.initialized RX6) (by decide +kernel)) (hts (.methodLink RL 12 yX6_init) (by decide +kernel)) (hts (.instanceMethod yX6_init) (by decide +kernel)) rfl (by decide +kernel) ⟨Nat.le_of_ble_eq_true rfl, Nat.le_of_ble_eq_true rfl⟩) ⟨fbQ, pQ_at hPc hk hDc⟩ rfl rfl hl.1 rfl (lv_room (Nat.le_of_ble_eq_true rfl)) dL_law_12 ⟨show 98 ≤ 600000 by decide, show 7042 ≤ 7302250 by decide⟩) hS (fun q _ h => hFc q h) hFc (fun u6 t H1 locs ht hvm hw hB hz1 hk1 hS => ?_)
  obtain ⟨hP1, hD1⟩ := hB
  rw [ht] at hP1
  obtain ⟨hP, hD⟩ := va_join (wr := [(q1, .inr (5, [.ref (u3 0 0), .ref (u3 0 1), .ref (u3 0 2), .ref (u3 0 3), .ref (u3 0 4), .ref (u3 0 5), .ref (u3 0 6), .ref (u3 0 7)])), (u3 0 0, .inr (4, [.ref (u3 6 0), .int 0, .int 0, .int (-1), .int 0, .int 0, .int 0, .int 0])), (u3 6 0, .inl (cB, 1200, .inl (fun _ => 0))), (u3 0 1, .inr (3, [.ref (u3 7 0), .ref (u3 7 1), .ref (u3 7 2), .ref (u3 7 3)])), (u3 7 0, .inl (cZ, 4, .inl (fun _ => 0))), (u3 7 1, .inl (cI, 4, .inl (fun _ => 0))), (u3 7 2, .inl (cI, 4, .inl (fun _ => 0))), (u3 7 3, .inl (cJ, 240, .inr (.inl (fun _ => 0)))), (u3 0 2, .inr (2, [.int 0, .int 0, .int 0, .int 0, .ref (u3 9 4), .ref (u3 9 5), .ref (u3 9 6), .ref (u3 9 7), .ref (u3 9 8), .int 0, .int 0, .int 0, .int 0, .int 0, .ref (u3 9 14), .int 0, .ref (u3 9 16), .ref (u3 9 17)])), (u3 0 4, .inl (cR, 3, .inr (.inr (.inr (.inr (va_up (va_up (va_up (fun _ => none) (Int32.toNatClampNeg 0) (some (u3 8 0))) (Int32.toNatClampNeg 1) (some (u3 8 1))) (Int32.toNatClampNeg 2) (some (u3 8 2)))))))), (u3 0 5, .inl (cZ, 3, .inl (fun _ => 0))), (u3 0 6, .inr (0, [.ref (u3 1 0), .int 0, .int 0, .int 0, .ref (u3 1 4), .ref (u3 1 5), .ref (u3 1 6), .ref (u3 1 7), .ref (u3 1 8), .int 0, .ref (u3 1 10), .ref (u3 1 11), .ref (u3 1 12), .ref (u3 1 13)])), (u3 1 0, .inl (cI, 7, .inl (fun _ => 0))), (u3 1 4, .inl (cI, 7, .inl (fun _ => 0))), (u3 1 5, .inl (cI, 7, .inl (fun _ => 0))), (u3 1 6, .inl (cI, 84, .inl (fun _ => 0))), (u3 1 7, .inl (cI, 7, .inl (fun _ => 0))), (u3 1 10, .inl (cI, 40, .inl (fun _ => 0))), (u3 1 11, .inl (cI, 40, .inl (fun _ => 0))), (u3 1 12, .inl (cI, 40, .inl (fun _ => 0))), (u3 1 13, .inl (cI, 40, .inl (fun _ => 0))), (u3 0 7, .inr (0, [.ref (u3 2 0), .int 0, .int 0, .int 0, .ref (u3 2 4), .ref (u3 2 5), .ref (u3 2 6), .ref (u3 2 7), .ref (u3 2 8), .int 0, .ref (u3 2 10), .ref (u3 2 11), .ref (u3 2 12), .ref (u3 2 13)])), (u3 2 0, .inl (cI, 7, .inl (fun _ => 0))), (u3 8 0, .inr (0, [.ref (u3 3 0), .int 0, .int 0, .int 0, .ref (u3 3 4), .ref (u3 3 5), .ref (u3 3 6), .ref (u3 3 7), .ref (u3 3 8), .int 0, .ref (u3 3 10), .ref (u3 3 11), .ref (u3 3 12), .ref (u3 3 13)])), (u3 3 0, .inl (cI, 7, .inl (fun _ => 0))), (u3 3 4, .inl (cI, 7, .inl (fun _ => 0))), (u3 3 5, .inl (cI, 7, .inl (fun _ => 0))), (u3 3 6, .inl (cI, 84, .inl (fun _ => 0))), (u3 3 7, .inl (cI, 7, .inl (fun _ => 0))), (u3 3 10, .inl (cI, 40, .inl (fun _ => 0))), (u3 3 11, .inl (cI, 40, .inl (fun _ => 0))), (u3 3 12, .inl (cI, 40, .inl (fun _ => 0))), (u3 3 13, .inl (cI, 40, .inl (fun _ => 0))), (u3 8 1, .inr (0, [.ref (u3 4 0), .int 0, .int 0, .int 0, .ref (u3 4 4), .ref (u3 4 5), .ref (u3 4 6), .ref (u3 4 7), .ref (u3 4 8), .int 0, .ref (u3 4 10), .ref (u3 4 11), .ref (u3 4 12), .ref (u3 4 13)])), (u3 4 0, .inl (cI, 7, .inl (fun _ => 0))), (u3 4 4, .inl (cI, 7, .inl (fun _ => 0))), (u3 4 5, .inl (cI, 7, .inl (fun _ => 0))), (u3 4 6, .inl (cI, 84, .inl (fun _ => 0))), (u3 4 7, .inl (cI, 7, .inl (fun _ => 0))), (u3 4 10, .inl (cI, 40, .inl (fun _ => 0))), (u3 4 11, .inl (cI, 40, .inl (fun _ => 0))), (u3 4 12, .inl (cI, 40, .inl (fun _ => 0))), (u3 4 13, .inl (cI, 40, .inl (fun _ => 0))), (u3 8 2, .inr (0, [.ref (u3 5 0), .int 0, .int 0, .int 0, .ref (u3 5 4), .ref (u3 5 5), .ref (u3 5 6), .ref (u3 5 7), .ref (u3 5 8), .int 0, .ref (u3 5 10), .ref (u3 5 11), .ref (u3 5 12), .ref (u3 5 13)])), (u3 5 0, .inl (cI, 7, .inl (fun _ => 0))), (u3 5 4, .inl (cI, 7, .inl (fun _ => 0))), (u3 5 5, .inl (cI, 7, .inl (fun _ => 0))), (u3 5 6, .inl (cI, 84, .inl (fun _ => 0))), (u3 5 7, .inl (cI, 7, .inl (fun _ => 0))), (u3 5 10, .inl (cI, 40, .inl (fun _ => 0))), (u3 5 11, .inl (cI, 40, .inl (fun _ => 0))), (u3 5 12, .inl (cI, 40, .inl (fun _ => 0))), (u3 5 13, .inl (cI, 40, .inl (fun _ => 0)))]) (w1 := [(q4, .inr (6, [.int 0, .ref (u6 1), .ref (u6 2), .ref (u6 3), .ref (u6 4), .ref (u6 5), .int 0, .int 0, .int 0, .int 0, .int 0, .long 0, .int 0, .int 0, .int 0, .int (-1), .ref (u6 16), .ref (u6 17), .ref (u6 18), .ref (u6 19), .ref (u6 20), .ref (u6 21), .ref (u6 22), .ref (u6 23), .ref (u6 24), .int 0, .int 0, .int 0, .int 0, .int 0, .ref (u6 30), .ref (u6 31), .ref (u6 32), .ref (u6 33), .int 0, .int 0])), (u6 1, .inl (cI, 4, .inl (upd (upd (upd (upd (fun _ => 0) (Int32.toNatClampNeg 0) (-1)) (Int32.toNatClampNeg 1) (-1)) (Int32.toNatClampNeg 2) (-1)) (Int32.toNatClampNeg 3) (-1)))), (u6 2, .inl (cI, 4, .inl (fun _ => 0))), (u6 3, .inl (cJ, 240, .inr (.inl (fun _ => 0)))), (u6 5, .inl (cB, 1200, .inl (fun _ => 0))), (u6 16, .inl (cI, 5, .inl (fun _ => 0))), (u6 17, .inl (cI, 50, .inl (fun _ => 0))), (u6 18, .inl (cI, 70, .inl (fun _ => 0))), (u6 19, .inl (cI, 420, .inl (fun _ => 0))), (u6 20, .inl (cI, 800, .inl (fun _ => 0))), (u6 21, .inl (cZ, 3, .inl (fun _ => 0)))]) hP hD [53] [0, 1, 2, 3, 4, 5, 6, 7, 8, 9, 10, 11, 12, 13, 14, 15, 16, 17, 18, 19, 20, 21, 22, 23, 24, 25, 26, 27, 28, 29, 30, 31, 32, 33, 34, 35, 36, 37, 38, 39, 40, 41, 42, 43, 44, 45, 46, 47, 48, 49, 50, 51, 52] rfl rfl (by decide +kernel) (by decide +kernel) hk1 hFc hP1 hD1
  generalize H1 = H at hP hS ⊢
  have hP : va_P D vwCl [(q1, .inr (5, [.ref (u3 0 0), .ref (u3 0 1), .ref (u3 0 2), .ref (u3 0 3), .ref (u3 0 4), .ref (u3 0 5), .ref (u3 0 6), .ref (u3 0 7)])), (u3 0 0, .inr (4, [.ref (u3 6 0), .int 0, .int 0, .int (-1), .int 0, .int 0, .int 0, .int 0])), (u3 6 0, .inl (cB, 1200, .inl (fun _ => 0))), (u3 0 1, .inr (3, [.ref (u3 7 0), .ref (u3 7 1), .ref (u3 7 2), .ref (u3 7 3)])), (u3 7 0, .inl (cZ, 4, .inl (fun _ => 0))), (u3 7 1, .inl (cI, 4, .inl (fun _ => 0))), (u3 7 2, .inl (cI, 4, .inl (fun _ => 0))), (u3 7 3, .inl (cJ, 240, .inr (.inl (fun _ => 0)))), (u3 0 2, .inr (2, [.int 0, .int 0, .int 0, .int 0, .ref (u3 9 4), .ref (u3 9 5), .ref (u3 9 6), .ref (u3 9 7), .ref (u3 9 8), .int 0, .int 0, .int 0, .int 0, .int 0, .ref (u3 9 14), .int 0, .ref (u3 9 16), .ref (u3 9 17)])), (u3 0 4, .inl (cR, 3, .inr (.inr (.inr (.inr (va_up (va_up (va_up (fun _ => none) (Int32.toNatClampNeg 0) (some (u3 8 0))) (Int32.toNatClampNeg 1) (some (u3 8 1))) (Int32.toNatClampNeg 2) (some (u3 8 2)))))))), (u3 0 5, .inl (cZ, 3, .inl (fun _ => 0))), (u3 0 6, .inr (0, [.ref (u3 1 0), .int 0, .int 0, .int 0, .ref (u3 1 4), .ref (u3 1 5), .ref (u3 1 6), .ref (u3 1 7), .ref (u3 1 8), .int 0, .ref (u3 1 10), .ref (u3 1 11), .ref (u3 1 12), .ref (u3 1 13)])), (u3 1 0, .inl (cI, 7, .inl (fun _ => 0))), (u3 1 4, .inl (cI, 7, .inl (fun _ => 0))), (u3 1 5, .inl (cI, 7, .inl (fun _ => 0))), (u3 1 6, .inl (cI, 84, .inl (fun _ => 0))), (u3 1 7, .inl (cI, 7, .inl (fun _ => 0))), (u3 1 10, .inl (cI, 40, .inl (fun _ => 0))), (u3 1 11, .inl (cI, 40, .inl (fun _ => 0))), (u3 1 12, .inl (cI, 40, .inl (fun _ => 0))), (u3 1 13, .inl (cI, 40, .inl (fun _ => 0))), (u3 0 7, .inr (0, [.ref (u3 2 0), .int 0, .int 0, .int 0, .ref (u3 2 4), .ref (u3 2 5), .ref (u3 2 6), .ref (u3 2 7), .ref (u3 2 8), .int 0, .ref (u3 2 10), .ref (u3 2 11), .ref (u3 2 12), .ref (u3 2 13)])), (u3 2 0, .inl (cI, 7, .inl (fun _ => 0))), (u3 8 0, .inr (0, [.ref (u3 3 0), .int 0, .int 0, .int 0, .ref (u3 3 4), .ref (u3 3 5), .ref (u3 3 6), .ref (u3 3 7), .ref (u3 3 8), .int 0, .ref (u3 3 10), .ref (u3 3 11), .ref (u3 3 12), .ref (u3 3 13)])), (u3 3 0, .inl (cI, 7, .inl (fun _ => 0))), (u3 3 4, .inl (cI, 7, .inl (fun _ => 0))), (u3 3 5, .inl (cI, 7, .inl (fun _ => 0))), (u3 3 6, .inl (cI, 84, .inl (fun _ => 0))), (u3 3 7, .inl (cI, 7, .inl (fun _ => 0))), (u3 3 10, .inl (cI, 40, .inl (fun _ => 0))), (u3 3 11, .inl (cI, 40, .inl (fun _ => 0))), (u3 3 12, .inl (cI, 40, .inl (fun _ => 0))), (u3 3 13, .inl (cI, 40, .inl (fun _ => 0))), (u3 8 1, .inr (0, [.ref (u3 4 0), .int 0, .int 0, .int 0, .ref (u3 4 4), .ref (u3 4 5), .ref (u3 4 6), .ref (u3 4 7), .ref (u3 4 8), .int 0, .ref (u3 4 10), .ref (u3 4 11), .ref (u3 4 12), .ref (u3 4 13)])), (u3 4 0, .inl (cI, 7, .inl (fun _ => 0))), (u3 4 4, .inl (cI, 7, .inl (fun _ => 0))), (u3 4 5, .inl (cI, 7, .inl (fun _ => 0))), (u3 4 6, .inl (cI, 84, .inl (fun _ => 0))), (u3 4 7, .inl (cI, 7, .inl (fun _ => 0))), (u3 4 10, .inl (cI, 40, .inl (fun _ => 0))), (u3 4 11, .inl (cI, 40, .inl (fun _ => 0))), (u3 4 12, .inl (cI, 40, .inl (fun _ => 0))), (u3 4 13, .inl (cI, 40, .inl (fun _ => 0))), (u3 8 2, .inr (0, [.ref (u3 5 0), .int 0, .int 0, .int 0, .ref (u3 5 4), .ref (u3 5 5), .ref (u3 5 6), .ref (u3 5 7), .ref (u3 5 8), .int 0, .ref (u3 5 10), .ref (u3 5 11), .ref (u3 5 12), .ref (u3 5 13)])), (u3 5 0, .inl (cI, 7, .inl (fun _ => 0))), (u3 5 4, .inl (cI, 7, .inl (fun _ => 0))), (u3 5 5, .inl (cI, 7, .inl (fun _ => 0))), (u3 5 6, .inl (cI, 84, .inl (fun _ => 0))), (u3 5 7, .inl (cI, 7, .inl (fun _ => 0))), (u3 5 10, .inl (cI, 40, .inl (fun _ => 0))), (u3 5 11, .inl (cI, 40, .inl (fun _ => 0))), (u3 5 12, .inl (cI, 40, .inl (fun _ => 0))), (u3 5 13, .inl (cI, 40, .inl (fun _ => 0))), (q4, .inr (6, [.int 0, .ref (u6 1), .ref (u6 2), .ref (u6 3), .ref (u6 4), .ref (u6 5), .int 0, .int 0, .int 0, .int 0, .int 0, .long 0, .int 0, .int 0, .int 0, .int (-1), .ref (u6 16), .ref (u6 17), .ref (u6 18), .ref (u6 19), .ref (u6 20), .ref (u6 21), .ref (u6 22), .ref (u6 23), .ref (u6 24), .int 0, .int 0, .int 0, .int 0, .int 0, .ref (u6 30), .ref (u6 31), .ref (u6 32), .ref (u6 33), .int 0, .int 0])), (u6 1, .inl (cI, 4, .inl (upd (upd (upd (upd (fun _ => 0) (Int32.toNatClampNeg 0) (-1)) (Int32.toNatClampNeg 1) (-1)) (Int32.toNatClampNeg 2) (-1)) (Int32.toNatClampNeg 3) (-1)))), (u6 2, .inl (cI, 4, .inl (fun _ => 0))), (u6 3, .inl (cJ, 240, .inr (.inl (fun _ => 0)))), (u6 5, .inl (cB, 1200, .inl (fun _ => 0))), (u6 16, .inl (cI, 5, .inl (fun _ => 0))), (u6 17, .inl (cI, 50, .inl (fun _ => 0))), (u6 18, .inl (cI, 70, .inl (fun _ => 0))), (u6 19, .inl (cI, 420, .inl (fun _ => 0))), (u6 20, .inl (cI, 800, .inl (fun _ => 0))), (u6 21, .inl (cZ, 3, .inl (fun _ => 0)))] H := hP
  have hD : va_D (fun q : Nat => s.heap.size ≤ q) [(q1, .inr (5, [.ref (u3 0 0), .ref (u3 0 1), .ref (u3 0 2), .ref (u3 0 3), .ref (u3 0 4), .ref (u3 0 5), .ref (u3 0 6), .ref (u3 0 7)])), (u3 0 0, .inr (4, [.ref (u3 6 0), .int 0, .int 0, .int (-1), .int 0, .int 0, .int 0, .int 0])), (u3 6 0, .inl (cB, 1200, .inl (fun _ => 0))), (u3 0 1, .inr (3, [.ref (u3 7 0), .ref (u3 7 1), .ref (u3 7 2), .ref (u3 7 3)])), (u3 7 0, .inl (cZ, 4, .inl (fun _ => 0))), (u3 7 1, .inl (cI, 4, .inl (fun _ => 0))), (u3 7 2, .inl (cI, 4, .inl (fun _ => 0))), (u3 7 3, .inl (cJ, 240, .inr (.inl (fun _ => 0)))), (u3 0 2, .inr (2, [.int 0, .int 0, .int 0, .int 0, .ref (u3 9 4), .ref (u3 9 5), .ref (u3 9 6), .ref (u3 9 7), .ref (u3 9 8), .int 0, .int 0, .int 0, .int 0, .int 0, .ref (u3 9 14), .int 0, .ref (u3 9 16), .ref (u3 9 17)])), (u3 0 4, .inl (cR, 3, .inr (.inr (.inr (.inr (va_up (va_up (va_up (fun _ => none) (Int32.toNatClampNeg 0) (some (u3 8 0))) (Int32.toNatClampNeg 1) (some (u3 8 1))) (Int32.toNatClampNeg 2) (some (u3 8 2)))))))), (u3 0 5, .inl (cZ, 3, .inl (fun _ => 0))), (u3 0 6, .inr (0, [.ref (u3 1 0), .int 0, .int 0, .int 0, .ref (u3 1 4), .ref (u3 1 5), .ref (u3 1 6), .ref (u3 1 7), .ref (u3 1 8), .int 0, .ref (u3 1 10), .ref (u3 1 11), .ref (u3 1 12), .ref (u3 1 13)])), (u3 1 0, .inl (cI, 7, .inl (fun _ => 0))), (u3 1 4, .inl (cI, 7, .inl (fun _ => 0))), (u3 1 5, .inl (cI, 7, .inl (fun _ => 0))), (u3 1 6, .inl (cI, 84, .inl (fun _ => 0))), (u3 1 7, .inl (cI, 7, .inl (fun _ => 0))), (u3 1 10, .inl (cI, 40, .inl (fun _ => 0))), (u3 1 11, .inl (cI, 40, .inl (fun _ => 0))), (u3 1 12, .inl (cI, 40, .inl (fun _ => 0))), (u3 1 13, .inl (cI, 40, .inl (fun _ => 0))), (u3 0 7, .inr (0, [.ref (u3 2 0), .int 0, .int 0, .int 0, .ref (u3 2 4), .ref (u3 2 5), .ref (u3 2 6), .ref (u3 2 7), .ref (u3 2 8), .int 0, .ref (u3 2 10), .ref (u3 2 11), .ref (u3 2 12), .ref (u3 2 13)])), (u3 2 0, .inl (cI, 7, .inl (fun _ => 0))), (u3 8 0, .inr (0, [.ref (u3 3 0), .int 0, .int 0, .int 0, .ref (u3 3 4), .ref (u3 3 5), .ref (u3 3 6), .ref (u3 3 7), .ref (u3 3 8), .int 0, .ref (u3 3 10), .ref (u3 3 11), .ref (u3 3 12), .ref (u3 3 13)])), (u3 3 0, .inl (cI, 7, .inl (fun _ => 0))), (u3 3 4, .inl (cI, 7, .inl (fun _ => 0))), (u3 3 5, .inl (cI, 7, .inl (fun _ => 0))), (u3 3 6, .inl (cI, 84, .inl (fun _ => 0))), (u3 3 7, .inl (cI, 7, .inl (fun _ => 0))), (u3 3 10, .inl (cI, 40, .inl (fun _ => 0))), (u3 3 11, .inl (cI, 40, .inl (fun _ => 0))), (u3 3 12, .inl (cI, 40, .inl (fun _ => 0))), (u3 3 13, .inl (cI, 40, .inl (fun _ => 0))), (u3 8 1, .inr (0, [.ref (u3 4 0), .int 0, .int 0, .int 0, .ref (u3 4 4), .ref (u3 4 5), .ref (u3 4 6), .ref (u3 4 7), .ref (u3 4 8), .int 0, .ref (u3 4 10), .ref (u3 4 11), .ref (u3 4 12), .ref (u3 4 13)])), (u3 4 0, .inl (cI, 7, .inl (fun _ => 0))), (u3 4 4, .inl (cI, 7, .inl (fun _ => 0))), (u3 4 5, .inl (cI, 7, .inl (fun _ => 0))), (u3 4 6, .inl (cI, 84, .inl (fun _ => 0))), (u3 4 7, .inl (cI, 7, .inl (fun _ => 0))), (u3 4 10, .inl (cI, 40, .inl (fun _ => 0))), (u3 4 11, .inl (cI, 40, .inl (fun _ => 0))), (u3 4 12, .inl (cI, 40, .inl (fun _ => 0))), (u3 4 13, .inl (cI, 40, .inl (fun _ => 0))), (u3 8 2, .inr (0, [.ref (u3 5 0), .int 0, .int 0, .int 0, .ref (u3 5 4), .ref (u3 5 5), .ref (u3 5 6), .ref (u3 5 7), .ref (u3 5 8), .int 0, .ref (u3 5 10), .ref (u3 5 11), .ref (u3 5 12), .ref (u3 5 13)])), (u3 5 0, .inl (cI, 7, .inl (fun _ => 0))), (u3 5 4, .inl (cI, 7, .inl (fun _ => 0))), (u3 5 5, .inl (cI, 7, .inl (fun _ => 0))), (u3 5 6, .inl (cI, 84, .inl (fun _ => 0))), (u3 5 7, .inl (cI, 7, .inl (fun _ => 0))), (u3 5 10, .inl (cI, 40, .inl (fun _ => 0))), (u3 5 11, .inl (cI, 40, .inl (fun _ => 0))), (u3 5 12, .inl (cI, 40, .inl (fun _ => 0))), (u3 5 13, .inl (cI, 40, .inl (fun _ => 0))), (q4, .inr (6, [.int 0, .ref (u6 1), .ref (u6 2), .ref (u6 3), .ref (u6 4), .ref (u6 5), .int 0, .int 0, .int 0, .int 0, .int 0, .long 0, .int 0, .int 0, .int 0, .int (-1), .ref (u6 16), .ref (u6 17), .ref (u6 18), .ref (u6 19), .ref (u6 20), .ref (u6 21), .ref (u6 22), .ref (u6 23), .ref (u6 24), .int 0, .int 0, .int 0, .int 0, .int 0, .ref (u6 30), .ref (u6 31), .ref (u6 32), .ref (u6 33), .int 0, .int 0])), (u6 1, .inl (cI, 4, .inl (upd (upd (upd (upd (fun _ => 0) (Int32.toNatClampNeg 0) (-1)) (Int32.toNatClampNeg 1) (-1)) (Int32.toNatClampNeg 2) (-1)) (Int32.toNatClampNeg 3) (-1)))), (u6 2, .inl (cI, 4, .inl (fun _ => 0))), (u6 3, .inl (cJ, 240, .inr (.inl (fun _ => 0)))), (u6 5, .inl (cB, 1200, .inl (fun _ => 0))), (u6 16, .inl (cI, 5, .inl (fun _ => 0))), (u6 17, .inl (cI, 50, .inl (fun _ => 0))), (u6 18, .inl (cI, 70, .inl (fun _ => 0))), (u6 19, .inl (cI, 420, .inl (fun _ => 0))), (u6 20, .inl (cI, 800, .inl (fun _ => 0))), (u6 21, .inl (cZ, 3, .inl (fun _ => 0)))] := hD
  refine W.widen (k := 98) (n := 7042) (show 98 ≤ 98 by decide) (show 7042 ≤ 7042 by decide) ?_
  refine lv_astore_n (lv' := [(2, .ref q4), (1, .ref q1), (0, .ref b)]) hx hb dL_law_15 rfl hl (by decide) rfl (fun ls hl => ?_)
  refine lv_iconst (v := 0) hx hb dL_law_16 (by decide) ?_
  refine lv_istore_n (lv' := [(3, .int 0), (2, .ref q4), (1, .ref q1), (0, .ref b)]) hx hb dL_law_17 rfl hl (by decide) rfl (fun ls hl => ?_)
  have hl : lv_has ls 4 [(0, .ref b), (1, .ref q1), (2, .ref q4), (3, .int 0)] := lv_sub hl [3, 2, 1, 0] rfl
  have hP : va_P D vwCl (lwW cI cZ cB cJ cR q1 q4 u3 u6) H := hP.sub (ws' := lwW cI cZ cB cJ cR q1 q4 u3 u6) [0, 1, 2, 3, 4, 5, 6, 7, 8, 9, 10, 11, 12, 13, 14, 15, 16, 17, 18, 19, 20, 21, 22, 23, 24, 25, 26, 27, 28, 29, 30, 31, 32, 33, 34, 35, 36, 37, 38, 39, 40, 41, 42, 43, 44, 45, 46, 47, 48, 49, 50, 51, 52, 53, 54, 55, 56, 57, 58, 59, 60, 61, 62, 63] rfl
  have hD : va_D (fun q : Nat => s.heap.size ≤ q) (lwW cI cZ cB cJ cR q1 q4 u3 u6) := hD.sub (ws' := lwW cI cZ cB cJ cR q1 q4 u3 u6) [0, 1, 2, 3, 4, 5, 6, 7, 8, 9, 10, 11, 12, 13, 14, 15, 16, 17, 18, 19, 20, 21, 22, 23, 24, 25, 26, 27, 28, 29, 30, 31, 32, 33, 34, 35, 36, 37, 38, 39, 40, 41, 42, 43, 44, 45, 46, 47, 48, 49, 50, 51, 52, 53, 54, 55, 56, 57, 58, 59, 60, 61, 62, 63] (by decide +kernel) rfl
  refine lv_iload_n hx hb dL_law_18 rfl (lv_at hl 3 rfl) ?_
  refine lv_aload_n hx hb dL_law_19 rfl (lv_at hl 0 rfl) ?_
  refine va_slen hx hb hX hbl hbA hS dL_law_20 ?_
  refine lv_bipush (v := 6) hx hb dL_law_21 (by decide) ?_
  refine lv_isub hx hb dL_law_23 ?_
  refine lv_topi (fun w1 ew1 => ?_)
  rcases (show L = 6 ∨ L = 0 ∨ L = 1 ∨ L = 2 ∨ L = 3 ∨ L = 4 ∨ L = 5 by omega) with rfl | rfl | rfl | rfl | rfl | rfl | rfl
  · obtain rfl : w1 = 0 := ew1.trans (by decide)
    refine lv_icmp_gt (tgt := 2138) hx hb dL_law_24 (by decide) (fun c9 => absurd c9 (by decide)) (fun _ => ?_)
    refine lv_aload_n hx hb dL_law_27 rfl (lv_at hl 0 rfl) ?_
    refine lv_iload_n hx hb dL_law_28 rfl (lv_at hl 3 rfl) ?_
    refine va_sld hx hb hX hbl hbA hS (inC 0 6 (by decide)) dL_law_29 ?_
    refine lv_bipush (v := 127) hx hb dL_law_30 (by decide) ?_
    refine lv_iand hx hb dL_law_32 ?_
    refine lv_topi (fun w2 ew2 => ?_)
    obtain ⟨j, hj, ej⟩ := pk_andE (xs (Int32.toNatClampNeg 0)) (m := 127) 7 (by decide)
    have ej : w2 = nI j := ew2.trans ej
    rcases (show j = 0 ∨ j = 1 ∨ j = 2 ∨ j = 3 ∨ j = 4 ∨ j = 5 ∨ j = 6 ∨ j = 7 ∨ j = 8 ∨ j = 9 ∨ j = 10 ∨ j = 11 ∨ j = 12 ∨ j = 13 ∨ j = 14 ∨ j = 15 ∨ j = 16 ∨ j = 17 ∨ j = 18 ∨ j = 19 ∨ j = 20 ∨ j = 21 ∨ j = 22 ∨ j = 23 ∨ j = 24 ∨ j = 25 ∨ j = 26 ∨ j = 27 ∨ j = 28 ∨ j = 29 ∨ j = 30 ∨ j = 31 ∨ j = 32 ∨ j = 33 ∨ j = 34 ∨ j = 35 ∨ j = 36 ∨ j = 37 ∨ j = 38 ∨ j = 39 ∨ j = 40 ∨ j = 41 ∨ j = 42 ∨ j = 43 ∨ j = 44 ∨ j = 45 ∨ j = 46 ∨ j = 47 ∨ j = 48 ∨ j = 49 ∨ j = 50 ∨ j = 51 ∨ j = 52 ∨ j = 53 ∨ j = 54 ∨ j = 55 ∨ j = 56 ∨ j = 57 ∨ j = 58 ∨ j = 59 ∨ j = 60 ∨ j = 61 ∨ j = 62 ∨ j = 63 ∨ j = 64 ∨ j = 65 ∨ j = 66 ∨ j = 67 ∨ j = 68 ∨ (69 ≤ j ∧ j < 128) by omega) with rfl | rfl | rfl | rfl | rfl | rfl | rfl | rfl | rfl | rfl | rfl | rfl | rfl | rfl | rfl | rfl | rfl | rfl | rfl | rfl | rfl | rfl | rfl | rfl | rfl | rfl | rfl | rfl | rfl | rfl | rfl | rfl | rfl | rfl | rfl | rfl | rfl | rfl | rfl | rfl | rfl | rfl | rfl | rfl | rfl | rfl | rfl | rfl | rfl | rfl | rfl | rfl | rfl | rfl | rfl | rfl | rfl | rfl | rfl | rfl | rfl | rfl | rfl | rfl | rfl | rfl | rfl | rfl | rfl | h69
    · obtain rfl : w2 = 0 := ej
      exact lv_tableIn (tgt := 324) hx hb dL_law_33 (by decide) (by decide) rfl (by decide) (law_0 l C0 hk hP hD hS hl)
    · obtain rfl : w2 = 1 := ej
      exact lv_tableIn (tgt := 387) hx hb dL_law_33 (by decide) (by decide) rfl (by decide) (law_1 l C0 hk hP hD hS hl)
    · obtain rfl : w2 = 2 := ej
      exact lv_tableIn (tgt := 410) hx hb dL_law_33 (by decide) (by decide) rfl (by decide) (law_2 l C0 hk hP hD hS hl)
    · obtain rfl : w2 = 3 := ej
      exact lv_tableIn (tgt := 423) hx hb dL_law_33 (by decide) (by decide) rfl (by decide) (law_3 l C0 hk hP hD hS hl)
    · obtain rfl : w2 = 4 := ej
      exact lv_tableIn (tgt := 446) hx hb dL_law_33 (by decide) (by decide) rfl (by decide) (law_4 l C0 hk hP hD hS hl)
    · obtain rfl : w2 = 5 := ej
      exact lv_tableIn (tgt := 479) hx hb dL_law_33 (by decide) (by decide) rfl (by decide) (law_5 l C0 hk hP hD hS hl)
    · obtain rfl : w2 = 6 := ej
      exact lv_tableIn (tgt := 522) hx hb dL_law_33 (by decide) (by decide) rfl (by decide) (law_6 l C0 hk hP hD hS hl)
    · obtain rfl : w2 = 7 := ej
      exact lv_tableIn (tgt := 555) hx hb dL_law_33 (by decide) (by decide) rfl (by decide) (law_7 l C0 hk hP hD hS hl)
    · obtain rfl : w2 = 8 := ej
      exact lv_tableIn (tgt := 578) hx hb dL_law_33 (by decide) (by decide) rfl (by decide) (law_8 l C0 hk hP hD hS hl)
    · obtain rfl : w2 = 9 := ej
      exact lv_tableIn (tgt := 601) hx hb dL_law_33 (by decide) (by decide) rfl (by decide) (law_9 l C0 hk hP hD hS hl)
    · obtain rfl : w2 = 10 := ej
      exact lv_tableIn (tgt := 624) hx hb dL_law_33 (by decide) (by decide) rfl (by decide) (law_10 l C0 hk hP hD hS hl)
    · obtain rfl : w2 = 11 := ej
      exact lv_tableIn (tgt := 647) hx hb dL_law_33 (by decide) (by decide) rfl (by decide) (law_11 l C0 hk hP hD hS hl)
    · obtain rfl : w2 = 12 := ej
      exact lv_tableIn (tgt := 660) hx hb dL_law_33 (by decide) (by decide) rfl (by decide) (law_12 l C0 hk hP hD hS hl)
    · obtain rfl : w2 = 13 := ej
      exact lv_tableIn (tgt := 683) hx hb dL_law_33 (by decide) (by decide) rfl (by decide) (law_13 l C0 hk hP hD hS hl)
    · obtain rfl : w2 = 14 := ej
      exact lv_tableIn (tgt := 706) hx hb dL_law_33 (by decide) (by decide) rfl (by decide) (law_14 l C0 hk hP hD hS hl)
    · obtain rfl : w2 = 15 := ej
      exact lv_tableIn (tgt := 719) hx hb dL_law_33 (by decide) (by decide) rfl (by decide) (law_15 l C0 hk hP hD hS hl)
    · obtain rfl : w2 = 16 := ej
      exact lv_tableIn (tgt := 732) hx hb dL_law_33 (by decide) (by decide) rfl (by decide) (law_16 l C0 hk hP hD hS hl)
    · obtain rfl : w2 = 17 := ej
      exact lv_tableIn (tgt := 745) hx hb dL_law_33 (by decide) (by decide) rfl (by decide) (law_17 l C0 hk hP hD hS hl)
    · obtain rfl : w2 = 18 := ej
      exact lv_tableIn (tgt := 768) hx hb dL_law_33 (by decide) (by decide) rfl (by decide) (law_18 l C0 hk hP hD hS hl)
    · obtain rfl : w2 = 19 := ej
      exact lv_tableIn (tgt := 791) hx hb dL_law_33 (by decide) (by decide) rfl (by decide) (law_19 l C0 hk hP hD hS hl)
    · obtain rfl : w2 = 20 := ej
      exact lv_tableIn (tgt := 804) hx hb dL_law_33 (by decide) (by decide) rfl (by decide) (law_20 l C0 hk hP hD hS hl)
    · obtain rfl : w2 = 21 := ej
      exact lv_tableIn (tgt := 827) hx hb dL_law_33 (by decide) (by decide) rfl (by decide) (law_21 l C0 hk hP hD hS hl)
    · obtain rfl : w2 = 22 := ej
      exact lv_tableIn (tgt := 840) hx hb dL_law_33 (by decide) (by decide) rfl (by decide) (law_22 l C0 hk hP hD hS hl)
    · obtain rfl : w2 = 23 := ej
      exact lv_tableIn (tgt := 853) hx hb dL_law_33 (by decide) (by decide) rfl (by decide) (law_23 l C0 hk hP hD hS hl)
    · obtain rfl : w2 = 24 := ej
      exact lv_tableIn (tgt := 866) hx hb dL_law_33 (by decide) (by decide) rfl (by decide) (law_24 l C0 hk hP hD hS hl)
    · obtain rfl : w2 = 25 := ej
      exact lv_tableIn (tgt := 879) hx hb dL_law_33 (by decide) (by decide) rfl (by decide) (law_25 l C0 hk hP hD hS hl)
    · obtain rfl : w2 = 26 := ej
      exact lv_tableIn (tgt := 892) hx hb dL_law_33 (by decide) (by decide) rfl (by decide) (law_26 l C0 hk hP hD hS hl)
    · obtain rfl : w2 = 27 := ej
      exact lv_tableIn (tgt := 925) hx hb dL_law_33 (by decide) (by decide) rfl (by decide) (law_27 l C0 hk hP hD hS hl)
    · obtain rfl : w2 = 28 := ej
      exact lv_tableIn (tgt := 948) hx hb dL_law_33 (by decide) (by decide) rfl (by decide) (law_28 l C0 hk hP hD hS hl)
    · obtain rfl : w2 = 29 := ej
      exact lv_tableIn (tgt := 981) hx hb dL_law_33 (by decide) (by decide) rfl (by decide) (law_29 l C0 hk hP hD hS hl)
    · obtain rfl : w2 = 30 := ej
      exact lv_tableIn (tgt := 1004) hx hb dL_law_33 (by decide) (by decide) rfl (by decide) (law_30 l C0 hk hP hD hS hl)
    · obtain rfl : w2 = 31 := ej
      exact lv_tableIn (tgt := 1027) hx hb dL_law_33 (by decide) (by decide) rfl (by decide) (law_31 l C0 hk hP hD hS hl)
    · obtain rfl : w2 = 32 := ej
      exact lv_tableIn (tgt := 1040) hx hb dL_law_33 (by decide) (by decide) rfl (by decide) (law_32 l C0 hk hP hD hS hl)
    · obtain rfl : w2 = 33 := ej
      exact lv_tableIn (tgt := 1053) hx hb dL_law_33 (by decide) (by decide) rfl (by decide) (law_33 l C0 hk hP hD hS hl)
    · obtain rfl : w2 = 34 := ej
      exact lv_tableIn (tgt := 1066) hx hb dL_law_33 (by decide) (by decide) rfl (by decide) (law_34 l C0 hk hP hD hS hl)
    · obtain rfl : w2 = 35 := ej
      exact lv_tableIn (tgt := 1079) hx hb dL_law_33 (by decide) (by decide) rfl (by decide) (law_35 l C0 hk hP hD hS hl)
    · obtain rfl : w2 = 36 := ej
      exact lv_tableIn (tgt := 1112) hx hb dL_law_33 (by decide) (by decide) rfl (by decide) (law_36 l C0 hk hP hD hS hl)
    · obtain rfl : w2 = 37 := ej
      exact lv_tableIn (tgt := 1155) hx hb dL_law_33 (by decide) (by decide) rfl (by decide) (law_37 l C0 hk hP hD hS hl)
    · obtain rfl : w2 = 38 := ej
      exact lv_tableIn (tgt := 1188) hx hb dL_law_33 (by decide) (by decide) rfl (by decide) (law_38 l C0 hk hP hD hS hl)
    · obtain rfl : w2 = 39 := ej
      exact lv_tableIn (tgt := 1221) hx hb dL_law_33 (by decide) (by decide) rfl (by decide) (law_39 l C0 hk hP hD hS hl)
    · obtain rfl : w2 = 40 := ej
      exact lv_tableIn (tgt := 1254) hx hb dL_law_33 (by decide) (by decide) rfl (by decide) (law_40 l C0 hk hP hD hS hl)
    · obtain rfl : w2 = 41 := ej
      exact lv_tableIn (tgt := 1267) hx hb dL_law_33 (by decide) (by decide) rfl (by decide) (law_41 l C0 hk hP hD hS hl)
    · obtain rfl : w2 = 42 := ej
      exact lv_tableIn (tgt := 1300) hx hb dL_law_33 (by decide) (by decide) rfl (by decide) (law_42 l C0 hk hP hD hS hl)
    · obtain rfl : w2 = 43 := ej
      exact lv_tableIn (tgt := 1323) hx hb dL_law_33 (by decide) (by decide) rfl (by decide) (law_43 l C0 hk hP hD hS hl)
    · obtain rfl : w2 = 44 := ej
      exact lv_tableIn (tgt := 1346) hx hb dL_law_33 (by decide) (by decide) rfl (by decide) (law_44 l C0 hk hP hD hS hl)
    · obtain rfl : w2 = 45 := ej
      exact lv_tableIn (tgt := 1369) hx hb dL_law_33 (by decide) (by decide) rfl (by decide) (law_45 l C0 hk hP hD hS hl)
    · obtain rfl : w2 = 46 := ej
      exact lv_tableIn (tgt := 1392) hx hb dL_law_33 (by decide) (by decide) rfl (by decide) (law_46 l C0 hk hP hD hS hl)
    · obtain rfl : w2 = 47 := ej
      exact lv_tableIn (tgt := 1415) hx hb dL_law_33 (by decide) (by decide) rfl (by decide) (law_47 l C0 hk hP hD hS hl)
    · obtain rfl : w2 = 48 := ej
      exact lv_tableIn (tgt := 1438) hx hb dL_law_33 (by decide) (by decide) rfl (by decide) (law_48 l C0 hk hP hD hS hl)
    · obtain rfl : w2 = 49 := ej
      exact lv_tableIn (tgt := 1461) hx hb dL_law_33 (by decide) (by decide) rfl (by decide) (law_49 l C0 hk hP hD hS hl)
    · obtain rfl : w2 = 50 := ej
      exact lv_tableIn (tgt := 1494) hx hb dL_law_33 (by decide) (by decide) rfl (by decide) (law_50 l C0 hk hP hD hS hl)
    · obtain rfl : w2 = 51 := ej
      exact lv_tableIn (tgt := 1517) hx hb dL_law_33 (by decide) (by decide) rfl (by decide) (law_51 l C0 hk hP hD hS hl)
    · obtain rfl : w2 = 52 := ej
      exact lv_tableIn (tgt := 1550) hx hb dL_law_33 (by decide) (by decide) rfl (by decide) (law_52 l C0 hk hP hD hS hl)
    · obtain rfl : w2 = 53 := ej
      exact lv_tableIn (tgt := 1583) hx hb dL_law_33 (by decide) (by decide) rfl (by decide) (law_53 l C0 hk hP hD hS hl)
    · obtain rfl : w2 = 54 := ej
      exact lv_tableIn (tgt := 1616) hx hb dL_law_33 (by decide) (by decide) rfl (by decide) (law_54 l C0 hk hP hD hS hl)
    · obtain rfl : w2 = 55 := ej
      exact lv_tableIn (tgt := 1650) hx hb dL_law_33 (by decide) (by decide) rfl (by decide) (law_55 l C0 hk hP hD hS hl)
    · obtain rfl : w2 = 56 := ej
      exact lv_tableIn (tgt := 1673) hx hb dL_law_33 (by decide) (by decide) rfl (by decide) (law_56 l C0 hk hP hD hS hl)
    · obtain rfl : w2 = 57 := ej
      exact lv_tableIn (tgt := 1706) hx hb dL_law_33 (by decide) (by decide) rfl (by decide) (law_57 l C0 hk hP hD hS hl)
    · obtain rfl : w2 = 58 := ej
      exact lv_tableIn (tgt := 1749) hx hb dL_law_33 (by decide) (by decide) rfl (by decide) (law_58 l C0 hk hP hD hS hl)
    · obtain rfl : w2 = 59 := ej
      exact lv_tableIn (tgt := 1782) hx hb dL_law_33 (by decide) (by decide) rfl (by decide) (law_59 l C0 hk hP hD hS hl)
    · obtain rfl : w2 = 60 := ej
      exact lv_tableIn (tgt := 1825) hx hb dL_law_33 (by decide) (by decide) rfl (by decide) (law_60 l C0 hk hP hD hS hl)
    · obtain rfl : w2 = 61 := ej
      exact lv_tableIn (tgt := 1838) hx hb dL_law_33 (by decide) (by decide) rfl (by decide) (law_61 l C0 hk hP hD hS hl)
    · obtain rfl : w2 = 62 := ej
      exact lv_tableIn (tgt := 1851) hx hb dL_law_33 (by decide) (by decide) rfl (by decide) (law_62 l C0 hk hP hD hS hl)
    · obtain rfl : w2 = 63 := ej
      exact lv_tableIn (tgt := 1884) hx hb dL_law_33 (by decide) (by decide) rfl (by decide) (law_63 l C0 hk hP hD hS hl)
    · obtain rfl : w2 = 64 := ej
      exact lv_tableIn (tgt := 1907) hx hb dL_law_33 (by decide) (by decide) rfl (by decide) (law_64 l C0 hk hP hD hS hl)
    · obtain rfl : w2 = 65 := ej
      exact lv_tableIn (tgt := 1930) hx hb dL_law_33 (by decide) (by decide) rfl (by decide) (law_65 l C0 hk hP hD hS hl)
    · obtain rfl : w2 = 66 := ej
      exact lv_tableIn (tgt := 1953) hx hb dL_law_33 (by decide) (by decide) rfl (by decide) (law_66 l C0 hk hP hD hS hl)
    · obtain rfl : w2 = 67 := ej
      exact lv_tableIn (tgt := 1996) hx hb dL_law_33 (by decide) (by decide) rfl (by decide) (law_67 l C0 hk hP hD hS hl)
    · obtain rfl : w2 = 68 := ej
      exact lv_tableIn (tgt := 2069) hx hb dL_law_33 (by decide) (by decide) rfl (by decide) (law_68 l C0 hk hP hD hS hl)
    · exact lv_tableOut (tgt := 2132) hx hb dL_law_33 (Or.inr (by rw [ej, nI_toInt (by omega)]; omega)) (by decide) (law_tail l C0 hS (by omega) (by omega) (lv_sub hl [0, 3] rfl))
  · obtain rfl : w1 = -6 := ew1.trans (by decide)
    refine lv_icmp_gt (tgt := 2138) hx hb dL_law_24 (by decide) (fun _ => ?_) (fun c9 => absurd (by decide) c9)
    exact law_end l C0 hS (by omega) (by omega)
  · obtain rfl : w1 = -5 := ew1.trans (by decide)
    refine lv_icmp_gt (tgt := 2138) hx hb dL_law_24 (by decide) (fun _ => ?_) (fun c9 => absurd (by decide) c9)
    exact law_end l C0 hS (by omega) (by omega)
  · obtain rfl : w1 = -4 := ew1.trans (by decide)
    refine lv_icmp_gt (tgt := 2138) hx hb dL_law_24 (by decide) (fun _ => ?_) (fun c9 => absurd (by decide) c9)
    exact law_end l C0 hS (by omega) (by omega)
  · obtain rfl : w1 = -3 := ew1.trans (by decide)
    refine lv_icmp_gt (tgt := 2138) hx hb dL_law_24 (by decide) (fun _ => ?_) (fun c9 => absurd (by decide) c9)
    exact law_end l C0 hS (by omega) (by omega)
  · obtain rfl : w1 = -2 := ew1.trans (by decide)
    refine lv_icmp_gt (tgt := 2138) hx hb dL_law_24 (by decide) (fun _ => ?_) (fun c9 => absurd (by decide) c9)
    exact law_end l C0 hS (by omega) (by omega)
  · obtain rfl : w1 = -1 := ew1.trans (by decide)
    refine lv_icmp_gt (tgt := 2138) hx hb dL_law_24 (by decide) (fun _ => ?_) (fun c9 => absurd (by decide) c9)
    exact law_end l C0 hS (by omega) (by omega)
set_option maxHeartbeats 4000000 in
theorem lw_walk (l : Launch) (b : Addr) (xs : List Int32) : MetFree l x (headSpec (Jvm.Cond.code x code maxLocals ret :: tables_1) room_1) (lw_P b xs) (fun _ _ _ _ _ => True) lw_Q := by
  refine MetFree.of_bodyS (code := code) (maxLocals := maxLocals) (ret := ret) (by decide) ?_ ?_
  · intro args s m h hn
    obtain ⟨meth, c, h1, h2, h3, h4, h5, h6, -, -⟩ := Cond.code_spec hn (atoms_spec (ws := Jvm.Cond.code x code maxLocals ret :: tables_1) h _ List.mem_cons_self)
    exact ⟨meth, c, h1, h2, h3, h4, h5, h6⟩
  · intro p e s m args below meth c s₁ B hml0 hP _
    obtain ⟨rfl, hx, hbd, hgv⟩ := hP
    obtain ⟨scr, harrAt, hlist, hof, hsmall⟩ := hx
    obtain ⟨hcb, hkn, -, -⟩ := State.arrayAt?_spec harrAt
    have hown : s.vm.findClass R_law = some m.cls := findClass_of_methodNamed B.named
    have hts0 : ∀ c ∈ (Jvm.Cond.code x code maxLocals ret :: tables_1), c.before #[Value.ref b] s = true := atoms_spec (ws := Jvm.Cond.code x code maxLocals ret :: tables_1) B.pre
    have hts : ∀ w ∈ lw_tbl, w.before #[Value.ref b] s = true := k2_hts_sels lw_privs (fun w hw => hts0 w (List.mem_cons_of_mem _ hw)) lw_privs_ok
    have hml : c.maxLocals = 4 := B.maxLocals_eq (hts0 _ List.mem_cons_self)
    have X₀ : Stand p l e room_1 s m #[Value.ref b] below meth c s₁ [] 0 0 := Stand.of_body B
    have hh0 : s₁.heap = s.heap := by rw [B.state]; rfl
    have hsz : scr.slots.size = xs.length := by rw [← Array.length_toList, hlist, List.length_map]
    have hval : ∀ j : Nat, j < xs.length → scr.slots[j]? = some (.int (xs.getD j 0)) := fun j hj => by
      rw [← Array.getElem?_toList, hlist]
      simp [hj]
    have hbl : b < s.heap.size := (Array.getElem?_eq_some_iff.mp hcb).1
    have hX : va_X b xs.length (fun j => xs.getD j 0) s s.heap := ⟨scr, hcb, hof, hkn, hsz, hval⟩
    have K : W p l e room_1 s m #[Value.ref b] below meth c s₁.heap [] 0 0 (lw_Z below #[Value.ref b] s) (entryFrame m ([Value.ref b] : List Value).toArray 4) := by
      rw [hh0]
      exact whole_start l hbd ⟨B.exec, B.bytes, B.returns, hml, hown, hts, hX, hbl, B.notSynchronized, hgv⟩
    obtain ⟨t, a1, o, b1, b2, b3⟩ := K s₁ rfl X₀
    exact ⟨t, o, a1, b1, b2, b3⟩
theorem lw_pre_spec {args : Array Value} {s : State} (h : (Jvm.Cond.and given_1 narrow_1).before args s = true) (hr : rest_1_c.before args s = true) : ∃ (b : Addr) (xs : List Int32), lw_P b xs args s := by
  have hs := flat_of_before _ h
  have hq := flat_of_before _ hr
  have hc : (Cond.count 1).before args s = true := hs _ (by decide +kernel)
  have harr : (Cond.arrayOf (.arg 0) .int).before args s = true := hs _ (by decide +kernel)
  have hle : (Cond.le (.length (.arg 0)) (.int 6)).before args s = true := hs _ (by decide +kernel)
  have hlen : (Cond.isInt (.length (.arg 0))).before args s = true := hq _ (by decide +kernel)
  have hall : (Cond.all (.arg 0) (.isInt (.elem (.arg 0) (.index 0)))).before args s = true := hq _ (by decide +kernel)
  obtain ⟨b, xs, hb, hx⟩ := State.ints_of_pre rfl harr hlen hall
  have hsm : xs.length < 2 ^ 31 := hx.choose_spec.2.2.2
  have hev : (Term.length (.arg 0)).eval args s none [] s = some (.int xs.length.toInt32) := hx.length_eval hb
  have hv := Cond.le_ints hev (show (Term.int 6).eval args s none [] s = some (.int 6) from rfl)
  have hd : xs.length.toInt32 ≤ 6 := by
    simpa [Cond.before, Cond.holds, hv] using hle
  have hN : xs.length ≤ 6 := (Int32.ofNat_le_ofNat hsm (by decide)).mp (show Int32.ofNat xs.length ≤ Int32.ofNat 6 from hd)
  exact ⟨b, xs, Cond.one_arg hc (show args[0]? = some (.ref b) from hb), hx, hN, h⟩
theorem lw_comes (l : Launch) : Comes l x (Jvm.Cond.code x code maxLocals ret :: tables_1) room_1 (fun tb e args s => Calls_1 tb e args s ∧ rest_1 tb e args s ∧ Pre_1 tb e args s)
    (fun _ _ args s o t => lw_Q args s o t) := by
  intro p e ha hc hk s m args below hf hfit hheap happ hpre
  obtain ⟨b, xs, hP⟩ := lw_pre_spec hpre.2.2 hpre.2.1
  obtain ⟨k, o, h1, h2, h3, hQ⟩ := lw_walk l b xs p e ha hc hk s m args below hf ((Spec.applies_iff_loose hf).mp happ).1 hP trivial
  exact ⟨k, o, h1, h2, h3, hQ⟩
theorem lw_frame {s t : State} {o : Outcome} {args : Array Value} (h : Framed s o t [] 600000 7302250) :
    Framed s o t (fieldLocs frame_1_writes args s ++ arrayLocs frame_1_arrays args s ++ staticLocs frame_1_statics s) 600000 7302250 := h
theorem lw_limb (L : Cond) (hL : ∀ (args : Array Value) (s t : State), L.after args s (.returned (some (.int 1))) t = true) :
    ArmFor flags0 classFile x code maxLocals ret World_1 tables_1 room_1 Calls_1 rest_1 Pre_1
      (fun tb e a s o t => postC L tb e a s o t ∧ Framed s o t (fieldLocs frame_1_writes a s ++ arrayLocs frame_1_arrays a s ++ staticLocs frame_1_statics s) 600000 7302250) := by
  intro l _ _ _ p e ha hc hk s m args below hf hfit hheap happ hpre
  obtain ⟨k, o, h1, h2, h3, rfl, hF⟩ := lw_comes l p e ha hc hk s m args below hf hfit hheap happ hpre
  exact ⟨k, _, h1, h2, h3, hL args s _, lw_frame hF⟩
theorem i_vc : Claimed_1_1 ∧ Claimed_1_2 := ⟨lw_limb limb_1_1 (fun args s t => by simp [limb_1_1, Cond.after, Cond.holds, Cond.value]), lw_limb limb_1_2 (fun args s t => Cond.after_iff.mpr (by
  first | (rw [show limb_1_2 = Cond.eq .result (.int 1) from rfl, Cond.eq_ints (x := 1) (y := 1) rfl rfl]; simp; done) | (simp [limb_1_2, Cond.value, Term.eval]; done)))⟩
