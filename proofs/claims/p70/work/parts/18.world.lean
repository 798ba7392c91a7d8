def zkk : List Nat := [5, 4, 33, 3, 29, 30, 31, 32, 2, 21, 22, 23, 24, 25, 26, 27, 28, 1, 17, 18, 19, 20, 34, 35, 0, 7, 8, 9, 10, 11, 12, 13, 14, 15, 16, 0, 7, 8, 9, 10, 11, 12, 13, 14, 15, 16, 0, 7, 8, 9, 10, 11, 12, 13, 14, 15, 16, 0, 7, 8, 9, 10, 11, 12, 13, 14, 15, 16, 0, 7, 8, 9, 10, 11, 12, 13, 14, 15, 16, 6, 36, 37, 38, 39, 40, 41, 42, 43, 44, 45, 46, 47, 48, 49, 50, 51, 52, 53, 54, 54, 54, 54, 54, 54, 54, 54, 54, 54, 54, 54, 54, 54, 55, 56]
def zad (h g : Nat) (u : Nat → Nat → Nat) (v : Nat → Nat) (x0 x1 x2 x3 x4 x5 x6 x7 x8 x9 x10 x11 x12 x13 x14 x15 : Nat) : List Nat := [h, u 0 0, u 6 0, u 0 1, u 7 0, u 7 1, u 7 2, u 7 3, u 0 2, u 9 4, u 9 5, u 9 6, u 9 7, u 9 8, u 9 14, u 9 16, u 9 17, u 0 3, u 10 3, u 10 4, u 10 5, u 10 6, u 0 4, u 0 5, u 0 6, u 1 0, u 1 4, u 1 5, u 1 6, u 1 7, u 1 8, u 1 10, u 1 11, u 1 12, u 1 13, u 0 7, u 2 0, u 2 4, u 2 5, u 2 6, u 2 7, u 2 8, u 2 10, u 2 11, u 2 12, u 2 13, u 8 0, u 3 0, u 3 4, u 3 5, u 3 6, u 3 7, u 3 8, u 3 10, u 3 11, u 3 12, u 3 13, u 8 1, u 4 0, u 4 4, u 4 5, u 4 6, u 4 7, u 4 8, u 4 10, u 4 11, u 4 12, u 4 13, u 8 2, u 5 0, u 5 4, u 5 5, u 5 6, u 5 7, u 5 8, u 5 10, u 5 11, u 5 12, u 5 13, g, v 1, v 2, v 3, v 4, v 5, v 16, v 17, v 18, v 19, v 20, v 21, v 22, v 23, v 24, v 30, v 31, v 32, v 33, x0, x1, x2, x3, x4, x5, x6, x7, x8, x9, x10, x11, x12, x13, x14, x15]
def zws (cI cZ cB cJ cR : ClassId) (h g : Nat) (u : Nat → Nat → Nat) (v : Nat → Nat) : va_W := [(h, .inr (5, [.ref (u 0 0), .ref (u 0 1), .ref (u 0 2), .ref (u 0 3), .ref (u 0 4), .ref (u 0 5), .ref (u 0 6), .ref (u 0 7)])), (u 0 0, .inr (4, [.ref (u 6 0), .int 0, .int 0, .int (-1), .int 0, .int 0, .int 0, .int 0])), (u 6 0, .inl (cB, 1200, .inl (fun _ => 0))), (u 0 1, .inr (3, [.ref (u 7 0), .ref (u 7 1), .ref (u 7 2), .ref (u 7 3)])), (u 7 0, .inl (cZ, 4, .inl (fun _ => 0))), (u 7 1, .inl (cI, 4, .inl (fun _ => 0))), (u 7 2, .inl (cI, 4, .inl (fun _ => 0))), (u 7 3, .inl (cJ, 240, .inr (.inl (fun _ => 0)))), (u 0 2, .inr (2, [.int 0, .int 0, .int 0, .int 0, .ref (u 9 4), .ref (u 9 5), .ref (u 9 6), .ref (u 9 7), .ref (u 9 8), .int 0, .int 0, .int 0, .int 0, .int 0, .ref (u 9 14), .int 0, .ref (u 9 16), .ref (u 9 17)])), (u 9 4, .inl (cI, 7, .inl (fun _ => 0))), (u 9 5, .inl (cI, 7, .inl (fun _ => 0))), (u 9 6, .inl (cI, 7, .inl (fun _ => 0))), (u 9 7, .inl (cI, 7, .inl (fun _ => 0))), (u 9 8, .inl (cI, 49, .inl (fun _ => 0))), (u 9 14, .inl (cI, 7, .inl (fun _ => 0))), (u 9 16, .inl (cI, 7, .inl (fun _ => 0))), (u 9 17, .inl (cI, 7, .inl (fun _ => 0))), (u 0 3, .inr (1, [.int 0, .int 0, .int 0, .ref (u 10 3), .ref (u 10 4), .ref (u 10 5), .ref (u 10 6)])), (u 10 3, .inl (cZ, 120, .inl (fun _ => 0))), (u 10 4, .inl (cI, 120, .inl (fun _ => 0))), (u 10 5, .inl (cI, 120, .inl (fun _ => 0))), (u 10 6, .inl (cI, 120, .inl (fun _ => 0))), (u 0 4, .inl (cR, 3, .inr (.inr (.inr (.inr (va_up (va_up (va_up (fun _ => none) (Int32.toNatClampNeg 0) (some (u 8 0))) (Int32.toNatClampNeg 1) (some (u 8 1))) (Int32.toNatClampNeg 2) (some (u 8 2)))))))), (u 0 5, .inl (cZ, 3, .inl (fun _ => 0))), (u 0 6, .inr (0, [.ref (u 1 0), .int 0, .int 0, .int 0, .ref (u 1 4), .ref (u 1 5), .ref (u 1 6), .ref (u 1 7), .ref (u 1 8), .int 0, .ref (u 1 10), .ref (u 1 11), .ref (u 1 12), .ref (u 1 13)])), (u 1 0, .inl (cI, 7, .inl (fun _ => 0))), (u 1 4, .inl (cI, 7, .inl (fun _ => 0))), (u 1 5, .inl (cI, 7, .inl (fun _ => 0))), (u 1 6, .inl (cI, 84, .inl (fun _ => 0))), (u 1 7, .inl (cI, 7, .inl (fun _ => 0))), (u 1 8, .inl (cI, 49, .inl (fun _ => 0))), (u 1 10, .inl (cI, 40, .inl (fun _ => 0))), (u 1 11, .inl (cI, 40, .inl (fun _ => 0))), (u 1 12, .inl (cI, 40, .inl (fun _ => 0))), (u 1 13, .inl (cI, 40, .inl (fun _ => 0))), (u 0 7, .inr (0, [.ref (u 2 0), .int 0, .int 0, .int 0, .ref (u 2 4), .ref (u 2 5), .ref (u 2 6), .ref (u 2 7), .ref (u 2 8), .int 0, .ref (u 2 10), .ref (u 2 11), .ref (u 2 12), .ref (u 2 13)])), (u 2 0, .inl (cI, 7, .inl (fun _ => 0))), (u 2 4, .inl (cI, 7, .inl (fun _ => 0))), (u 2 5, .inl (cI, 7, .inl (fun _ => 0))), (u 2 6, .inl (cI, 84, .inl (fun _ => 0))), (u 2 7, .inl (cI, 7, .inl (fun _ => 0))), (u 2 8, .inl (cI, 49, .inl (fun _ => 0))), (u 2 10, .inl (cI, 40, .inl (fun _ => 0))), (u 2 11, .inl (cI, 40, .inl (fun _ => 0))), (u 2 12, .inl (cI, 40, .inl (fun _ => 0))), (u 2 13, .inl (cI, 40, .inl (fun _ => 0))), (u 8 0, .inr (0, [.ref (u 3 0), .int 0, .int 0, .int 0, .ref (u 3 4), .ref (u 3 5), .ref (u 3 6), .ref (u 3 7), .ref (u 3 8), .int 0, .ref (u 3 10), .ref (u 3 11), .ref (u 3 12), .ref (u 3 13)])), (u 3 0, .inl (cI, 7, .inl (fun _ => 0))), (u 3 4, .inl (cI, 7, .inl (fun _ => 0))), (u 3 5, .inl (cI, 7, .inl (fun _ => 0))), (u 3 6, .inl (cI, 84, .inl (fun _ => 0))), (u 3 7, .inl (cI, 7, .inl (fun _ => 0))), (u 3 8, .inl (cI, 49, .inl (fun _ => 0))), (u 3 10, .inl (cI, 40, .inl (fun _ => 0))), (u 3 11, .inl (cI, 40, .inl (fun _ => 0))), (u 3 12, .inl (cI, 40, .inl (fun _ => 0))), (u 3 13, .inl (cI, 40, .inl (fun _ => 0))), (u 8 1, .inr (0, [.ref (u 4 0), .int 0, .int 0, .int 0, .ref (u 4 4), .ref (u 4 5), .ref (u 4 6), .ref (u 4 7), .ref (u 4 8), .int 0, .ref (u 4 10), .ref (u 4 11), .ref (u 4 12), .ref (u 4 13)])), (u 4 0, .inl (cI, 7, .inl (fun _ => 0))), (u 4 4, .inl (cI, 7, .inl (fun _ => 0))), (u 4 5, .inl (cI, 7, .inl (fun _ => 0))), (u 4 6, .inl (cI, 84, .inl (fun _ => 0))), (u 4 7, .inl (cI, 7, .inl (fun _ => 0))), (u 4 8, .inl (cI, 49, .inl (fun _ => 0))), (u 4 10, .inl (cI, 40, .inl (fun _ => 0))), (u 4 11, .inl (cI, 40, .inl (fun _ => 0))), (u 4 12, .inl (cI, 40, .inl (fun _ => 0))), (u 4 13, .inl (cI, 40, .inl (fun _ => 0))), (u 8 2, .inr (0, [.ref (u 5 0), .int 0, .int 0, .int 0, .ref (u 5 4), .ref (u 5 5), .ref (u 5 6), .ref (u 5 7), .ref (u 5 8), .int 0, .ref (u 5 10), .ref (u 5 11), .ref (u 5 12), .ref (u 5 13)])), (u 5 0, .inl (cI, 7, .inl (fun _ => 0))), (u 5 4, .inl (cI, 7, .inl (fun _ => 0))), (u 5 5, .inl (cI, 7, .inl (fun _ => 0))), (u 5 6, .inl (cI, 84, .inl (fun _ => 0))), (u 5 7, .inl (cI, 7, .inl (fun _ => 0))), (u 5 8, .inl (cI, 49, .inl (fun _ => 0))), (u 5 10, .inl (cI, 40, .inl (fun _ => 0))), (u 5 11, .inl (cI, 40, .inl (fun _ => 0))), (u 5 12, .inl (cI, 40, .inl (fun _ => 0))), (u 5 13, .inl (cI, 40, .inl (fun _ => 0))), (g, .inr (6, [.int 0, .ref (v 1), .ref (v 2), .ref (v 3), .ref (v 4), .ref (v 5), .int 0, .int 0, .int 0, .int 0, .int 0, .long 0, .int 0, .int 0, .int 0, .int (-1), .ref (v 16), .ref (v 17), .ref (v 18), .ref (v 19), .ref (v 20), .ref (v 21), .ref (v 22), .ref (v 23), .ref (v 24), .int 0, .int 0, .int 0, .int 0, .int 0, .ref (v 30), .ref (v 31), .ref (v 32), .ref (v 33), .int 0, .int 0])), (v 1, .inl (cI, 4, .inl (upd (upd (upd (upd (fun _ => 0) (Int32.toNatClampNeg 0) (-1)) (Int32.toNatClampNeg 1) (-1)) (Int32.toNatClampNeg 2) (-1)) (Int32.toNatClampNeg 3) (-1)))), (v 2, .inl (cI, 4, .inl (fun _ => 0))), (v 3, .inl (cJ, 240, .inr (.inl (fun _ => 0)))), (v 4, .inl (cJ, 60, .inr (.inl (fun _ => 0)))), (v 5, .inl (cB, 1200, .inl (fun _ => 0))), (v 16, .inl (cI, 5, .inl (fun _ => 0))), (v 17, .inl (cI, 50, .inl (fun _ => 0))), (v 18, .inl (cI, 70, .inl (fun _ => 0))), (v 19, .inl (cI, 420, .inl (fun _ => 0))), (v 20, .inl (cI, 800, .inl (fun _ => 0))), (v 21, .inl (cZ, 3, .inl (fun _ => 0))), (v 22, .inl (cI, 7, .inl (fun _ => 0))), (v 23, .inl (cI, 84, .inl (fun _ => 0))), (v 24, .inl (cI, 7, .inl (fun _ => 0))), (v 30, .inl (cI, 7, .inl (fun _ => 0))), (v 31, .inl (cI, 49, .inl (fun _ => 0))), (v 32, .inl (cI, 120, .inl (fun _ => 0))), (v 33, .inl (cI, 120, .inl (fun _ => 0)))]
theorem zrow0 {n : Nat} {el : List zt} (h : (List.range n).all (fun j => decide ((zel el j).2.1 ≤ 0) && decide (0 ≤ (zel el j).2.2)) = true) : ∀ j, j < n → (zel el j).2.1 ≤ ((fun _ => 0 : Nat → Int32) j).toInt ∧ ((fun _ => 0 : Nat → Int32) j).toInt ≤ (zel el j).2.2 := by
  intro j hj
  have := List.all_eq_true.mp h j (List.mem_range.mpr hj)
  rw [Bool.and_eq_true, decide_eq_true_eq, decide_eq_true_eq] at this
  exact this
theorem zrow0L {n : Nat} {el : List zt} (h : (List.range n).all (fun j => decide ((zel el j).2.1 ≤ 0) && decide (0 ≤ (zel el j).2.2)) = true) : ∀ j, j < n → (zel el j).2.1 ≤ ((fun _ => 0 : Nat → Int64) j).toInt ∧ ((fun _ => 0 : Nat → Int64) j).toInt ≤ (zel el j).2.2 := by
  intro j hj
  have := List.all_eq_true.mp h j (List.mem_range.mpr hj)
  rw [Bool.and_eq_true, decide_eq_true_eq, decide_eq_true_eq] at this
  exact this
theorem zconf_of {KS : List zk} {ks0 kx ad ex : List Nat} {C : String} {tys : List (ClassId × FieldType)} {ws : va_W} (h1 : ad = ws.map (fun q => q.1) ++ ex) (hl : ks0.length = ws.length) (hx : ∀ k ∈ kx, KS[k]? = none) (h2 : ∀ p ∈ ks0.zip ws, ∀ d, KS[p.1]? = some d → zcell (ks0 ++ kx) ad C tys d p.2.2) : zconf KS (ks0 ++ kx) ad C tys ws := by
  refine ⟨⟨ex, h1⟩, fun i k d hk hd => ?_⟩
  by_cases hi : i < ks0.length
  · rw [List.getElem?_append_left hi] at hk
    have hw : ws[i]? = some (ws[i]'(by omega)) := List.getElem?_eq_getElem (by omega)
    refine ⟨_, hw, h2 (k, ws[i]'(by omega)) ?_ d hd⟩
    refine List.mem_of_getElem? (i := i) ?_
    rw [List.getElem?_zip_eq_some]
    exact ⟨hk, hw⟩
  · rw [List.getElem?_append_right (by omega)] at hk
    rw [hx k (List.mem_of_getElem? hk)] at hd
    cases hd
theorem zka_0 : zKS[0]? = some (.inr (0, [(9, 0, 0), (0, (-2147483648), 2147483647), (0, 0, 7), (0, (-2147483648), 2147483647), (10, 0, 0), (11, 0, 0), (12, 0, 0), (13, 0, 0), (14, 0, 0), (0, 0, 40), (15, 0, 0), (16, 0, 0), (17, 0, 0), (18, 0, 0)])) := rfl
theorem zka_1 : zKS[1]? = some (.inr (1, [(0, 0, 12), (0, 0, 10), (0, 0, 9), (19, 0, 0), (20, 0, 0), (21, 0, 0), (22, 0, 0)])) := rfl
theorem zka_2 : zKS[2]? = some (.inr (2, [(0, 0, 7), (0, 0, 3), (0, 0, 1), (0, (-2147483648), 2147483647), (23, 0, 0), (24, 0, 0), (25, 0, 0), (26, 0, 0), (27, 0, 0), (0, 0, 1), (0, (-2147483648), 2147483647), (0, (-2147483648), 2147483647), (0, (-1), 12), (0, (-2147483648), 2147483647), (28, 0, 0), (0, (-2147483648), 2147483647), (29, 0, 0), (30, 0, 0)])) := rfl
theorem zka_3 : zKS[3]? = some (.inr (3, [(31, 0, 0), (32, 0, 0), (33, 0, 0), (34, 0, 0)])) := rfl
theorem zka_4 : zKS[4]? = some (.inr (4, [(35, 0, 0), (0, 0, 1200), (0, 0, 3), (0, (-1), 1200), (0, 0, 5), (0, 0, 1200), (0, 0, 1200), (0, (-2147483648), 2147483647)])) := rfl
theorem zka_5 : zKS[5]? = some (.inr (5, [(6, 0, 0), (5, 0, 0), (4, 0, 0), (3, 0, 0), (36, 0, 0), (37, 0, 0), (2, 0, 0), (2, 0, 0)])) := rfl
theorem zka_6 : zKS[6]? = some (.inr (6, [(0, 0, 0), (38, 0, 0), (39, 0, 0), (40, 0, 0), (41, 0, 0), (42, 0, 0), (0, 0, 1200), (0, 0, 1200), (0, 0, 4), (0, 0, 1200), (0, (-2147483648), 2147483647), (1, (-9223372036854775808), 9223372036854775807), (0, 0, 3), (0, (-1), 1200), (0, 0, 3), (0, (-1), 1200), (43, 0, 0), (44, 0, 0), (45, 0, 0), (46, 0, 0), (47, 0, 0), (48, 0, 0), (49, 0, 0), (50, 0, 0), (51, 0, 0), (0, (-2147483648), 2147483647), (0, (-2147483648), 2147483647), (0, (-2147483648), 2147483647), (0, (-2147483648), 2147483647), (0, (-2147483648), 2147483647), (52, 0, 0), (53, 0, 0), (54, 0, 0), (55, 0, 0), (0, (-1), 6), (0, (-2147483648), 2147483647)])) := rfl
theorem zka_7 : zKS[7]? = some (.inl (0, 7, [(0, 0, 10), (0, 0, 12), (0, 0, 9), (0, 0, 9), (0, 0, 99), (0, 0, 3), (0, 0, 10)])) := rfl
theorem zka_8 : zKS[8]? = some (.inl (0, 7, [(0, 0, 9)])) := rfl
theorem zka_9 : zKS[9]? = some (.inl (0, 7, [(0, (-1), 6)])) := rfl
theorem zka_10 : zKS[10]? = some (.inl (0, 84, [(0, 0, 9)])) := rfl
theorem zka_11 : zKS[11]? = some (.inl (0, 7, [(0, (-2147483648), 2147483647)])) := rfl
theorem zka_12 : zKS[12]? = some (.inl (0, 49, [(0, (-2147483648), 2147483647)])) := rfl
theorem zka_13 : zKS[13]? = some (.inl (0, 40, [(0, 0, 6)])) := rfl
theorem zka_14 : zKS[14]? = some (.inl (0, 40, [(0, (-1), 11)])) := rfl
theorem zka_15 : zKS[15]? = some (.inl (0, 40, [(0, (-1), 9)])) := rfl
theorem zka_16 : zKS[16]? = some (.inl (0, 40, [(0, (-2147483648), 2147483647)])) := rfl
theorem zka_17 : zKS[17]? = some (.inl (1, 120, [(0, 0, 1)])) := rfl
theorem zka_18 : zKS[18]? = some (.inl (0, 120, [(0, 0, 1)])) := rfl
theorem zka_19 : zKS[19]? = some (.inl (0, 120, [(0, (-1), 2147483647)])) := rfl
theorem zka_20 : zKS[20]? = some (.inl (0, 120, [(0, (-2147483648), 2147483647)])) := rfl
theorem zka_21 : zKS[21]? = some (.inl (0, 7, [(0, (-1), 6)])) := rfl
theorem zka_22 : zKS[22]? = some (.inl (0, 7, [(0, (-2147483648), 2147483647)])) := rfl
theorem zka_23 : zKS[23]? = some (.inl (0, 7, [(0, (-2147483648), 2147483647)])) := rfl
theorem zka_24 : zKS[24]? = some (.inl (0, 7, [(0, (-2147483648), 2147483647)])) := rfl
theorem zka_25 : zKS[25]? = some (.inl (0, 49, [(0, (-128), 12)])) := rfl
theorem zka_26 : zKS[26]? = some (.inl (0, 7, [(0, (-1), 6)])) := rfl
theorem zka_27 : zKS[27]? = some (.inl (0, 7, [(0, (-1), 6)])) := rfl
theorem zka_28 : zKS[28]? = some (.inl (0, 7, [(0, (-2147483648), 2147483647)])) := rfl
theorem zka_29 : zKS[29]? = some (.inl (1, 4, [(0, 0, 1)])) := rfl
theorem zka_30 : zKS[30]? = some (.inl (0, 4, [(0, 0, 3)])) := rfl
theorem zka_31 : zKS[31]? = some (.inl (0, 4, [(0, 0, 60)])) := rfl
theorem zka_32 : zKS[32]? = some (.inl (3, 240, [(1, (-9223372036854775808), 9223372036854775807)])) := rfl
theorem zka_33 : zKS[33]? = some (.inl (2, 1200, [(0, (-128), 127)])) := rfl
theorem zka_34 : zKS[34]? = some (.inl (4, 3, [(2, 0, 0)])) := rfl
theorem zka_35 : zKS[35]? = some (.inl (1, 3, [(0, 0, 1)])) := rfl
theorem zka_36 : zKS[36]? = some (.inl (0, 4, [(0, (-1), 3)])) := rfl
theorem zka_37 : zKS[37]? = some (.inl (0, 4, [(0, 0, 60)])) := rfl
theorem zka_38 : zKS[38]? = some (.inl (3, 240, [(1, (-9223372036854775808), 9223372036854775807)])) := rfl
theorem zka_39 : zKS[39]? = some (.inl (3, 60, [(1, (-9223372036854775808), 9223372036854775807)])) := rfl
theorem zka_40 : zKS[40]? = some (.inl (2, 1200, [(0, (-128), 127)])) := rfl
theorem zka_41 : zKS[41]? = some (.inl (0, 5, [(0, (-2147483648), 2147483647)])) := rfl
theorem zka_42 : zKS[42]? = some (.inl (0, 50, [(0, 0, 10), (0, 0, 12), (0, 0, 9), (0, 0, 9), (0, 0, 99), (0, 0, 3), (0, 0, 10), (0, 0, 7), (0, 0, 40), (0, (-2147483648), 2147483647), (0, 0, 10), (0, 0, 12), (0, 0, 9), (0, 0, 9), (0, 0, 99), (0, 0, 3), (0, 0, 10), (0, 0, 7), (0, 0, 40), (0, (-2147483648), 2147483647), (0, 0, 10), (0, 0, 12), (0, 0, 9), (0, 0, 9), (0, 0, 99), (0, 0, 3), (0, 0, 10), (0, 0, 7), (0, 0, 40), (0, (-2147483648), 2147483647), (0, 0, 10), (0, 0, 12), (0, 0, 9), (0, 0, 9), (0, 0, 99), (0, 0, 3), (0, 0, 10), (0, 0, 7), (0, 0, 40), (0, (-2147483648), 2147483647), (0, 0, 10), (0, 0, 12), (0, 0, 9), (0, 0, 9), (0, 0, 99), (0, 0, 3), (0, 0, 10), (0, 0, 7), (0, 0, 40), (0, (-2147483648), 2147483647)])) := rfl
theorem zka_43 : zKS[43]? = some (.inl (0, 70, [(0, 0, 9), (0, (-1), 6), (0, 0, 9), (0, (-1), 6), (0, 0, 9), (0, (-1), 6), (0, 0, 9), (0, (-1), 6), (0, 0, 9), (0, (-1), 6), (0, 0, 9), (0, (-1), 6), (0, 0, 9), (0, (-1), 6), (0, 0, 9), (0, (-1), 6), (0, 0, 9), (0, (-1), 6), (0, 0, 9), (0, (-1), 6), (0, 0, 9), (0, (-1), 6), (0, 0, 9), (0, (-1), 6), (0, 0, 9), (0, (-1), 6), (0, 0, 9), (0, (-1), 6), (0, 0, 9), (0, (-1), 6), (0, 0, 9), (0, (-1), 6), (0, 0, 9), (0, (-1), 6), (0, 0, 9), (0, (-1), 6), (0, 0, 9), (0, (-1), 6), (0, 0, 9), (0, (-1), 6), (0, 0, 9), (0, (-1), 6), (0, 0, 9), (0, (-1), 6), (0, 0, 9), (0, (-1), 6), (0, 0, 9), (0, (-1), 6), (0, 0, 9), (0, (-1), 6), (0, 0, 9), (0, (-1), 6), (0, 0, 9), (0, (-1), 6), (0, 0, 9), (0, (-1), 6), (0, 0, 9), (0, (-1), 6), (0, 0, 9), (0, (-1), 6), (0, 0, 9), (0, (-1), 6), (0, 0, 9), (0, (-1), 6), (0, 0, 9), (0, (-1), 6), (0, 0, 9), (0, (-1), 6), (0, 0, 9), (0, (-1), 6)])) := rfl
theorem zka_44 : zKS[44]? = some (.inl (0, 420, [(0, (-1), 9)])) := rfl
theorem zka_45 : zKS[45]? = some (.inl (0, 800, zelA)) := zks_45
theorem zka_46 : zKS[46]? = some (.inl (1, 3, [(0, 0, 1)])) := rfl
theorem zka_47 : zKS[47]? = some (.inl (0, 7, [(0, (-1), 6)])) := rfl
theorem zka_48 : zKS[48]? = some (.inl (0, 84, [(0, (-1), 9)])) := rfl
theorem zka_49 : zKS[49]? = some (.inl (0, 7, [(0, (-1), 6)])) := rfl
theorem zka_50 : zKS[50]? = some (.inl (0, 7, [(0, (-1), 6)])) := rfl
theorem zka_51 : zKS[51]? = some (.inl (0, 49, [(0, (-2147483648), 2147483647)])) := rfl
theorem zka_52 : zKS[52]? = some (.inl (0, 120, [(0, (-2147483648), 2147483647)])) := rfl
theorem zka_53 : zKS[53]? = some (.inl (0, 120, [(0, (-2147483648), 2147483647)])) := rfl
set_option maxRecDepth 100000 in
set_option maxHeartbeats 4000000 in
theorem zinit0 {cI cZ cB cJ cR : ClassId} (h g : Nat) (u : Nat → Nat → Nat) (v : Nat → Nat) (x0 x1 x2 x3 x4 x5 x6 x7 x8 x9 x10 x11 x12 x13 x14 x15 : Nat) : zconf zKS zkk (zad h g u v x0 x1 x2 x3 x4 x5 x6 x7 x8 x9 x10 x11 x12 x13 x14 x15) RX0 (tyA cI cZ cB cJ cR) (zws cI cZ cB cJ cR h g u v) := by
  refine zconf_of (ks0 := zkk.take 98) (kx := zkk.drop 98) (ex := [x0, x1, x2, x3, x4, x5, x6, x7, x8, x9, x10, x11, x12, x13, x14, x15]) rfl rfl (by decide) ?_
  show ∀ p ∈ List.zip [5, 4, 33, 3, 29, 30, 31, 32, 2, 21, 22, 23, 24, 25, 26, 27, 28, 1, 17, 18, 19, 20, 34, 35, 0, 7, 8, 9, 10, 11, 12, 13, 14, 15, 16, 0, 7, 8, 9, 10, 11, 12, 13, 14, 15, 16, 0, 7, 8, 9, 10, 11, 12, 13, 14, 15, 16, 0, 7, 8, 9, 10, 11, 12, 13, 14, 15, 16, 0, 7, 8, 9, 10, 11, 12, 13, 14, 15, 16, 6, 36, 37, 38, 39, 40, 41, 42, 43, 44, 45, 46, 47, 48, 49, 50, 51, 52, 53] (zws cI cZ cB cJ cR h g u v), _
  refine List.forall_mem_cons.mpr ⟨fun d hd => ?_, ?_⟩
  · have e := hd.symm.trans zka_5
    cases e
    exact ⟨rfl, ⟨_, 1, rfl, rfl, rfl⟩, ⟨_, 3, rfl, rfl, rfl⟩, ⟨_, 8, rfl, rfl, rfl⟩, ⟨_, 17, rfl, rfl, rfl⟩, ⟨_, 22, rfl, rfl, rfl⟩, ⟨_, 23, rfl, rfl, rfl⟩, ⟨_, 24, rfl, rfl, rfl⟩, ⟨_, 35, rfl, rfl, rfl⟩, trivial⟩
  refine List.forall_mem_cons.mpr ⟨fun d hd => ?_, ?_⟩
  · have e := hd.symm.trans zka_4
    cases e
    exact ⟨rfl, ⟨_, 2, rfl, rfl, rfl⟩, ⟨_, rfl, by decide⟩, ⟨_, rfl, by decide⟩, ⟨_, rfl, by decide⟩, ⟨_, rfl, by decide⟩, ⟨_, rfl, by decide⟩, ⟨_, rfl, by decide⟩, ⟨_, rfl, by decide⟩, trivial⟩
  refine List.forall_mem_cons.mpr ⟨fun d hd => ?_, ?_⟩
  · have e := hd.symm.trans zka_33
    cases e
    exact ⟨rfl, rfl, (show (2 : Nat) < 3 by decide), zrow0 (by decide +kernel)⟩
  refine List.forall_mem_cons.mpr ⟨fun d hd => ?_, ?_⟩
  · have e := hd.symm.trans zka_3
    cases e
    exact ⟨rfl, ⟨_, 4, rfl, rfl, rfl⟩, ⟨_, 5, rfl, rfl, rfl⟩, ⟨_, 6, rfl, rfl, rfl⟩, ⟨_, 7, rfl, rfl, rfl⟩, trivial⟩
  refine List.forall_mem_cons.mpr ⟨fun d hd => ?_, ?_⟩
  · have e := hd.symm.trans zka_29
    cases e
    exact ⟨rfl, rfl, (show (1 : Nat) < 3 by decide), zrow0 (by decide +kernel)⟩
  refine List.forall_mem_cons.mpr ⟨fun d hd => ?_, ?_⟩
  · have e := hd.symm.trans zka_30
    cases e
    exact ⟨rfl, rfl, (show (0 : Nat) < 3 by decide), zrow0 (by decide +kernel)⟩
  refine List.forall_mem_cons.mpr ⟨fun d hd => ?_, ?_⟩
  · have e := hd.symm.trans zka_31
    cases e
    exact ⟨rfl, rfl, (show (0 : Nat) < 3 by decide), zrow0 (by decide +kernel)⟩
  refine List.forall_mem_cons.mpr ⟨fun d hd => ?_, ?_⟩
  · have e := hd.symm.trans zka_32
    cases e
    exact ⟨rfl, rfl, rfl, zrow0L (by decide +kernel)⟩
  refine List.forall_mem_cons.mpr ⟨fun d hd => ?_, ?_⟩
  · have e := hd.symm.trans zka_2
    cases e
    exact ⟨rfl, ⟨_, rfl, by decide⟩, ⟨_, rfl, by decide⟩, ⟨_, rfl, by decide⟩, ⟨_, rfl, by decide⟩, ⟨_, 9, rfl, rfl, rfl⟩, ⟨_, 10, rfl, rfl, rfl⟩, ⟨_, 11, rfl, rfl, rfl⟩, ⟨_, 12, rfl, rfl, rfl⟩, ⟨_, 13, rfl, rfl, rfl⟩, ⟨_, rfl, by decide⟩, ⟨_, rfl, by decide⟩, ⟨_, rfl, by decide⟩, ⟨_, rfl, by decide⟩, ⟨_, rfl, by decide⟩, ⟨_, 14, rfl, rfl, rfl⟩, ⟨_, rfl, by decide⟩, ⟨_, 15, rfl, rfl, rfl⟩, ⟨_, 16, rfl, rfl, rfl⟩, trivial⟩
  refine List.forall_mem_cons.mpr ⟨fun d hd => ?_, ?_⟩
  · have e := hd.symm.trans zka_21
    cases e
    exact ⟨rfl, rfl, (show (0 : Nat) < 3 by decide), zrow0 (by decide +kernel)⟩
  refine List.forall_mem_cons.mpr ⟨fun d hd => ?_, ?_⟩
  · have e := hd.symm.trans zka_22
    cases e
    exact ⟨rfl, rfl, (show (0 : Nat) < 3 by decide), zrow0 (by decide +kernel)⟩
  refine List.forall_mem_cons.mpr ⟨fun d hd => ?_, ?_⟩
  · have e := hd.symm.trans zka_23
    cases e
    exact ⟨rfl, rfl, (show (0 : Nat) < 3 by decide), zrow0 (by decide +kernel)⟩
  refine List.forall_mem_cons.mpr ⟨fun d hd => ?_, ?_⟩
  · have e := hd.symm.trans zka_24
    cases e
    exact ⟨rfl, rfl, (show (0 : Nat) < 3 by decide), zrow0 (by decide +kernel)⟩
  refine List.forall_mem_cons.mpr ⟨fun d hd => ?_, ?_⟩
  · have e := hd.symm.trans zka_25
    cases e
    exact ⟨rfl, rfl, (show (0 : Nat) < 3 by decide), zrow0 (by decide +kernel)⟩
  refine List.forall_mem_cons.mpr ⟨fun d hd => ?_, ?_⟩
  · have e := hd.symm.trans zka_26
    cases e
    exact ⟨rfl, rfl, (show (0 : Nat) < 3 by decide), zrow0 (by decide +kernel)⟩
  refine List.forall_mem_cons.mpr ⟨fun d hd => ?_, ?_⟩
  · have e := hd.symm.trans zka_27
    cases e
    exact ⟨rfl, rfl, (show (0 : Nat) < 3 by decide), zrow0 (by decide +kernel)⟩
  refine List.forall_mem_cons.mpr ⟨fun d hd => ?_, ?_⟩
  · have e := hd.symm.trans zka_28
    cases e
    exact ⟨rfl, rfl, (show (0 : Nat) < 3 by decide), zrow0 (by decide +kernel)⟩
  refine List.forall_mem_cons.mpr ⟨fun d hd => ?_, ?_⟩
  · have e := hd.symm.trans zka_1
    cases e
    exact ⟨rfl, ⟨_, rfl, by decide⟩, ⟨_, rfl, by decide⟩, ⟨_, rfl, by decide⟩, ⟨_, 18, rfl, rfl, rfl⟩, ⟨_, 19, rfl, rfl, rfl⟩, ⟨_, 20, rfl, rfl, rfl⟩, ⟨_, 21, rfl, rfl, rfl⟩, trivial⟩
  refine List.forall_mem_cons.mpr ⟨fun d hd => ?_, ?_⟩
  · have e := hd.symm.trans zka_17
    cases e
    exact ⟨rfl, rfl, (show (1 : Nat) < 3 by decide), zrow0 (by decide +kernel)⟩
  refine List.forall_mem_cons.mpr ⟨fun d hd => ?_, ?_⟩
  · have e := hd.symm.trans zka_18
    cases e
    exact ⟨rfl, rfl, (show (0 : Nat) < 3 by decide), zrow0 (by decide +kernel)⟩
  refine List.forall_mem_cons.mpr ⟨fun d hd => ?_, ?_⟩
  · have e := hd.symm.trans zka_19
    cases e
    exact ⟨rfl, rfl, (show (0 : Nat) < 3 by decide), zrow0 (by decide +kernel)⟩
  refine List.forall_mem_cons.mpr ⟨fun d hd => ?_, ?_⟩
  · have e := hd.symm.trans zka_20
    cases e
    exact ⟨rfl, rfl, (show (0 : Nat) < 3 by decide), zrow0 (by decide +kernel)⟩
  refine List.forall_mem_cons.mpr ⟨fun d hd => ?_, ?_⟩
  · have e := hd.symm.trans zka_34
    cases e
    exact ⟨rfl, rfl, rfl, fun j hj => by
      rcases (show j = 0 ∨ j = 1 ∨ j = 2 from by have hj : j < 3 := hj; omega) with rfl | rfl | rfl
      · exact ⟨_, 46, rfl, rfl, rfl⟩
      · exact ⟨_, 57, rfl, rfl, rfl⟩
      · exact ⟨_, 68, rfl, rfl, rfl⟩⟩
  refine List.forall_mem_cons.mpr ⟨fun d hd => ?_, ?_⟩
  · have e := hd.symm.trans zka_35
    cases e
    exact ⟨rfl, rfl, (show (1 : Nat) < 3 by decide), zrow0 (by decide +kernel)⟩
  refine List.forall_mem_cons.mpr ⟨fun d hd => ?_, ?_⟩
  · have e := hd.symm.trans zka_0
    cases e
    exact ⟨rfl, ⟨_, 25, rfl, rfl, rfl⟩, ⟨_, rfl, by decide⟩, ⟨_, rfl, by decide⟩, ⟨_, rfl, by decide⟩, ⟨_, 26, rfl, rfl, rfl⟩, ⟨_, 27, rfl, rfl, rfl⟩, ⟨_, 28, rfl, rfl, rfl⟩, ⟨_, 29, rfl, rfl, rfl⟩, ⟨_, 30, rfl, rfl, rfl⟩, ⟨_, rfl, by decide⟩, ⟨_, 31, rfl, rfl, rfl⟩, ⟨_, 32, rfl, rfl, rfl⟩, ⟨_, 33, rfl, rfl, rfl⟩, ⟨_, 34, rfl, rfl, rfl⟩, trivial⟩
  refine List.forall_mem_cons.mpr ⟨fun d hd => ?_, ?_⟩
  · have e := hd.symm.trans zka_7
    cases e
    exact ⟨rfl, rfl, (show (0 : Nat) < 3 by decide), zrow0 (by decide +kernel)⟩
  refine List.forall_mem_cons.mpr ⟨fun d hd => ?_, ?_⟩
  · have e := hd.symm.trans zka_8
    cases e
    exact ⟨rfl, rfl, (show (0 : Nat) < 3 by decide), zrow0 (by decide +kernel)⟩
  refine List.forall_mem_cons.mpr ⟨fun d hd => ?_, ?_⟩
  · have e := hd.symm.trans zka_9
    cases e
    exact ⟨rfl, rfl, (show (0 : Nat) < 3 by decide), zrow0 (by decide +kernel)⟩
  refine List.forall_mem_cons.mpr ⟨fun d hd => ?_, ?_⟩
  · have e := hd.symm.trans zka_10
    cases e
    exact ⟨rfl, rfl, (show (0 : Nat) < 3 by decide), zrow0 (by decide +kernel)⟩
  refine List.forall_mem_cons.mpr ⟨fun d hd => ?_, ?_⟩
  · have e := hd.symm.trans zka_11
    cases e
    exact ⟨rfl, rfl, (show (0 : Nat) < 3 by decide), zrow0 (by decide +kernel)⟩
  refine List.forall_mem_cons.mpr ⟨fun d hd => ?_, ?_⟩
  · have e := hd.symm.trans zka_12
    cases e
    exact ⟨rfl, rfl, (show (0 : Nat) < 3 by decide), zrow0 (by decide +kernel)⟩
  refine List.forall_mem_cons.mpr ⟨fun d hd => ?_, ?_⟩
  · have e := hd.symm.trans zka_13
    cases e
    exact ⟨rfl, rfl, (show (0 : Nat) < 3 by decide), zrow0 (by decide +kernel)⟩
  refine List.forall_mem_cons.mpr ⟨fun d hd => ?_, ?_⟩
  · have e := hd.symm.trans zka_14
    cases e
    exact ⟨rfl, rfl, (show (0 : Nat) < 3 by decide), zrow0 (by decide +kernel)⟩
  refine List.forall_mem_cons.mpr ⟨fun d hd => ?_, ?_⟩
  · have e := hd.symm.trans zka_15
    cases e
    exact ⟨rfl, rfl, (show (0 : Nat) < 3 by decide), zrow0 (by decide +kernel)⟩
  refine List.forall_mem_cons.mpr ⟨fun d hd => ?_, ?_⟩
  · have e := hd.symm.trans zka_16
    cases e
    exact ⟨rfl, rfl, (show (0 : Nat) < 3 by decide), zrow0 (by decide +kernel)⟩
  refine List.forall_mem_cons.mpr ⟨fun d hd => ?_, ?_⟩
  · have e := hd.symm.trans zka_0
    cases e
    exact ⟨rfl, ⟨_, 36, rfl, rfl, rfl⟩, ⟨_, rfl, by decide⟩, ⟨_, rfl, by decide⟩, ⟨_, rfl, by decide⟩, ⟨_, 37, rfl, rfl, rfl⟩, ⟨_, 38, rfl, rfl, rfl⟩, ⟨_, 39, rfl, rfl, rfl⟩, ⟨_, 40, rfl, rfl, rfl⟩, ⟨_, 41, rfl, rfl, rfl⟩, ⟨_, rfl, by decide⟩, ⟨_, 42, rfl, rfl, rfl⟩, ⟨_, 43, rfl, rfl, rfl⟩, ⟨_, 44, rfl, rfl, rfl⟩, ⟨_, 45, rfl, rfl, rfl⟩, trivial⟩
  refine List.forall_mem_cons.mpr ⟨fun d hd => ?_, ?_⟩
  · have e := hd.symm.trans zka_7
    cases e
    exact ⟨rfl, rfl, (show (0 : Nat) < 3 by decide), zrow0 (by decide +kernel)⟩
  refine List.forall_mem_cons.mpr ⟨fun d hd => ?_, ?_⟩
  · have e := hd.symm.trans zka_8
    cases e
    exact ⟨rfl, rfl, (show (0 : Nat) < 3 by decide), zrow0 (by decide +kernel)⟩
  refine List.forall_mem_cons.mpr ⟨fun d hd => ?_, ?_⟩
  · have e := hd.symm.trans zka_9
    cases e
    exact ⟨rfl, rfl, (show (0 : Nat) < 3 by decide), zrow0 (by decide +kernel)⟩
  refine List.forall_mem_cons.mpr ⟨fun d hd => ?_, ?_⟩
  · have e := hd.symm.trans zka_10
    cases e
    exact ⟨rfl, rfl, (show (0 : Nat) < 3 by decide), zrow0 (by decide +kernel)⟩
  refine List.forall_mem_cons.mpr ⟨fun d hd => ?_, ?_⟩
  · have e := hd.symm.trans zka_11
    cases e
    exact ⟨rfl, rfl, (show (0 : Nat) < 3 by decide), zrow0 (by decide +kernel)⟩
  refine List.forall_mem_cons.mpr ⟨fun d hd => ?_, ?_⟩
  · have e := hd.symm.trans zka_12
    cases e
    exact ⟨rfl, rfl, (show (0 : Nat) < 3 by decide), zrow0 (by decide +kernel)⟩
  refine List.forall_mem_cons.mpr ⟨fun d hd => ?_, ?_⟩
  · have e := hd.symm.trans zka_13
    cases e
    exact ⟨rfl, rfl, (show (0 : Nat) < 3 by decide), zrow0 (by decide +kernel)⟩
  refine List.forall_mem_cons.mpr ⟨fun d hd => ?_, ?_⟩
  · have e := hd.symm.trans zka_14
    cases e
    exact ⟨rfl, rfl, (show (0 : Nat) < 3 by decide), zrow0 (by decide +kernel)⟩
  refine List.forall_mem_cons.mpr ⟨fun d hd => ?_, ?_⟩
  · have e := hd.symm.trans zka_15
    cases e
    exact ⟨rfl, rfl, (show (0 : Nat) < 3 by decide), zrow0 (by decide +kernel)⟩
  refine List.forall_mem_cons.mpr ⟨fun d hd => ?_, ?_⟩
  · have e := hd.symm.trans zka_16
    cases e
    exact ⟨rfl, rfl, (show (0 : Nat) < 3 by decide), zrow0 (by decide +kernel)⟩
  refine List.forall_mem_cons.mpr ⟨fun d hd => ?_, ?_⟩
  · have e := hd.symm.trans zka_0
    cases e
    exact ⟨rfl, ⟨_, 47, rfl, rfl, rfl⟩, ⟨_, rfl, by decide⟩, ⟨_, rfl, by decide⟩, ⟨_, rfl, by decide⟩, ⟨_, 48, rfl, rfl, rfl⟩, ⟨_, 49, rfl, rfl, rfl⟩, ⟨_, 50, rfl, rfl, rfl⟩, ⟨_, 51, rfl, rfl, rfl⟩, ⟨_, 52, rfl, rfl, rfl⟩, ⟨_, rfl, by decide⟩, ⟨_, 53, rfl, rfl, rfl⟩, ⟨_, 54, rfl, rfl, rfl⟩, ⟨_, 55, rfl, rfl, rfl⟩, ⟨_, 56, rfl, rfl, rfl⟩, trivial⟩
  refine List.forall_mem_cons.mpr ⟨fun d hd => ?_, ?_⟩
  · have e := hd.symm.trans zka_7
    cases e
    exact ⟨rfl, rfl, (show (0 : Nat) < 3 by decide), zrow0 (by decide +kernel)⟩
  refine List.forall_mem_cons.mpr ⟨fun d hd => ?_, ?_⟩
  · have e := hd.symm.trans zka_8
    cases e
    exact ⟨rfl, rfl, (show (0 : Nat) < 3 by decide), zrow0 (by decide +kernel)⟩
  refine List.forall_mem_cons.mpr ⟨fun d hd => ?_, ?_⟩
  · have e := hd.symm.trans zka_9
    cases e
    exact ⟨rfl, rfl, (show (0 : Nat) < 3 by decide), zrow0 (by decide +kernel)⟩
  refine List.forall_mem_cons.mpr ⟨fun d hd => ?_, ?_⟩
  · have e := hd.symm.trans zka_10
    cases e
    exact ⟨rfl, rfl, (show (0 : Nat) < 3 by decide), zrow0 (by decide +kernel)⟩
  refine List.forall_mem_cons.mpr ⟨fun d hd => ?_, ?_⟩
  · have e := hd.symm.trans zka_11
    cases e
    exact ⟨rfl, rfl, (show (0 : Nat) < 3 by decide), zrow0 (by decide +kernel)⟩
  refine List.forall_mem_cons.mpr ⟨fun d hd => ?_, ?_⟩
  · have e := hd.symm.trans zka_12
    cases e
    exact ⟨rfl, rfl, (show (0 : Nat) < 3 by decide), zrow0 (by decide +kernel)⟩
  refine List.forall_mem_cons.mpr ⟨fun d hd => ?_, ?_⟩
  · have e := hd.symm.trans zka_13
    cases e
    exact ⟨rfl, rfl, (show (0 : Nat) < 3 by decide), zrow0 (by decide +kernel)⟩
  refine List.forall_mem_cons.mpr ⟨fun d hd => ?_, ?_⟩
  · have e := hd.symm.trans zka_14
    cases e
    exact ⟨rfl, rfl, (show (0 : Nat) < 3 by decide), zrow0 (by decide +kernel)⟩
  refine List.forall_mem_cons.mpr ⟨fun d hd => ?_, ?_⟩
  · have e := hd.symm.trans zka_15
    cases e
    exact ⟨rfl, rfl, (show (0 : Nat) < 3 by decide), zrow0 (by decide +kernel)⟩
  refine List.forall_mem_cons.mpr ⟨fun d hd => ?_, ?_⟩
  · have e := hd.symm.trans zka_16
    cases e
    exact ⟨rfl, rfl, (show (0 : Nat) < 3 by decide), zrow0 (by decide +kernel)⟩
  refine List.forall_mem_cons.mpr ⟨fun d hd => ?_, ?_⟩
  · have e := hd.symm.trans zka_0
    cases e
    exact ⟨rfl, ⟨_, 58, rfl, rfl, rfl⟩, ⟨_, rfl, by decide⟩, ⟨_, rfl, by decide⟩, ⟨_, rfl, by decide⟩, ⟨_, 59, rfl, rfl, rfl⟩, ⟨_, 60, rfl, rfl, rfl⟩, ⟨_, 61, rfl, rfl, rfl⟩, ⟨_, 62, rfl, rfl, rfl⟩, ⟨_, 63, rfl, rfl, rfl⟩, ⟨_, rfl, by decide⟩, ⟨_, 64, rfl, rfl, rfl⟩, ⟨_, 65, rfl, rfl, rfl⟩, ⟨_, 66, rfl, rfl, rfl⟩, ⟨_, 67, rfl, rfl, rfl⟩, trivial⟩
  refine List.forall_mem_cons.mpr ⟨fun d hd => ?_, ?_⟩
  · have e := hd.symm.trans zka_7
    cases e
    exact ⟨rfl, rfl, (show (0 : Nat) < 3 by decide), zrow0 (by decide +kernel)⟩
  refine List.forall_mem_cons.mpr ⟨fun d hd => ?_, ?_⟩
  · have e := hd.symm.trans zka_8
    cases e
    exact ⟨rfl, rfl, (show (0 : Nat) < 3 by decide), zrow0 (by decide +kernel)⟩
  refine List.forall_mem_cons.mpr ⟨fun d hd => ?_, ?_⟩
  · have e := hd.symm.trans zka_9
    cases e
    exact ⟨rfl, rfl, (show (0 : Nat) < 3 by decide), zrow0 (by decide +kernel)⟩
  refine List.forall_mem_cons.mpr ⟨fun d hd => ?_, ?_⟩
  · have e := hd.symm.trans zka_10
    cases e
    exact ⟨rfl, rfl, (show (0 : Nat) < 3 by decide), zrow0 (by decide +kernel)⟩
  refine List.forall_mem_cons.mpr ⟨fun d hd => ?_, ?_⟩
  · have e := hd.symm.trans zka_11
    cases e
    exact ⟨rfl, rfl, (show (0 : Nat) < 3 by decide), zrow0 (by decide +kernel)⟩
  refine List.forall_mem_cons.mpr ⟨fun d hd => ?_, ?_⟩
  · have e := hd.symm.trans zka_12
    cases e
    exact ⟨rfl, rfl, (show (0 : Nat) < 3 by decide), zrow0 (by decide +kernel)⟩
  refine List.forall_mem_cons.mpr ⟨fun d hd => ?_, ?_⟩
  · have e := hd.symm.trans zka_13
    cases e
    exact ⟨rfl, rfl, (show (0 : Nat) < 3 by decide), zrow0 (by decide +kernel)⟩
  refine List.forall_mem_cons.mpr ⟨fun d hd => ?_, ?_⟩
  · have e := hd.symm.trans zka_14
    cases e
    exact ⟨rfl, rfl, (show (0 : Nat) < 3 by decide), zrow0 (by decide +kernel)⟩
  refine List.forall_mem_cons.mpr ⟨fun d hd => ?_, ?_⟩
  · have e := hd.symm.trans zka_15
    cases e
    exact ⟨rfl, rfl, (show (0 : Nat) < 3 by decide), zrow0 (by decide +kernel)⟩
  refine List.forall_mem_cons.mpr ⟨fun d hd => ?_, ?_⟩
  · have e := hd.symm.trans zka_16
    cases e
    exact ⟨rfl, rfl, (show (0 : Nat) < 3 by decide), zrow0 (by decide +kernel)⟩
  refine List.forall_mem_cons.mpr ⟨fun d hd => ?_, ?_⟩
  · have e := hd.symm.trans zka_0
    cases e
    exact ⟨rfl, ⟨_, 69, rfl, rfl, rfl⟩, ⟨_, rfl, by decide⟩, ⟨_, rfl, by decide⟩, ⟨_, rfl, by decide⟩, ⟨_, 70, rfl, rfl, rfl⟩, ⟨_, 71, rfl, rfl, rfl⟩, ⟨_, 72, rfl, rfl, rfl⟩, ⟨_, 73, rfl, rfl, rfl⟩, ⟨_, 74, rfl, rfl, rfl⟩, ⟨_, rfl, by decide⟩, ⟨_, 75, rfl, rfl, rfl⟩, ⟨_, 76, rfl, rfl, rfl⟩, ⟨_, 77, rfl, rfl, rfl⟩, ⟨_, 78, rfl, rfl, rfl⟩, trivial⟩
  refine List.forall_mem_cons.mpr ⟨fun d hd => ?_, ?_⟩
  · have e := hd.symm.trans zka_7
    cases e
    exact ⟨rfl, rfl, (show (0 : Nat) < 3 by decide), zrow0 (by decide +kernel)⟩
  refine List.forall_mem_cons.mpr ⟨fun d hd => ?_, ?_⟩
  · have e := hd.symm.trans zka_8
    cases e
    exact ⟨rfl, rfl, (show (0 : Nat) < 3 by decide), zrow0 (by decide +kernel)⟩
  refine List.forall_mem_cons.mpr ⟨fun d hd => ?_, ?_⟩
  · have e := hd.symm.trans zka_9
    cases e
    exact ⟨rfl, rfl, (show (0 : Nat) < 3 by decide), zrow0 (by decide +kernel)⟩
  refine List.forall_mem_cons.mpr ⟨fun d hd => ?_, ?_⟩
  · have e := hd.symm.trans zka_10
    cases e
    exact ⟨rfl, rfl, (show (0 : Nat) < 3 by decide), zrow0 (by decide +kernel)⟩
  refine List.forall_mem_cons.mpr ⟨fun d hd => ?_, ?_⟩
  · have e := hd.symm.trans zka_11
    cases e
    exact ⟨rfl, rfl, (show (0 : Nat) < 3 by decide), zrow0 (by decide +kernel)⟩
  refine List.forall_mem_cons.mpr ⟨fun d hd => ?_, ?_⟩
  · have e := hd.symm.trans zka_12
    cases e
    exact ⟨rfl, rfl, (show (0 : Nat) < 3 by decide), zrow0 (by decide +kernel)⟩
  refine List.forall_mem_cons.mpr ⟨fun d hd => ?_, ?_⟩
  · have e := hd.symm.trans zka_13
    cases e
    exact ⟨rfl, rfl, (show (0 : Nat) < 3 by decide), zrow0 (by decide +kernel)⟩
  refine List.forall_mem_cons.mpr ⟨fun d hd => ?_, ?_⟩
  · have e := hd.symm.trans zka_14
    cases e
    exact ⟨rfl, rfl, (show (0 : Nat) < 3 by decide), zrow0 (by decide +kernel)⟩
  refine List.forall_mem_cons.mpr ⟨fun d hd => ?_, ?_⟩
  · have e := hd.symm.trans zka_15
    cases e
    exact ⟨rfl, rfl, (show (0 : Nat) < 3 by decide), zrow0 (by decide +kernel)⟩
  refine List.forall_mem_cons.mpr ⟨fun d hd => ?_, ?_⟩
  · have e := hd.symm.trans zka_16
    cases e
    exact ⟨rfl, rfl, (show (0 : Nat) < 3 by decide), zrow0 (by decide +kernel)⟩
  refine List.forall_mem_cons.mpr ⟨fun d hd => ?_, ?_⟩
  · have e := hd.symm.trans zka_6
    cases e
    exact ⟨rfl, ⟨_, rfl, by decide⟩, ⟨_, 80, rfl, rfl, rfl⟩, ⟨_, 81, rfl, rfl, rfl⟩, ⟨_, 82, rfl, rfl, rfl⟩, ⟨_, 83, rfl, rfl, rfl⟩, ⟨_, 84, rfl, rfl, rfl⟩, ⟨_, rfl, by decide⟩, ⟨_, rfl, by decide⟩, ⟨_, rfl, by decide⟩, ⟨_, rfl, by decide⟩, ⟨_, rfl, by decide⟩, ⟨_, rfl, by decide⟩, ⟨_, rfl, by decide⟩, ⟨_, rfl, by decide⟩, ⟨_, rfl, by decide⟩, ⟨_, rfl, by decide⟩, ⟨_, 85, rfl, rfl, rfl⟩, ⟨_, 86, rfl, rfl, rfl⟩, ⟨_, 87, rfl, rfl, rfl⟩, ⟨_, 88, rfl, rfl, rfl⟩, ⟨_, 89, rfl, rfl, rfl⟩, ⟨_, 90, rfl, rfl, rfl⟩, ⟨_, 91, rfl, rfl, rfl⟩, ⟨_, 92, rfl, rfl, rfl⟩, ⟨_, 93, rfl, rfl, rfl⟩, ⟨_, rfl, by decide⟩, ⟨_, rfl, by decide⟩, ⟨_, rfl, by decide⟩, ⟨_, rfl, by decide⟩, ⟨_, rfl, by decide⟩, ⟨_, 94, rfl, rfl, rfl⟩, ⟨_, 95, rfl, rfl, rfl⟩, ⟨_, 96, rfl, rfl, rfl⟩, ⟨_, 97, rfl, rfl, rfl⟩, ⟨_, rfl, by decide⟩, ⟨_, rfl, by decide⟩, trivial⟩
  refine List.forall_mem_cons.mpr ⟨fun d hd => ?_, ?_⟩
  · have e := hd.symm.trans zka_36
    cases e
    exact ⟨rfl, rfl, (show (0 : Nat) < 3 by decide), fun j hj => by
      rcases (show j = 0 ∨ j = 1 ∨ j = 2 ∨ j = 3 from by have hj : j < 4 := hj; omega) with rfl | rfl | rfl | rfl <;> decide⟩
  refine List.forall_mem_cons.mpr ⟨fun d hd => ?_, ?_⟩
  · have e := hd.symm.trans zka_37
    cases e
    exact ⟨rfl, rfl, (show (0 : Nat) < 3 by decide), zrow0 (by decide +kernel)⟩
  refine List.forall_mem_cons.mpr ⟨fun d hd => ?_, ?_⟩
  · have e := hd.symm.trans zka_38
    cases e
    exact ⟨rfl, rfl, rfl, zrow0L (by decide +kernel)⟩
  refine List.forall_mem_cons.mpr ⟨fun d hd => ?_, ?_⟩
  · have e := hd.symm.trans zka_39
    cases e
    exact ⟨rfl, rfl, rfl, zrow0L (by decide +kernel)⟩
  refine List.forall_mem_cons.mpr ⟨fun d hd => ?_, ?_⟩
  · have e := hd.symm.trans zka_40
    cases e
    exact ⟨rfl, rfl, (show (2 : Nat) < 3 by decide), zrow0 (by decide +kernel)⟩
  refine List.forall_mem_cons.mpr ⟨fun d hd => ?_, ?_⟩
  · have e := hd.symm.trans zka_41
    cases e
    exact ⟨rfl, rfl, (show (0 : Nat) < 3 by decide), zrow0 (by decide +kernel)⟩
  refine List.forall_mem_cons.mpr ⟨fun d hd => ?_, ?_⟩
  · have e := hd.symm.trans zka_42
    cases e
    exact ⟨rfl, rfl, (show (0 : Nat) < 3 by decide), zrow0 (by decide +kernel)⟩
  refine List.forall_mem_cons.mpr ⟨fun d hd => ?_, ?_⟩
  · have e := hd.symm.trans zka_43
    cases e
    exact ⟨rfl, rfl, (show (0 : Nat) < 3 by decide), zrow0 (by decide +kernel)⟩
  refine List.forall_mem_cons.mpr ⟨fun d hd => ?_, ?_⟩
  · have e := hd.symm.trans zka_44
    cases e
    exact ⟨rfl, rfl, (show (0 : Nat) < 3 by decide), zrow0 (by decide +kernel)⟩
  refine List.forall_mem_cons.mpr ⟨fun d hd => ?_, ?_⟩
  · have e := hd.symm.trans zka_45
    cases e
    exact ⟨rfl, rfl, (show (0 : Nat) < 3 by decide), zrow0 (by decide +kernel)⟩
  refine List.forall_mem_cons.mpr ⟨fun d hd => ?_, ?_⟩
  · have e := hd.symm.trans zka_46
    cases e
    exact ⟨rfl, rfl, (show (1 : Nat) < 3 by decide), zrow0 (by decide +kernel)⟩
  refine List.forall_mem_cons.mpr ⟨fun d hd => ?_, ?_⟩
  · have e := hd.symm.trans zka_47
    cases e
    exact ⟨rfl, rfl, (show (0 : Nat) < 3 by decide), zrow0 (by decide +kernel)⟩
  refine List.forall_mem_cons.mpr ⟨fun d hd => ?_, ?_⟩
  · have e := hd.symm.trans zka_48
    cases e
    exact ⟨rfl, rfl, (show (0 : Nat) < 3 by decide), zrow0 (by decide +kernel)⟩
  refine List.forall_mem_cons.mpr ⟨fun d hd => ?_, ?_⟩
  · have e := hd.symm.trans zka_49
    cases e
    exact ⟨rfl, rfl, (show (0 : Nat) < 3 by decide), zrow0 (by decide +kernel)⟩
  refine List.forall_mem_cons.mpr ⟨fun d hd => ?_, ?_⟩
  · have e := hd.symm.trans zka_50
    cases e
    exact ⟨rfl, rfl, (show (0 : Nat) < 3 by decide), zrow0 (by decide +kernel)⟩
  refine List.forall_mem_cons.mpr ⟨fun d hd => ?_, ?_⟩
  · have e := hd.symm.trans zka_51
    cases e
    exact ⟨rfl, rfl, (show (0 : Nat) < 3 by decide), zrow0 (by decide +kernel)⟩
  refine List.forall_mem_cons.mpr ⟨fun d hd => ?_, ?_⟩
  · have e := hd.symm.trans zka_52
    cases e
    exact ⟨rfl, rfl, (show (0 : Nat) < 3 by decide), zrow0 (by decide +kernel)⟩
  refine List.forall_mem_cons.mpr ⟨fun d hd => ?_, ?_⟩
  · have e := hd.symm.trans zka_53
    cases e
    exact ⟨rfl, rfl, (show (0 : Nat) < 3 by decide), zrow0 (by decide +kernel)⟩
  exact nilz
theorem zk0 : ∀ i : Nat, i < 114 → zkk[i]? = some 0 → i = 24 ∨ i = 35 ∨ i = 46 ∨ i = 57 ∨ i = 68 := by decide
theorem zk45 : ∀ i : Nat, i < 114 → zkk[i]? = some 45 → i = 89 := by decide
theorem zlt {i k : Nat} (h : zkk[i]? = some k) : i < 114 := (List.getElem?_eq_some_iff.mp h).1
set_option maxRecDepth 100000 in
theorem zpsi0 {cI cZ cB cJ cR : ClassId} (h g : Nat) (u : Nat → Nat → Nat) (v : Nat → Nat) (x0 x1 x2 x3 x4 x5 x6 x7 x8 x9 x10 x11 x12 x13 x14 x15 : Nat) : zPsi zkk (zad h g u v x0 x1 x2 x3 x4 x5 x6 x7 x8 x9 x10 x11 x12 x13 x14 x15) (zws cI cZ cB cJ cR h g u v) := by
  refine ⟨fun i hi => ?_, fun i a c m f hi hf n hn => ?_⟩
  · rcases zk0 i (zlt hi) hi with rfl | rfl | rfl | rfl | rfl
    · exact ⟨_, _, rfl, rfl, rfl, rfl, fun a ci fs hf => by cases hf; exact ⟨rfl, rfl⟩, fun b1 b2 c1 c2 n1 n2 h b g1 g2 n hn => by cases g1; cases g2; exact ⟨fun h9 => absurd h9 (by show ¬ (0 : Int) = -1; decide), fun _ => (by show (0 : Int) ≤ 0; decide)⟩⟩
    · exact ⟨_, _, rfl, rfl, rfl, rfl, fun a ci fs hf => by cases hf; exact ⟨rfl, rfl⟩, fun b1 b2 c1 c2 n1 n2 h b g1 g2 n hn => by cases g1; cases g2; exact ⟨fun h9 => absurd h9 (by show ¬ (0 : Int) = -1; decide), fun _ => (by show (0 : Int) ≤ 0; decide)⟩⟩
    · exact ⟨_, _, rfl, rfl, rfl, rfl, fun a ci fs hf => by cases hf; exact ⟨rfl, rfl⟩, fun b1 b2 c1 c2 n1 n2 h b g1 g2 n hn => by cases g1; cases g2; exact ⟨fun h9 => absurd h9 (by show ¬ (0 : Int) = -1; decide), fun _ => (by show (0 : Int) ≤ 0; decide)⟩⟩
    · exact ⟨_, _, rfl, rfl, rfl, rfl, fun a ci fs hf => by cases hf; exact ⟨rfl, rfl⟩, fun b1 b2 c1 c2 n1 n2 h b g1 g2 n hn => by cases g1; cases g2; exact ⟨fun h9 => absurd h9 (by show ¬ (0 : Int) = -1; decide), fun _ => (by show (0 : Int) ≤ 0; decide)⟩⟩
    · exact ⟨_, _, rfl, rfl, rfl, rfl, fun a ci fs hf => by cases hf; exact ⟨rfl, rfl⟩, fun b1 b2 c1 c2 n1 n2 h b g1 g2 n hn => by cases g1; cases g2; exact ⟨fun h9 => absurd h9 (by show ¬ (0 : Int) = -1; decide), fun _ => (by show (0 : Int) ≤ 0; decide)⟩⟩
  · obtain rfl := zk45 i (zlt hi) hi
    cases hf
    exact ⟨fun _ => (by show (0 : Int) ≤ 6; decide), fun _ => (by show (0 : Int) ≤ 0; decide)⟩
theorem zuq1 : ∀ i : Nat, i < 114 → ∀ k ∈ zuq, zkk[i]? = some k → zpl k zkk = some i := by decide +kernel
theorem zuq2 : ∀ k ∈ zuq, (zpl k zkk).isSome = true := by decide +kernel
theorem zworld0 (h g : Nat) (u : Nat → Nat → Nat) (v : Nat → Nat) (x0 x1 x2 x3 x4 x5 x6 x7 x8 x9 x10 x11 x12 x13 x14 x15 : Nat) : zworld zkk (zad h g u v x0 x1 x2 x3 x4 x5 x6 x7 x8 x9 x10 x11 x12 x13 x14 x15) zuq zNS (zPsi zkk (zad h g u v x0 x1 x2 x3 x4 x5 x6 x7 x8 x9 x10 x11 x12 x13 x14 x15)) := by
  refine ⟨fun k hk i j hi hj => ?_, fun k hk => ?_, rfl, fun ws i k a e e' h1 h2 h3 h4 h5 => zPsi_set h1 h2 h3 h4 h5⟩
  · have e1 := zuq1 i (zlt hi) k hk hi
    have e2 := zuq1 j (zlt hj) k hk hj
    rw [e1] at e2
    exact Option.some.inj e2
  · obtain ⟨i, hi⟩ := Option.isSome_iff_exists.mp (zuq2 k hk)
    exact ⟨i, zpl_some hi⟩
