/-! ### numbers of 32 and 64 bits -/
theorem bmT {z : Int} (h : -2147483648 ≤ z ∧ z ≤ 2147483647) : z.bmod (2 ^ 32) = z := by
  rw [Int.bmod_def]
  split <;> omega
theorem bmL {z : Int} (h : -9223372036854775808 ≤ z ∧ z ≤ 9223372036854775807) : z.bmod (2 ^ 64) = z := by
  rw [Int.bmod_def]
  split <;> omega
theorem bT (x : Int32) : -2147483648 ≤ x.toInt ∧ x.toInt ≤ 2147483647 := by
  have h1 := Int32.le_toInt x
  have h2 := Int32.toInt_lt x
  constructor <;> omega
theorem bL (x : Int64) : -9223372036854775808 ≤ x.toInt ∧ x.toInt ≤ 9223372036854775807 := by
  have h1 := Int64.le_toInt x
  have h2 := Int64.toInt_lt x
  constructor <;> omega
theorem oT {n : Int} (h : -2147483648 ≤ n ∧ n ≤ 2147483647) : (Int32.ofInt n).toInt = n := by
  rw [Int32.toInt_ofInt]; exact bmT h
theorem oL {n : Int} (h : -9223372036854775808 ≤ n ∧ n ≤ 9223372036854775807) : (Int64.ofInt n).toInt = n := by
  rw [Int64.toInt_ofInt]; exact bmL h
theorem oB {n : Int} (h : -128 ≤ n ∧ n ≤ 127) : (Int8.ofInt n).toInt32.toInt = n := by
  rw [Int8.toInt_toInt32, Int8.toInt_ofInt]
  show n.bmod (2 ^ 8) = n
  rw [Int.bmod_def]
  split <;> omega
theorem oS {n : Int} (h : -32768 ≤ n ∧ n ≤ 32767) : (Int16.ofInt n).toInt32.toInt = n := by
  rw [Int16.toInt_toInt32, Int16.toInt_ofInt]
  show n.bmod (2 ^ 16) = n
  rw [Int.bmod_def]
  split <;> omega
theorem oN (n : Fin 2) : (Int64.ofNat (n : Nat)).toInt = (n.val : Int) := by
  match n with
  | 0 => rfl
  | 1 => rfl
theorem addI (x y : Int32) (h : -2147483648 ≤ x.toInt + y.toInt ∧ x.toInt + y.toInt ≤ 2147483647) : (x + y).toInt = x.toInt + y.toInt := by rw [Int32.toInt_add]; exact bmT h
theorem subI (x y : Int32) (h : -2147483648 ≤ x.toInt - y.toInt ∧ x.toInt - y.toInt ≤ 2147483647) : (x - y).toInt = x.toInt - y.toInt := by rw [Int32.toInt_sub]; exact bmT h
theorem mulI (x y : Int32) (h : -2147483648 ≤ x.toInt * y.toInt ∧ x.toInt * y.toInt ≤ 2147483647) : (x * y).toInt = x.toInt * y.toInt := by rw [Int32.toInt_mul]; exact bmT h
theorem addL (x y : Int64) (h : -9223372036854775808 ≤ x.toInt + y.toInt ∧ x.toInt + y.toInt ≤ 9223372036854775807) : (x + y).toInt = x.toInt + y.toInt := by rw [Int64.toInt_add]; exact bmL h
theorem subL (x y : Int64) (h : -9223372036854775808 ≤ x.toInt - y.toInt ∧ x.toInt - y.toInt ≤ 9223372036854775807) : (x - y).toInt = x.toInt - y.toInt := by rw [Int64.toInt_sub]; exact bmL h
theorem mulL (x y : Int64) (h : -9223372036854775808 ≤ x.toInt * y.toInt ∧ x.toInt * y.toInt ≤ 9223372036854775807) : (x * y).toInt = x.toInt * y.toInt := by rw [Int64.toInt_mul]; exact bmL h
theorem i2L (x : Int32) : x.toInt64.toInt = x.toInt := Int32.toInt_toInt64 x
theorem l2I (x : Int64) (h : -2147483648 ≤ x.toInt ∧ x.toInt ≤ 2147483647) : x.toInt32.toInt = x.toInt := by
  rw [Int64.toInt_toInt32]; exact bmT h
theorem i2B (x : Int32) : -128 ≤ x.toInt8.toInt32.toInt ∧ x.toInt8.toInt32.toInt ≤ 127 := by
  rw [Int8.toInt_toInt32]
  have h1 := Int8.le_toInt x.toInt8
  have h2 := Int8.toInt_lt x.toInt8
  constructor <;> omega
theorem i2Bs (x : Int32) (h : -128 ≤ x.toInt ∧ x.toInt ≤ 127) : x.toInt8.toInt32.toInt = x.toInt := by
  rw [Int8.toInt_toInt32, Int32.toInt_toInt8]
  show x.toInt.bmod (2 ^ 8) = x.toInt
  rw [Int.bmod_def]
  split <;> omega
theorem i2S (x : Int32) : -32768 ≤ x.toInt16.toInt32.toInt ∧ x.toInt16.toInt32.toInt ≤ 32767 := by
  rw [Int16.toInt_toInt32]
  have h1 := Int16.le_toInt x.toInt16
  have h2 := Int16.toInt_lt x.toInt16
  constructor <;> omega
theorem i2Ss (x : Int32) (h : -32768 ≤ x.toInt ∧ x.toInt ≤ 32767) : x.toInt16.toInt32.toInt = x.toInt := by
  rw [Int16.toInt_toInt32, Int32.toInt_toInt16]
  show x.toInt.bmod (2 ^ 16) = x.toInt
  rw [Int.bmod_def]
  split <;> omega
theorem andC (x y : Int32) : x &&& y = y &&& x := by
  apply Int32.toBitVec_inj.mp
  rw [Int32.toBitVec_and, Int32.toBitVec_and, BitVec.and_comm]
theorem andI (x y : Int32) (h : 0 ≤ y.toInt) : 0 ≤ (x &&& y).toInt ∧ (x &&& y).toInt ≤ y.toInt := by
  have e : (x &&& y).toBitVec = x.toBitVec &&& y.toBitVec := Int32.toBitVec_and x y
  have e1 : (x &&& y).toInt = (x.toBitVec &&& y.toBitVec).toInt := by rw [← e]; rfl
  have e2 : y.toInt = y.toBitVec.toInt := rfl
  rw [e1, e2]
  rw [e2] at h
  have hn : (x.toBitVec &&& y.toBitVec).toNat ≤ y.toBitVec.toNat := by rw [BitVec.toNat_and]; exact Nat.and_le_right
  have hy : y.toBitVec.toNat < 2 ^ 31 := by
    rw [BitVec.toInt_eq_toNat_cond] at h
    have := y.toBitVec.isLt
    split at h <;> omega
  rw [BitVec.toInt_eq_toNat_cond, BitVec.toInt_eq_toNat_cond]
  rw [if_pos (by omega), if_pos (by omega)]
  omega
theorem cmpL {x y : Int64} : -1 ≤ (lg_cmp x y).toInt ∧ (lg_cmp x y).toInt ≤ 1 := by
  unfold lg_cmp
  split
  · decide
  · split <;> decide
theorem cmp_lt {x y : Int64} (h : (lg_cmp x y).toInt < 0) : x.toInt < y.toInt := Int64.lt_iff_toInt_lt.mp ((lg_cmp_lt x y).mp (Int32.lt_iff_toInt_lt.mpr h))
theorem cmp_ge {x y : Int64} (h : 0 ≤ (lg_cmp x y).toInt) : y.toInt ≤ x.toInt := Int64.le_iff_toInt_le.mp ((lg_cmp_ge x y).mp (Int32.le_iff_toInt_le.mpr h))
theorem cmp_gt {x y : Int64} (h : 0 < (lg_cmp x y).toInt) : y.toInt < x.toInt := Int64.lt_iff_toInt_lt.mp ((lg_cmp_gt x y).mp (Int32.lt_iff_toInt_lt.mpr h))
theorem cmp_le {x y : Int64} (h : (lg_cmp x y).toInt ≤ 0) : x.toInt ≤ y.toInt := Int64.le_iff_toInt_le.mp ((lg_cmp_le x y).mp (Int32.le_iff_toInt_le.mpr h))
theorem ne32 {x y : Int32} (h : x.toInt ≠ y.toInt) : ¬ x = y := fun e => h (by rw [e])
theorem ne64 {x : Int64} (h : x.toInt ≠ 0) : ¬ x = 0 := fun e => h (by rw [e]; rfl)
theorem ne320 {x : Int32} (h : x.toInt ≠ 0) : ¬ x = 0 := fun e => h (by rw [e]; rfl)
theorem mulB {a b la ha lb hb : Int} (h1 : la ≤ a) (h2 : a ≤ ha) (h3 : lb ≤ b) (h4 : b ≤ hb) : zmin4 (la * lb) (la * hb) (ha * lb) (ha * hb) ≤ a * b ∧ a * b ≤ zmax4 (la * lb) (la * hb) (ha * lb) (ha * hb) := by
  have lin : ∀ {u v lv hv : Int}, lv ≤ v → v ≤ hv → min (u * lv) (u * hv) ≤ u * v ∧ u * v ≤ max (u * lv) (u * hv) := by
    intro u v lv hv g1 g2
    by_cases hu : 0 ≤ u
    · have a1 := Int.mul_le_mul_of_nonneg_left g1 hu
      have a2 := Int.mul_le_mul_of_nonneg_left g2 hu
      omega
    · have a1 := Int.mul_le_mul_of_nonpos_left (a := u) (by omega) g1
      have a2 := Int.mul_le_mul_of_nonpos_left (a := u) (by omega) g2
      omega
  have p1 := lin (u := a) h3 h4
  have p2 := lin (u := lb) h1 h2
  have p3 := lin (u := hb) h1 h2
  rw [Int.mul_comm lb a, Int.mul_comm lb la, Int.mul_comm lb ha] at p2
  rw [Int.mul_comm hb a, Int.mul_comm hb la, Int.mul_comm hb ha] at p3
  unfold zmin4 zmax4
  omega
theorem remI (x y : Int32) (hx : 0 ≤ x.toInt) (hy : 0 < y.toInt) : (x - x / y * y).toInt = x.toInt % y.toInt := by
  have hd : (x / y).toInt = x.toInt / y.toInt := by
    rw [Int32.toInt_div]
    have h1 : x.toInt.tdiv y.toInt = x.toInt / y.toInt := Int.tdiv_eq_ediv_of_nonneg hx
    rw [h1]
    have h2 : 0 ≤ x.toInt / y.toInt := Int.ediv_nonneg hx (Int.le_of_lt hy)
    have h3 : x.toInt / y.toInt ≤ x.toInt := Int.ediv_le_self _ hx
    have h4 := bT x
    exact bmT (by constructor <;> omega)
  have hmod := Int.emod_add_mul_ediv x.toInt y.toInt
  have hm0 := Int.emod_nonneg x.toInt (Int.ne_of_gt hy)
  have hb := bT x
  have hq : 0 ≤ x.toInt / y.toInt * y.toInt := Int.mul_nonneg (Int.ediv_nonneg hx (Int.le_of_lt hy)) (Int.le_of_lt hy)
  have hc : y.toInt * (x.toInt / y.toInt) = x.toInt / y.toInt * y.toInt := Int.mul_comm _ _
  have hm : (x / y * y).toInt = x.toInt / y.toInt * y.toInt := by
    rw [mulI _ _ (by rw [hd]; constructor <;> omega), hd]
  rw [subI _ _ (by rw [hm]; constructor <;> omega), hm]
  omega
theorem remL (x y : Int64) (hx : 0 ≤ x.toInt) (hy : 0 < y.toInt) : (x - x / y * y).toInt = x.toInt % y.toInt := by
  have hd : (x / y).toInt = x.toInt / y.toInt := by
    rw [Int64.toInt_div]
    have h1 : x.toInt.tdiv y.toInt = x.toInt / y.toInt := Int.tdiv_eq_ediv_of_nonneg hx
    rw [h1]
    have h2 : 0 ≤ x.toInt / y.toInt := Int.ediv_nonneg hx (Int.le_of_lt hy)
    have h3 : x.toInt / y.toInt ≤ x.toInt := Int.ediv_le_self _ hx
    have h4 := bL x
    exact bmL (by constructor <;> omega)
  have hmod := Int.emod_add_mul_ediv x.toInt y.toInt
  have hm0 := Int.emod_nonneg x.toInt (Int.ne_of_gt hy)
  have hb := bL x
  have hq : 0 ≤ x.toInt / y.toInt * y.toInt := Int.mul_nonneg (Int.ediv_nonneg hx (Int.le_of_lt hy)) (Int.le_of_lt hy)
  have hc : y.toInt * (x.toInt / y.toInt) = x.toInt / y.toInt * y.toInt := Int.mul_comm _ _
  have hm : (x / y * y).toInt = x.toInt / y.toInt * y.toInt := by
    rw [mulL _ _ (by rw [hd]; constructor <;> omega), hd]
  rw [subL _ _ (by rw [hm]; constructor <;> omega), hm]
  omega
theorem cmpB {x y : Int64} {a b : Int × Int} (ha : a.1 ≤ x.toInt ∧ x.toInt ≤ a.2) (hb : b.1 ≤ y.toInt ∧ y.toInt ≤ b.2) : (zcl a b).1 ≤ (lg_cmp x y).toInt ∧ (lg_cmp x y).toInt ≤ (zcl a b).2 := by
  have h0 := cmpL (x := x) (y := y)
  have hge : y.toInt ≤ x.toInt → 0 ≤ (lg_cmp x y).toInt := fun h => Int32.le_iff_toInt_le.mp ((lg_cmp_ge x y).mpr (Int64.le_iff_toInt_le.mpr h))
  have hgt : y.toInt < x.toInt → 0 < (lg_cmp x y).toInt := fun h => Int32.lt_iff_toInt_lt.mp ((lg_cmp_gt x y).mpr (Int64.lt_iff_toInt_lt.mpr h))
  have hle : x.toInt ≤ y.toInt → (lg_cmp x y).toInt ≤ 0 := fun h => Int32.le_iff_toInt_le.mp ((lg_cmp_le x y).mpr (Int64.le_iff_toInt_le.mpr h))
  have hlt : x.toInt < y.toInt → (lg_cmp x y).toInt < 0 := fun h => Int32.lt_iff_toInt_lt.mp ((lg_cmp_lt x y).mpr (Int64.lt_iff_toInt_lt.mpr h))
  unfold zcl
  constructor
  · dsimp only
    split
    · rename_i c; rw [decide_eq_true_eq] at c; have := hgt (by omega); omega
    · split
      · rename_i c; rw [decide_eq_true_eq] at c; exact hge (by omega)
      · exact h0.1
  · dsimp only
    split
    · rename_i c; rw [decide_eq_true_eq] at c; have := hlt (by omega); omega
    · split
      · rename_i c; rw [decide_eq_true_eq] at c; exact hle (by omega)
      · exact h0.2
