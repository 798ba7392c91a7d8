theorem zstr_of {args : Array Value} {s : State} {tm : Term} {n : Nat} {byt : List Int32} {A : Nat → Prop} (hn : n ≤ 6) (hex : (Cond.exactly tm "java/lang/String").before args s = true) (hco : (Cond.eq (.field tm "java/lang/String" "coder" "B") (.int 0)).before args s = true) (har : (Cond.arrayOf (.field tm "java/lang/String" "value" "[B") .byte).before args s = true) (hle : (Cond.eq (.length (.field tm "java/lang/String" "value" "[B")) (.int (Int32.ofNat n))).before args s = true) (hel : ∀ j : Nat, j < n → (Cond.eq (.elem (.field tm "java/lang/String" "value" "[B") (.int (Int32.ofNat j))) (.int (byt.getD j 0))).before args s = true) (hA : ∀ a : Nat, a < s.heap.size → ¬ A a) : ∃ a : Nat, tm.eval args s none [] s = some (.ref a) ∧ zStr a A s s.heap := by
  obtain ⟨adK, adV, h1, h2⟩ := vk_Sof (N := 1) (tm := fun _ => tm) (len := [n]) (byt := [byt]) (fun i hi => by obtain rfl : i = 0 := (by omega); show n < 2 ^ 31; omega) (fun _ _ => hex) (fun _ _ => hco) (fun _ _ => har) (fun i hi => by obtain rfl : i = 0 := (by omega); exact hle) (fun i hi j hj => by obtain rfl : i = 0 := (by omega); exact hel j hj) (fun i j hi hj hne => absurd (show i = j by omega) hne) hA
  obtain ⟨z1, z2, z3, z4⟩ := h1.1 0 (by decide)
  exact ⟨adK 0, h2 0 (by decide), n, adV 0, fun j => byt.getD j 0, hn, z1, z2, z3, z4⟩
theorem zk54 : ∀ i : Nat, i < 114 → zkk[i]? = some 54 → 98 ≤ i ∧ i < 112 := by decide
theorem zk55 : ∀ i : Nat, i < 114 → ∀ k ∈ zkk, 55 ≤ k → zkk[i]? = some k → (i = 112 ∧ k = 55) ∨ (i = 113 ∧ k = 56) := by decide +kernel
set_option maxRecDepth 100000 in
set_option maxHeartbeats 4000000 in
theorem zst_at {s : State} {b : Nat} (hts : ∀ w ∈ lw_tbl, w.before #[Value.ref b] s = true) (hgv : (Jvm.Cond.and given_1 narrow_1).before #[Value.ref b] s = true) : ∃ x0 x1 x2 x3 x4 x5 x6 x7 x8 x9 x10 x11 x12 x13 x14 x15 : Nat, ∀ (h g : Nat) (u : Nat → Nat → Nat) (v : Nat → Nat), zSt zkk (zad h g u v x0 x1 x2 x3 x4 x5 x6 x7 x8 x9 x10 x11 x12 x13 x14 x15) (lwA s) s s.heap := by
  have hs := flat_of_before _ hgv
  have hA : ∀ a : Nat, a < s.heap.size → ¬ lwA s a := fun a h h2 => absurd h2 (Nat.not_le.mpr h)
  obtain ⟨x0, e0, z0⟩ := zstr_of (args := #[Value.ref b]) (tm := .string "AlibiRota$Tape" 113) (n := 2) (byt := [97, 116]) (A := lwA s) (by decide) (hs _ (by decide +kernel)) (hs _ (by decide +kernel)) (hs _ (by decide +kernel)) (hs _ (by decide +kernel)) (fun j hj => by
    rcases (show j = 0 ∨ j = 1 from by omega) with rfl | rfl <;> exact hs _ (by decide +kernel)) hA
  obtain ⟨x1, e1, z1⟩ := zstr_of (args := #[Value.ref b]) (tm := .string "AlibiRota$Tape" 115) (n := 2) (byt := [116, 111]) (A := lwA s) (by decide) (hs _ (by decide +kernel)) (hs _ (by decide +kernel)) (hs _ (by decide +kernel)) (hs _ (by decide +kernel)) (fun j hj => by
    rcases (show j = 0 ∨ j = 1 from by omega) with rfl | rfl <;> exact hs _ (by decide +kernel)) hA
  obtain ⟨x2, e2, z2⟩ := zstr_of (args := #[Value.ref b]) (tm := .string "AlibiRota$Tape" 121) (n := 6) (byt := [101, 114, 114, 97, 110, 100]) (A := lwA s) (by decide) (hs _ (by decide +kernel)) (hs _ (by decide +kernel)) (hs _ (by decide +kernel)) (hs _ (by decide +kernel)) (fun j hj => by
    rcases (show j = 0 ∨ j = 1 ∨ j = 2 ∨ j = 3 ∨ j = 4 ∨ j = 5 from by omega) with rfl | rfl | rfl | rfl | rfl | rfl <;> exact hs _ (by decide +kernel)) hA
  obtain ⟨x3, e3, z3⟩ := zstr_of (args := #[Value.ref b]) (tm := .string "AlibiRota$Tape" 123) (n := 2) (byt := [105, 110]) (A := lwA s) (by decide) (hs _ (by decide +kernel)) (hs _ (by decide +kernel)) (hs _ (by decide +kernel)) (hs _ (by decide +kernel)) (fun j hj => by
    rcases (show j = 0 ∨ j = 1 from by omega) with rfl | rfl <;> exact hs _ (by decide +kernel)) hA
  obtain ⟨x4, e4, z4⟩ := zstr_of (args := #[Value.ref b]) (tm := .string "AlibiRota$Tape" 132) (n := 6) (byt := [112, 108, 97, 99, 101, 115]) (A := lwA s) (by decide) (hs _ (by decide +kernel)) (hs _ (by decide +kernel)) (hs _ (by decide +kernel)) (hs _ (by decide +kernel)) (fun j hj => by
    rcases (show j = 0 ∨ j = 1 ∨ j = 2 ∨ j = 3 ∨ j = 4 ∨ j = 5 from by omega) with rfl | rfl | rfl | rfl | rfl | rfl <;> exact hs _ (by decide +kernel)) hA
  obtain ⟨x5, e5, z5⟩ := zstr_of (args := #[Value.ref b]) (tm := .string "AlibiRota$Tape" 133) (n := 5) (byt := [104, 111, 117, 114, 115]) (A := lwA s) (by decide) (hs _ (by decide +kernel)) (hs _ (by decide +kernel)) (hs _ (by decide +kernel)) (hs _ (by decide +kernel)) (fun j hj => by
    rcases (show j = 0 ∨ j = 1 ∨ j = 2 ∨ j = 3 ∨ j = 4 from by omega) with rfl | rfl | rfl | rfl | rfl <;> exact hs _ (by decide +kernel)) hA
  obtain ⟨x6, e6, z6⟩ := zstr_of (args := #[Value.ref b]) (tm := .string "AlibiRota$Tape" 134) (n := 5) (byt := [115, 105, 103, 104, 116]) (A := lwA s) (by decide) (hs _ (by decide +kernel)) (hs _ (by decide +kernel)) (hs _ (by decide +kernel)) (hs _ (by decide +kernel)) (fun j hj => by
    rcases (show j = 0 ∨ j = 1 ∨ j = 2 ∨ j = 3 ∨ j = 4 from by omega) with rfl | rfl | rfl | rfl | rfl <;> exact hs _ (by decide +kernel)) hA
  obtain ⟨x7, e7, z7⟩ := zstr_of (args := #[Value.ref b]) (tm := .string "AlibiRota$Tape" 136) (n := 4) (byt := [112, 97, 99, 101]) (A := lwA s) (by decide) (hs _ (by decide +kernel)) (hs _ (by decide +kernel)) (hs _ (by decide +kernel)) (hs _ (by decide +kernel)) (fun j hj => by
    rcases (show j = 0 ∨ j = 1 ∨ j = 2 ∨ j = 3 from by omega) with rfl | rfl | rfl | rfl <;> exact hs _ (by decide +kernel)) hA
  obtain ⟨x8, e8, z8⟩ := zstr_of (args := #[Value.ref b]) (tm := .string "AlibiRota$Tape" 138) (n := 4) (byt := [102, 105, 110, 101]) (A := lwA s) (by decide) (hs _ (by decide +kernel)) (hs _ (by decide +kernel)) (hs _ (by decide +kernel)) (hs _ (by decide +kernel)) (fun j hj => by
    rcases (show j = 0 ∨ j = 1 ∨ j = 2 ∨ j = 3 from by omega) with rfl | rfl | rfl | rfl <;> exact hs _ (by decide +kernel)) hA
  obtain ⟨x9, e9, z9⟩ := zstr_of (args := #[Value.ref b]) (tm := .string "AlibiRota$Tape" 140) (n := 4) (byt := [114, 105, 110, 103]) (A := lwA s) (by decide) (hs _ (by decide +kernel)) (hs _ (by decide +kernel)) (hs _ (by decide +kernel)) (hs _ (by decide +kernel)) (fun j hj => by
    rcases (show j = 0 ∨ j = 1 ∨ j = 2 ∨ j = 3 from by omega) with rfl | rfl | rfl | rfl <;> exact hs _ (by decide +kernel)) hA
  obtain ⟨x10, e10, z10⟩ := zstr_of (args := #[Value.ref b]) (tm := .string "AlibiRota$Tape" 142) (n := 4) (byt := [111, 100, 100, 115]) (A := lwA s) (by decide) (hs _ (by decide +kernel)) (hs _ (by decide +kernel)) (hs _ (by decide +kernel)) (hs _ (by decide +kernel)) (fun j hj => by
    rcases (show j = 0 ∨ j = 1 ∨ j = 2 ∨ j = 3 from by omega) with rfl | rfl | rfl | rfl <;> exact hs _ (by decide +kernel)) hA
  obtain ⟨x11, e11, z11⟩ := zstr_of (args := #[Value.ref b]) (tm := .string "AlibiRota$Tape" 56) (n := 4) (byt := [119, 97, 108, 108]) (A := lwA s) (by decide) (hs _ (by decide +kernel)) (hs _ (by decide +kernel)) (hs _ (by decide +kernel)) (hs _ (by decide +kernel)) (fun j hj => by
    rcases (show j = 0 ∨ j = 1 ∨ j = 2 ∨ j = 3 from by omega) with rfl | rfl | rfl | rfl <;> exact hs _ (by decide +kernel)) hA
  obtain ⟨x12, e12, z12⟩ := zstr_of (args := #[Value.ref b]) (tm := .string "AlibiRota$Tape" 65) (n := 6) (byt := [112, 101, 114, 115, 111, 110]) (A := lwA s) (by decide) (hs _ (by decide +kernel)) (hs _ (by decide +kernel)) (hs _ (by decide +kernel)) (hs _ (by decide +kernel)) (fun j hj => by
    rcases (show j = 0 ∨ j = 1 ∨ j = 2 ∨ j = 3 ∨ j = 4 ∨ j = 5 from by omega) with rfl | rfl | rfl | rfl | rfl | rfl <;> exact hs _ (by decide +kernel)) hA
  obtain ⟨x13, e13, z13⟩ := zstr_of (args := #[Value.ref b]) (tm := .string "AlibiRota$Tape" 73) (n := 4) (byt := [99, 105, 116, 121]) (A := lwA s) (by decide) (hs _ (by decide +kernel)) (hs _ (by decide +kernel)) (hs _ (by decide +kernel)) (hs _ (by decide +kernel)) (fun j hj => by
    rcases (show j = 0 ∨ j = 1 ∨ j = 2 ∨ j = 3 from by omega) with rfl | rfl | rfl | rfl <;> exact hs _ (by decide +kernel)) hA
  obtain ⟨x14, e14, z14⟩ := va_Tof (args := #[Value.ref b]) (s := s) (tm := .static "AlibiRota" "LOWEST" "[I") (ty := .int) (N := 7) (f := fun j => .int (Int32.ofInt ((zSR 55).getD j 0))) (A := lwA s) (by decide) (hs _ (by decide +kernel)) (va_eqt (hs (Cond.eq (.length (.static "AlibiRota" "LOWEST" "[I")) (.int 7)) (by decide +kernel))) (fun j hj => by
    rcases (show j = 0 ∨ j = 1 ∨ j = 2 ∨ j = 3 ∨ j = 4 ∨ j = 5 ∨ j = 6 from by omega) with rfl | rfl | rfl | rfl | rfl | rfl | rfl
    · exact va_eqt (hs (Cond.eq (.elem (.static "AlibiRota" "LOWEST" "[I") (.int 0)) (.int 2)) (by decide +kernel))
    · exact va_eqt (hs (Cond.eq (.elem (.static "AlibiRota" "LOWEST" "[I") (.int 1)) (.int 1)) (by decide +kernel))
    · exact va_eqt (hs (Cond.eq (.elem (.static "AlibiRota" "LOWEST" "[I") (.int 2)) (.int 0)) (by decide +kernel))
    · exact va_eqt (hs (Cond.eq (.elem (.static "AlibiRota" "LOWEST" "[I") (.int 3)) (.int 0)) (by decide +kernel))
    · exact va_eqt (hs (Cond.eq (.elem (.static "AlibiRota" "LOWEST" "[I") (.int 4)) (.int 0)) (by decide +kernel))
    · exact va_eqt (hs (Cond.eq (.elem (.static "AlibiRota" "LOWEST" "[I") (.int 5)) (.int 2)) (by decide +kernel))
    · exact va_eqt (hs (Cond.eq (.elem (.static "AlibiRota" "LOWEST" "[I") (.int 6)) (.int 0)) (by decide +kernel))) hA
  obtain ⟨x15, e15, z15⟩ := va_Tof (args := #[Value.ref b]) (s := s) (tm := .static "AlibiRota" "HIGHEST" "[I") (ty := .int) (N := 7) (f := fun j => .int (Int32.ofInt ((zSR 56).getD j 0))) (A := lwA s) (by decide) (hs _ (by decide +kernel)) (va_eqt (hs (Cond.eq (.length (.static "AlibiRota" "HIGHEST" "[I")) (.int 7)) (by decide +kernel))) (fun j hj => by
    rcases (show j = 0 ∨ j = 1 ∨ j = 2 ∨ j = 3 ∨ j = 4 ∨ j = 5 ∨ j = 6 from by omega) with rfl | rfl | rfl | rfl | rfl | rfl | rfl
    · exact va_eqt (hs (Cond.eq (.elem (.static "AlibiRota" "HIGHEST" "[I") (.int 0)) (.int 10)) (by decide +kernel))
    · exact va_eqt (hs (Cond.eq (.elem (.static "AlibiRota" "HIGHEST" "[I") (.int 1)) (.int 12)) (by decide +kernel))
    · exact va_eqt (hs (Cond.eq (.elem (.static "AlibiRota" "HIGHEST" "[I") (.int 2)) (.int 9)) (by decide +kernel))
    · exact va_eqt (hs (Cond.eq (.elem (.static "AlibiRota" "HIGHEST" "[I") (.int 3)) (.int 9)) (by decide +kernel))
    · exact va_eqt (hs (Cond.eq (.elem (.static "AlibiRota" "HIGHEST" "[I") (.int 4)) (.int 99)) (by decide +kernel))
    · exact va_eqt (hs (Cond.eq (.elem (.static "AlibiRota" "HIGHEST" "[I") (.int 5)) (.int 3)) (by decide +kernel))
    · exact va_eqt (hs (Cond.eq (.elem (.static "AlibiRota" "HIGHEST" "[I") (.int 6)) (.int 10)) (by decide +kernel))) hA
  refine ⟨x0, x1, x2, x3, x4, x5, x6, x7, x8, x9, x10, x11, x12, x13, x14, x15, fun h g u v => ⟨fun i a hk ha => ?_, ?_, fun i a k hk0 hk ha => ?_, ⟨x14, 112, va_Zref (hts (.laysStatic "AlibiRota" "LOWEST" "[I") (by decide +kernel)) (hts (.initialized "AlibiRota") (by decide +kernel)) e14 hA, rfl, rfl⟩, ⟨x15, 113, va_Zref (hts (.laysStatic "AlibiRota" "HIGHEST" "[I") (by decide +kernel)) (hts (.initialized "AlibiRota") (by decide +kernel)) e15 hA, rfl, rfl⟩, va_Zof (hts (.laysStatic "java/lang/String" "COMPACT_STRINGS" "Z") (by decide +kernel)) (hts (.initialized "java/lang/String") (by decide +kernel)) (va_eqt (hs (Cond.eq (.static "java/lang/String" "COMPACT_STRINGS" "Z") (.int 1)) (by decide +kernel))) hA, va_Zqof (hts (.laysStatic "jdk/internal/util/Preconditions" "SIOOBE_FORMATTER" "Ljava/util/function/BiFunction;") (by decide +kernel)) (hts (.initialized "jdk/internal/util/Preconditions") (by decide +kernel)) (hs (Cond.isRef (.static "jdk/internal/util/Preconditions" "SIOOBE_FORMATTER" "Ljava/util/function/BiFunction;")) (by decide +kernel)) hA⟩⟩
  · have hi := zk54 i (zlt hk) hk
    rcases (show i = 98 ∨ i = 99 ∨ i = 100 ∨ i = 101 ∨ i = 102 ∨ i = 103 ∨ i = 104 ∨ i = 105 ∨ i = 106 ∨ i = 107 ∨ i = 108 ∨ i = 109 ∨ i = 110 ∨ i = 111 from by omega) with rfl | rfl | rfl | rfl | rfl | rfl | rfl | rfl | rfl | rfl | rfl | rfl | rfl | rfl
    · cases ha; exact z0
    · cases ha; exact z1
    · cases ha; exact z2
    · cases ha; exact z3
    · cases ha; exact z4
    · cases ha; exact z5
    · cases ha; exact z6
    · cases ha; exact z7
    · cases ha; exact z8
    · cases ha; exact z9
    · cases ha; exact z10
    · cases ha; exact z11
    · cases ha; exact z12
    · cases ha; exact z13
  · refine List.forall_mem_cons.mpr ⟨⟨x0, 98, vk_R.of (hts (.stringRef "AlibiRota$Tape" 113 "at") (by decide +kernel)) e0, rfl, rfl⟩, List.forall_mem_cons.mpr ⟨⟨x1, 99, vk_R.of (hts (.stringRef "AlibiRota$Tape" 115 "to") (by decide +kernel)) e1, rfl, rfl⟩, List.forall_mem_cons.mpr ⟨⟨x2, 100, vk_R.of (hts (.stringRef "AlibiRota$Tape" 121 "errand") (by decide +kernel)) e2, rfl, rfl⟩, List.forall_mem_cons.mpr ⟨⟨x3, 101, vk_R.of (hts (.stringRef "AlibiRota$Tape" 123 "in") (by decide +kernel)) e3, rfl, rfl⟩, List.forall_mem_cons.mpr ⟨⟨x4, 102, vk_R.of (hts (.stringRef "AlibiRota$Tape" 132 "places") (by decide +kernel)) e4, rfl, rfl⟩, List.forall_mem_cons.mpr ⟨⟨x5, 103, vk_R.of (hts (.stringRef "AlibiRota$Tape" 133 "hours") (by decide +kernel)) e5, rfl, rfl⟩, List.forall_mem_cons.mpr ⟨⟨x6, 104, vk_R.of (hts (.stringRef "AlibiRota$Tape" 134 "sight") (by decide +kernel)) e6, rfl, rfl⟩, List.forall_mem_cons.mpr ⟨⟨x7, 105, vk_R.of (hts (.stringRef "AlibiRota$Tape" 136 "pace") (by decide +kernel)) e7, rfl, rfl⟩, List.forall_mem_cons.mpr ⟨⟨x8, 106, vk_R.of (hts (.stringRef "AlibiRota$Tape" 138 "fine") (by decide +kernel)) e8, rfl, rfl⟩, List.forall_mem_cons.mpr ⟨⟨x9, 107, vk_R.of (hts (.stringRef "AlibiRota$Tape" 140 "ring") (by decide +kernel)) e9, rfl, rfl⟩, List.forall_mem_cons.mpr ⟨⟨x10, 108, vk_R.of (hts (.stringRef "AlibiRota$Tape" 142 "odds") (by decide +kernel)) e10, rfl, rfl⟩, List.forall_mem_cons.mpr ⟨⟨x11, 109, vk_R.of (hts (.stringRef "AlibiRota$Tape" 56 "wall") (by decide +kernel)) e11, rfl, rfl⟩, List.forall_mem_cons.mpr ⟨⟨x12, 110, vk_R.of (hts (.stringRef "AlibiRota$Tape" 65 "person") (by decide +kernel)) e12, rfl, rfl⟩, List.forall_mem_cons.mpr ⟨⟨x13, 111, vk_R.of (hts (.stringRef "AlibiRota$Tape" 73 "city") (by decide +kernel)) e13, rfl, rfl⟩, nilz⟩⟩⟩⟩⟩⟩⟩⟩⟩⟩⟩⟩⟩⟩
  · rcases zk55 i (zlt hk) k (List.mem_of_getElem? hk) hk0 hk with ⟨rfl, rfl⟩ | ⟨rfl, rfl⟩
    · cases ha; exact z14
    · cases ha; exact z15
