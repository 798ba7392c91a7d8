def zelA : List zt := match (zKS[45]? : Option zk) with
  | some (Sum.inl d) => d.2.2
  | _ => []
theorem zks_45 : zKS[45]? = some (.inl (0, 800, zelA)) := rfl
theorem zelA_ty : ∀ m : Nat, m < 200 → zel zelA (4 * m) = (0, 0, 1) ∧ zel zelA (4 * m + 1) = (0, 0, 6) ∧ zel zelA (4 * m + 2) = (0, (-1), 11) ∧ zel zelA (4 * m + 3) = (0, (-1), 9) := by decide +kernel
def zelP : List zt := match (zKS[43]? : Option zk) with
  | some (Sum.inl d) => d.2.2
  | _ => []
theorem zks_43 : zKS[43]? = some (.inl (0, 70, zelP)) := rfl
theorem zelP_ty : ∀ m : Nat, m < 35 → zel zelP (2 * m + 1) = (0, (-1), 6) := by decide +kernel
def zelH : List zt := match (zKS[42]? : Option zk) with
  | some (Sum.inl d) => d.2.2
  | _ => []
theorem zks_42 : zKS[42]? = some (.inl (0, 50, zelH)) := rfl
theorem zact_rng {f : Nat → Int32} (m : ∀ q, q < 800 → (zel zelA q).2.1 ≤ (f q).toInt ∧ (f q).toInt ≤ (zel zelA q).2.2) (k : Nat) (hk : k < 200) : (0 ≤ (f (4 * k)).toInt ∧ (f (4 * k)).toInt ≤ 1) ∧ (0 ≤ (f (4 * k + 1)).toInt ∧ (f (4 * k + 1)).toInt ≤ 6) ∧ (-1 ≤ (f (4 * k + 2)).toInt ∧ (f (4 * k + 2)).toInt ≤ 11) ∧ (-1 ≤ (f (4 * k + 3)).toInt ∧ (f (4 * k + 3)).toInt ≤ 9) := by
  obtain ⟨t0, t1, t2, t3⟩ := zelA_ty k hk
  have h0 := m (4 * k) (by omega)
  have h1 := m (4 * k + 1) (by omega)
  have h2 := m (4 * k + 2) (by omega)
  have h3 := m (4 * k + 3) (by omega)
  rw [t0] at h0
  rw [t1] at h1
  rw [t2] at h2
  rw [t3] at h3
  exact ⟨h0, h1, h2, h3⟩
theorem zPsi_act {ks ad : List Nat} {w : va_W} {j r n : Nat} {c : ClassId} {g G : Nat → Int32} (h : zPsi ks ad w) (hj : ks[j]? = some 45) (hu : ∀ i : Nat, ks[i]? = some 45 → i = j) (hg : w[j]? = some (r, .inl (c, n, .inl g))) (hr : ∀ n : Nat, n < 200 → zrl2 (G (4 * n)) (G (4 * n + 2))) : zPsi ks ad (w.set j (r, .inl (c, n, .inl G))) := by
  refine ⟨fun i' hi' => ?_, fun i b c' m g' hi hg' => ?_⟩
  · obtain ⟨a1, a2, q1, q2, q3, q4, q5, q6⟩ := h.1 i' hi'
    refine ⟨a1, a2, q1, q2, q3, q4, fun b ci fs hfs => ?_, fun d1 d2 c1' c2' m1 m2 hx bx e1 e2 => ?_⟩
    · rw [List.getElem?_set_ne (znk hj hi' (by decide))] at hfs
      exact q5 b ci fs hfs
    · rw [List.getElem?_set_ne (znk hj q1 (by decide))] at e1
      rw [List.getElem?_set_ne (znk hj q2 (by decide))] at e2
      exact q6 d1 d2 c1' c2' m1 m2 hx bx e1 e2
  · have e := hu i hi
    subst e
    rw [List.getElem?_set_self (List.getElem?_eq_some_iff.mp hg).1] at hg'
    cases hg'
    exact hr
theorem zrun_mem {k f n q : Nat} (h : q < n) : (k, f + q) ∈ zrun k f 1 n := List.mem_map.mpr ⟨q, List.mem_range.mpr h, by rw [Nat.one_mul]⟩
theorem dX6_acts_0 : decode cX6_acts 0 = .ok (.iconst 4, 1) := by decide +kernel
theorem dX6_acts_1 : decode cX6_acts 1 = .ok (.aload_n 0, 1) := by decide +kernel
theorem dX6_acts_11 : decode cX6_acts 11 = .ok (.aload_n 0, 1) := by decide +kernel
theorem dX6_acts_12 : decode cX6_acts 12 = .ok (.getfield 43, 3) := by decide +kernel
theorem dX6_acts_15 : decode cX6_acts 15 = .ok (.iload 5, 2) := by decide +kernel
theorem dX6_acts_17 : decode cX6_acts 17 = .ok (.iload_n 1, 1) := by decide +kernel
theorem dX6_acts_18 : decode cX6_acts 18 = .ok (.iastore, 1) := by decide +kernel
theorem dX6_acts_19 : decode cX6_acts 19 = .ok (.aload_n 0, 1) := by decide +kernel
theorem dX6_acts_2 : decode cX6_acts 2 = .ok (.getfield 34, 3) := by decide +kernel
theorem dX6_acts_20 : decode cX6_acts 20 = .ok (.getfield 43, 3) := by decide +kernel
theorem dX6_acts_23 : decode cX6_acts 23 = .ok (.iload 5, 2) := by decide +kernel
theorem dX6_acts_25 : decode cX6_acts 25 = .ok (.iconst 1, 1) := by decide +kernel
theorem dX6_acts_26 : decode cX6_acts 26 = .ok (.iadd, 1) := by decide +kernel
theorem dX6_acts_27 : decode cX6_acts 27 = .ok (.iload_n 2, 1) := by decide +kernel
theorem dX6_acts_28 : decode cX6_acts 28 = .ok (.iastore, 1) := by decide +kernel
theorem dX6_acts_29 : decode cX6_acts 29 = .ok (.aload_n 0, 1) := by decide +kernel
theorem dX6_acts_30 : decode cX6_acts 30 = .ok (.getfield 43, 3) := by decide +kernel
theorem dX6_acts_33 : decode cX6_acts 33 = .ok (.iload 5, 2) := by decide +kernel
theorem dX6_acts_35 : decode cX6_acts 35 = .ok (.iconst 2, 1) := by decide +kernel
theorem dX6_acts_36 : decode cX6_acts 36 = .ok (.iadd, 1) := by decide +kernel
theorem dX6_acts_37 : decode cX6_acts 37 = .ok (.iload_n 3, 1) := by decide +kernel
theorem dX6_acts_38 : decode cX6_acts 38 = .ok (.iastore, 1) := by decide +kernel
theorem dX6_acts_39 : decode cX6_acts 39 = .ok (.aload_n 0, 1) := by decide +kernel
theorem dX6_acts_40 : decode cX6_acts 40 = .ok (.getfield 43, 3) := by decide +kernel
theorem dX6_acts_43 : decode cX6_acts 43 = .ok (.iload 5, 2) := by decide +kernel
theorem dX6_acts_45 : decode cX6_acts 45 = .ok (.iconst 3, 1) := by decide +kernel
theorem dX6_acts_46 : decode cX6_acts 46 = .ok (.iadd, 1) := by decide +kernel
theorem dX6_acts_47 : decode cX6_acts 47 = .ok (.iload 4, 2) := by decide +kernel
theorem dX6_acts_49 : decode cX6_acts 49 = .ok (.iastore, 1) := by decide +kernel
theorem dX6_acts_5 : decode cX6_acts 5 = .ok (.bipush 8, 2) := by decide +kernel
theorem dX6_acts_50 : decode cX6_acts 50 = .ok (.aload_n 0, 1) := by decide +kernel
theorem dX6_acts_51 : decode cX6_acts 51 = .ok (.getfield 34, 3) := by decide +kernel
theorem dX6_acts_54 : decode cX6_acts 54 = .ok (.bipush 8, 2) := by decide +kernel
theorem dX6_acts_56 : decode cX6_acts 56 = .ok (.dup2, 1) := by decide +kernel
theorem dX6_acts_57 : decode cX6_acts 57 = .ok (.iaload, 1) := by decide +kernel
theorem dX6_acts_58 : decode cX6_acts 58 = .ok (.iconst 1, 1) := by decide +kernel
theorem dX6_acts_59 : decode cX6_acts 59 = .ok (.iadd, 1) := by decide +kernel
theorem dX6_acts_60 : decode cX6_acts 60 = .ok (.iastore, 1) := by decide +kernel
theorem dX6_acts_61 : decode cX6_acts 61 = .ok (.return_, 1) := by decide +kernel
theorem dX6_acts_7 : decode cX6_acts 7 = .ok (.iaload, 1) := by decide +kernel
theorem dX6_acts_8 : decode cX6_acts 8 = .ok (.imul, 1) := by decide +kernel
theorem dX6_acts_9 : decode cX6_acts 9 = .ok (.istore 5, 2) := by decide +kernel
theorem dX6_lays_0 : decode cX6_lays 0 = .ok (.iconst 0, 1) := by decide +kernel
theorem dX6_lays_1 : decode cX6_lays 1 = .ok (.istore_n 1, 1) := by decide +kernel
theorem dX6_lays_10 : decode cX6_lays 10 = .ok (.aload_n 0, 1) := by decide +kernel
theorem dX6_lays_102 : decode cX6_lays 102 = .ok (.iconst 4, 1) := by decide +kernel
theorem dX6_lays_103 : decode cX6_lays 103 = .ok (.iload_n 1, 1) := by decide +kernel
theorem dX6_lays_104 : decode cX6_lays 104 = .ok (.imul, 1) := by decide +kernel
theorem dX6_lays_105 : decode cX6_lays 105 = .ok (.iconst 1, 1) := by decide +kernel
theorem dX6_lays_106 : decode cX6_lays 106 = .ok (.iadd, 1) := by decide +kernel
theorem dX6_lays_107 : decode cX6_lays 107 = .ok (.iaload, 1) := by decide +kernel
theorem dX6_lays_108 : decode cX6_lays 108 = .ok (.aload_n 0, 1) := by decide +kernel
theorem dX6_lays_109 : decode cX6_lays 109 = .ok (.getfield 43, 3) := by decide +kernel
theorem dX6_lays_11 : decode cX6_lays 11 = .ok (.getfield 50, 3) := by decide +kernel
theorem dX6_lays_112 : decode cX6_lays 112 = .ok (.iconst 4, 1) := by decide +kernel
theorem dX6_lays_113 : decode cX6_lays 113 = .ok (.iload_n 1, 1) := by decide +kernel
theorem dX6_lays_114 : decode cX6_lays 114 = .ok (.imul, 1) := by decide +kernel
theorem dX6_lays_115 : decode cX6_lays 115 = .ok (.iconst 2, 1) := by decide +kernel
theorem dX6_lays_116 : decode cX6_lays 116 = .ok (.iadd, 1) := by decide +kernel
theorem dX6_lays_117 : decode cX6_lays 117 = .ok (.iaload, 1) := by decide +kernel
theorem dX6_lays_118 : decode cX6_lays 118 = .ok (.iastore, 1) := by decide +kernel
theorem dX6_lays_119 : decode cX6_lays 119 = .ok (.goto 42, 3) := by decide +kernel
theorem dX6_lays_122 : decode cX6_lays 122 = .ok (.aload_n 0, 1) := by decide +kernel
theorem dX6_lays_123 : decode cX6_lays 123 = .ok (.getfield 53, 3) := by decide +kernel
theorem dX6_lays_126 : decode cX6_lays 126 = .ok (.bipush 12, 2) := by decide +kernel
theorem dX6_lays_128 : decode cX6_lays 128 = .ok (.aload_n 0, 1) := by decide +kernel
theorem dX6_lays_129 : decode cX6_lays 129 = .ok (.getfield 43, 3) := by decide +kernel
theorem dX6_lays_132 : decode cX6_lays 132 = .ok (.iconst 4, 1) := by decide +kernel
theorem dX6_lays_133 : decode cX6_lays 133 = .ok (.iload_n 1, 1) := by decide +kernel
theorem dX6_lays_134 : decode cX6_lays 134 = .ok (.imul, 1) := by decide +kernel
theorem dX6_lays_135 : decode cX6_lays 135 = .ok (.iconst 1, 1) := by decide +kernel
theorem dX6_lays_136 : decode cX6_lays 136 = .ok (.iadd, 1) := by decide +kernel
theorem dX6_lays_137 : decode cX6_lays 137 = .ok (.iaload, 1) := by decide +kernel
theorem dX6_lays_138 : decode cX6_lays 138 = .ok (.imul, 1) := by decide +kernel
theorem dX6_lays_139 : decode cX6_lays 139 = .ok (.aload_n 0, 1) := by decide +kernel
theorem dX6_lays_14 : decode cX6_lays 14 = .ok (.iload_n 1, 1) := by decide +kernel
theorem dX6_lays_140 : decode cX6_lays 140 = .ok (.getfield 43, 3) := by decide +kernel
theorem dX6_lays_143 : decode cX6_lays 143 = .ok (.iconst 4, 1) := by decide +kernel
theorem dX6_lays_144 : decode cX6_lays 144 = .ok (.iload_n 1, 1) := by decide +kernel
theorem dX6_lays_145 : decode cX6_lays 145 = .ok (.imul, 1) := by decide +kernel
theorem dX6_lays_146 : decode cX6_lays 146 = .ok (.iconst 2, 1) := by decide +kernel
theorem dX6_lays_147 : decode cX6_lays 147 = .ok (.iadd, 1) := by decide +kernel
theorem dX6_lays_148 : decode cX6_lays 148 = .ok (.iaload, 1) := by decide +kernel
theorem dX6_lays_149 : decode cX6_lays 149 = .ok (.iadd, 1) := by decide +kernel
theorem dX6_lays_15 : decode cX6_lays 15 = .ok (.aload_n 0, 1) := by decide +kernel
theorem dX6_lays_150 : decode cX6_lays 150 = .ok (.aload_n 0, 1) := by decide +kernel
theorem dX6_lays_151 : decode cX6_lays 151 = .ok (.getfield 43, 3) := by decide +kernel
theorem dX6_lays_154 : decode cX6_lays 154 = .ok (.iconst 4, 1) := by decide +kernel
theorem dX6_lays_155 : decode cX6_lays 155 = .ok (.iload_n 1, 1) := by decide +kernel
theorem dX6_lays_156 : decode cX6_lays 156 = .ok (.imul, 1) := by decide +kernel
theorem dX6_lays_157 : decode cX6_lays 157 = .ok (.iconst 3, 1) := by decide +kernel
theorem dX6_lays_158 : decode cX6_lays 158 = .ok (.iadd, 1) := by decide +kernel
theorem dX6_lays_159 : decode cX6_lays 159 = .ok (.iaload, 1) := by decide +kernel
theorem dX6_lays_16 : decode cX6_lays 16 = .ok (.getfield 37, 3) := by decide +kernel
theorem dX6_lays_160 : decode cX6_lays 160 = .ok (.iastore, 1) := by decide +kernel
theorem dX6_lays_161 : decode cX6_lays 161 = .ok (.iinc 1 1, 3) := by decide +kernel
theorem dX6_lays_164 : decode cX6_lays 164 = .ok (.goto (-92), 3) := by decide +kernel
theorem dX6_lays_167 : decode cX6_lays 167 = .ok (.return_, 1) := by decide +kernel
theorem dX6_lays_19 : decode cX6_lays 19 = .ok (.iconst 2, 1) := by decide +kernel
theorem dX6_lays_2 : decode cX6_lays 2 = .ok (.iload_n 1, 1) := by decide +kernel
theorem dX6_lays_20 : decode cX6_lays 20 = .ok (.iload_n 1, 1) := by decide +kernel
theorem dX6_lays_21 : decode cX6_lays 21 = .ok (.imul, 1) := by decide +kernel
theorem dX6_lays_22 : decode cX6_lays 22 = .ok (.iconst 1, 1) := by decide +kernel
theorem dX6_lays_23 : decode cX6_lays 23 = .ok (.iadd, 1) := by decide +kernel
theorem dX6_lays_24 : decode cX6_lays 24 = .ok (.iaload, 1) := by decide +kernel
theorem dX6_lays_25 : decode cX6_lays 25 = .ok (.iastore, 1) := by decide +kernel
theorem dX6_lays_26 : decode cX6_lays 26 = .ok (.iconst 0, 1) := by decide +kernel
theorem dX6_lays_27 : decode cX6_lays 27 = .ok (.istore_n 2, 1) := by decide +kernel
theorem dX6_lays_28 : decode cX6_lays 28 = .ok (.iload_n 2, 1) := by decide +kernel
theorem dX6_lays_29 : decode cX6_lays 29 = .ok (.aload_n 0, 1) := by decide +kernel
theorem dX6_lays_3 : decode cX6_lays 3 = .ok (.aload_n 0, 1) := by decide +kernel
theorem dX6_lays_30 : decode cX6_lays 30 = .ok (.invokevirtual 231, 3) := by decide +kernel
theorem dX6_lays_33 : decode cX6_lays 33 = .ok (.if_icmp .ge 31, 3) := by decide +kernel
theorem dX6_lays_36 : decode cX6_lays 36 = .ok (.aload_n 0, 1) := by decide +kernel
theorem dX6_lays_37 : decode cX6_lays 37 = .ok (.getfield 53, 3) := by decide +kernel
theorem dX6_lays_4 : decode cX6_lays 4 = .ok (.invokevirtual 227, 3) := by decide +kernel
theorem dX6_lays_40 : decode cX6_lays 40 = .ok (.bipush 12, 2) := by decide +kernel
theorem dX6_lays_42 : decode cX6_lays 42 = .ok (.iload_n 1, 1) := by decide +kernel
theorem dX6_lays_43 : decode cX6_lays 43 = .ok (.imul, 1) := by decide +kernel
theorem dX6_lays_44 : decode cX6_lays 44 = .ok (.iload_n 2, 1) := by decide +kernel
theorem dX6_lays_45 : decode cX6_lays 45 = .ok (.iadd, 1) := by decide +kernel
theorem dX6_lays_46 : decode cX6_lays 46 = .ok (.aload_n 0, 1) := by decide +kernel
theorem dX6_lays_47 : decode cX6_lays 47 = .ok (.getfield 40, 3) := by decide +kernel
theorem dX6_lays_50 : decode cX6_lays 50 = .ok (.bipush 12, 2) := by decide +kernel
theorem dX6_lays_52 : decode cX6_lays 52 = .ok (.iload_n 1, 1) := by decide +kernel
theorem dX6_lays_53 : decode cX6_lays 53 = .ok (.imul, 1) := by decide +kernel
theorem dX6_lays_54 : decode cX6_lays 54 = .ok (.iload_n 2, 1) := by decide +kernel
theorem dX6_lays_55 : decode cX6_lays 55 = .ok (.iadd, 1) := by decide +kernel
theorem dX6_lays_56 : decode cX6_lays 56 = .ok (.iaload, 1) := by decide +kernel
theorem dX6_lays_57 : decode cX6_lays 57 = .ok (.iastore, 1) := by decide +kernel
theorem dX6_lays_58 : decode cX6_lays 58 = .ok (.iinc 2 1, 3) := by decide +kernel
theorem dX6_lays_61 : decode cX6_lays 61 = .ok (.goto (-33), 3) := by decide +kernel
theorem dX6_lays_64 : decode cX6_lays 64 = .ok (.iinc 1 1, 3) := by decide +kernel
theorem dX6_lays_67 : decode cX6_lays 67 = .ok (.goto (-65), 3) := by decide +kernel
theorem dX6_lays_7 : decode cX6_lays 7 = .ok (.if_icmp .ge 63, 3) := by decide +kernel
theorem dX6_lays_70 : decode cX6_lays 70 = .ok (.iconst 0, 1) := by decide +kernel
theorem dX6_lays_71 : decode cX6_lays 71 = .ok (.istore_n 1, 1) := by decide +kernel
theorem dX6_lays_72 : decode cX6_lays 72 = .ok (.iload_n 1, 1) := by decide +kernel
theorem dX6_lays_73 : decode cX6_lays 73 = .ok (.aload_n 0, 1) := by decide +kernel
theorem dX6_lays_74 : decode cX6_lays 74 = .ok (.getfield 34, 3) := by decide +kernel
theorem dX6_lays_77 : decode cX6_lays 77 = .ok (.bipush 8, 2) := by decide +kernel
theorem dX6_lays_79 : decode cX6_lays 79 = .ok (.iaload, 1) := by decide +kernel
theorem dX6_lays_80 : decode cX6_lays 80 = .ok (.if_icmp .ge 87, 3) := by decide +kernel
theorem dX6_lays_83 : decode cX6_lays 83 = .ok (.aload_n 0, 1) := by decide +kernel
theorem dX6_lays_84 : decode cX6_lays 84 = .ok (.getfield 43, 3) := by decide +kernel
theorem dX6_lays_87 : decode cX6_lays 87 = .ok (.iconst 4, 1) := by decide +kernel
theorem dX6_lays_88 : decode cX6_lays 88 = .ok (.iload_n 1, 1) := by decide +kernel
theorem dX6_lays_89 : decode cX6_lays 89 = .ok (.imul, 1) := by decide +kernel
theorem dX6_lays_90 : decode cX6_lays 90 = .ok (.iaload, 1) := by decide +kernel
theorem dX6_lays_91 : decode cX6_lays 91 = .ok (.ifCond .ne 31, 3) := by decide +kernel
theorem dX6_lays_94 : decode cX6_lays 94 = .ok (.aload_n 0, 1) := by decide +kernel
theorem dX6_lays_95 : decode cX6_lays 95 = .ok (.getfield 50, 3) := by decide +kernel
theorem dX6_lays_98 : decode cX6_lays 98 = .ok (.aload_n 0, 1) := by decide +kernel
theorem dX6_lays_99 : decode cX6_lays 99 = .ok (.getfield 43, 3) := by decide +kernel
theorem zh_acts {l : Launch} {D : va_G} {cI cZ cB cJ cR : ClassId} {ks ad : List Nat} {w1 w2 a1 a2 : Int} (hrel : ∀ k a : Int32, w1 ≤ k.toInt → k.toInt ≤ w2 → a1 ≤ a.toInt → a.toInt ≤ a2 → zrl2 k a ∧ (0 ≤ k.toInt ∧ k.toInt ≤ 1) ∧ (-1 ≤ a.toInt ∧ a.toInt ≤ 11)) (hw : zworld ks ad zuq zNS (zPsi ks ad)) : zMet l D cI cZ cB cJ cR zKS ks ad (zPsi ks ad) yX6_acts (.code yX6_acts cX6_acts 6 none) 2 ([(8, 0, 0), (0, w1, w2), (0, 0, 6), (0, a1, a2), (0, (-1), 9)], none, [(42, 1008)], [], [], [(42, 1008)], [([], 0, 6, (-39))]) := by
  refine zmet_gen 2 (by decide) (Nat.le_of_ble_eq_true rfl) rfl ?_
  intro p e R s m args below meth c Q A ws As ls X hG hok hpre hR hl
  have hx := X.1.1
  have hb := X.1.2.1
  obtain ⟨_, _, rfl, ⟨a, i, rfl, ki, di⟩, hok1⟩ := zst1 hok
  obtain ⟨_, _, rfl, ⟨v1, rfl, lv1⟩, hok2⟩ := zst1 hok1
  obtain ⟨_, _, rfl, ⟨v2, rfl, lv2⟩, hok3⟩ := zst1 hok2
  obtain ⟨_, _, rfl, ⟨v3, rfl, lv3⟩, hok4⟩ := zst1 hok3
  obtain ⟨_, _, rfl, ⟨v4, rfl, lv4⟩, hok5⟩ := zst1 hok4
  obtain rfl := zst0 hok5
  dsimp only at lv1 lv2 lv3 lv4
  obtain ⟨hrl, hrk, hra⟩ := hrel v1 v3 lv1.1 lv1.2 lv3.1 lv3.2
  obtain ⟨fs, hob, hfs⟩ := zobj hG.2.2.2.1 ki di zks_6
  have hl : lv_has ls 6 [(0, .ref a), (1, .int v1), (2, .int v2), (3, .int v3), (4, .int v4)] := hl
  obtain ⟨r17, j17, q17, k17, d17⟩ := zref (f := 17) (k := 42) hfs rfl
  obtain ⟨r20, j20, q20, k20, d20⟩ := zref (f := 20) (k := 45) hfs rfl
  obtain ⟨f17, g17, m17⟩ := zarrI hG.2.2.2.1 k17 d17 zks_42
  obtain ⟨f20, g20, m20⟩ := zarrI hG.2.2.2.1 k20 d20 zks_45
  have hN : 0 ≤ (f17 8).toInt ∧ (f17 8).toInt ≤ 39 := by
    refine ⟨(m17 8 (by decide)).1, ?_⟩
    obtain ⟨z1, z2, e1, e2, e3⟩ := hpre _ (List.mem_singleton.mpr rfl) (fun _ h => by cases h)
    have e1 : some (0 : Int) = some z1 := e1
    have e2 : some (zfv ks ws 42 1008) = some z2 := e2
    cases e1
    cases e2
    rw [zfv_cell hw.1 (show 42 ∈ zuq by decide) k17 g17, zav_in (by decide) (by decide)] at e3
    have e3 : (f17 8).toInt + (-39) ≤ 0 := e3
    omega
  obtain ⟨N, eN⟩ : ∃ N : Nat, (f17 8).toInt = (N : Int) := ⟨(f17 8).toInt.toNat, by omega⟩
  refine lv_iconst (v := 4) hx hb dX6_acts_0 (by decide) ?_
  refine lv_aload_n hx hb dX6_acts_1 rfl (lv_at hl 0 rfl) ?_
  refine zg_RX6 X (34, 6, 17) (by decide) _ zks_6 (by decide) _ _ _ _ _ _ _ i _ (.ref r17) hG.1 hob q17 dX6_acts_2 ?_
  refine lv_bipush (v := 8) hx hb dX6_acts_5 (by decide) ?_
  refine va_iald hx hb X.2.1.1 hG.1 j17 0 g17 rfl (inC _ _ (by decide)) dX6_acts_7 ?_
  have e8 : (8 : Int32).toNatClampNeg = 8 := by decide
  rw [e8]
  refine lv_imul hx hb dX6_acts_8 ?_
  refine lv_topi (fun y1 hy1 => ?_)
  have ey : y1.toInt = 4 * (N : Int) := by rw [hy1, mulI _ _ (by simp only [Int32.reduceToInt]; omega), eN]; rfl
  have cy : y1.toNatClampNeg = 4 * N := by have := tcn (z := y1) (by omega); omega
  refine lv_istore hx hb dX6_acts_9 hl (by decide) rfl (fun ls hl => ?_)
  have hl : lv_has ls 6 [(5, .int y1), (0, .ref a), (1, .int v1), (2, .int v2), (3, .int v3), (4, .int v4)] := hl
  refine lv_aload_n hx hb dX6_acts_11 rfl (lv_at hl 1 rfl) ?_
  refine zg_RX6 X (43, 6, 20) (by decide) _ zks_6 (by decide) _ _ _ _ _ _ _ i _ (.ref r20) hG.1 hob q20 dX6_acts_12 ?_
  refine lv_iload hx hb dX6_acts_15 (lv_at hl 0 rfl) ?_
  refine lv_iload_n hx hb dX6_acts_17 rfl (lv_at hl 2 rfl) ?_
  refine va_iast hx hb X.2.1.1 hG.1 hG.2.1 hG.2.2.1 j20 0 g20 rfl (vp_in_iff.mpr ⟨by omega, by omega⟩) dX6_acts_18 (fun H locs s01 s02 s03 => ?_)
  rw [cy] at s01 s02
  have hob0 : (ws.set j20 (r20, .inl (cI, 800, .inl (upd f20 (4 * N) v1))))[i]? = some (a, .inr (6, fs)) := zhkp s01 (znk k20 ki (by decide)) hob
  have g0x : (ws.set j20 (r20, .inl (cI, 800, .inl (upd f20 (4 * N) v1))))[j20]? = some (r20, .inl (cI, 800, .inl (upd f20 (4 * N) v1))) := List.getElem?_set_self (List.getElem?_eq_some_iff.mp g20).1
  refine lv_aload_n hx hb dX6_acts_19 rfl (lv_at hl 1 rfl) ?_
  refine zg_RX6 X (43, 6, 20) (by decide) _ zks_6 (by decide) _ _ _ _ _ _ _ i _ (.ref r20) s01 hob0 q20 dX6_acts_20 ?_
  refine lv_iload hx hb dX6_acts_23 (lv_at hl 0 rfl) ?_
  refine lv_iconst (v := 1) hx hb dX6_acts_25 (by decide) ?_
  refine lv_iadd hx hb dX6_acts_26 ?_
  refine lv_topi (fun z1 hz1 => ?_)
  have ez1 : z1.toInt = 4 * (N : Int) + 1 := by rw [hz1, addI _ _ (by simp only [Int32.reduceToInt]; omega), ey]; rfl
  have cz1 : z1.toNatClampNeg = 4 * N + 1 := by have := tcn (z := z1) (by omega); omega
  refine lv_iload_n hx hb dX6_acts_27 rfl (lv_at hl 3 rfl) ?_
  refine va_iast hx hb X.2.1.1 s01 s02 s03 j20 0 g0x rfl (vp_in_iff.mpr ⟨by omega, by omega⟩) dX6_acts_28 (fun H locs s11 s12 s13 => ?_)
  rw [cz1, List.set_set] at s11 s12
  have hob1 : (ws.set j20 (r20, .inl (cI, 800, .inl (upd (upd f20 (4 * N) v1) (4 * N + 1) v2))))[i]? = some (a, .inr (6, fs)) := zhkp s11 (znk k20 ki (by decide)) hob
  have g1x : (ws.set j20 (r20, .inl (cI, 800, .inl (upd (upd f20 (4 * N) v1) (4 * N + 1) v2))))[j20]? = some (r20, .inl (cI, 800, .inl (upd (upd f20 (4 * N) v1) (4 * N + 1) v2))) := List.getElem?_set_self (List.getElem?_eq_some_iff.mp g20).1
  refine lv_aload_n hx hb dX6_acts_29 rfl (lv_at hl 1 rfl) ?_
  refine zg_RX6 X (43, 6, 20) (by decide) _ zks_6 (by decide) _ _ _ _ _ _ _ i _ (.ref r20) s11 hob1 q20 dX6_acts_30 ?_
  refine lv_iload hx hb dX6_acts_33 (lv_at hl 0 rfl) ?_
  refine lv_iconst (v := 2) hx hb dX6_acts_35 (by decide) ?_
  refine lv_iadd hx hb dX6_acts_36 ?_
  refine lv_topi (fun z2 hz2 => ?_)
  have ez2 : z2.toInt = 4 * (N : Int) + 2 := by rw [hz2, addI _ _ (by simp only [Int32.reduceToInt]; omega), ey]; rfl
  have cz2 : z2.toNatClampNeg = 4 * N + 2 := by have := tcn (z := z2) (by omega); omega
  refine lv_iload_n hx hb dX6_acts_37 rfl (lv_at hl 4 rfl) ?_
  refine va_iast hx hb X.2.1.1 s11 s12 s13 j20 0 g1x rfl (vp_in_iff.mpr ⟨by omega, by omega⟩) dX6_acts_38 (fun H locs s21 s22 s23 => ?_)
  rw [cz2, List.set_set] at s21 s22
  have hob2 : (ws.set j20 (r20, .inl (cI, 800, .inl (upd (upd (upd f20 (4 * N) v1) (4 * N + 1) v2) (4 * N + 2) v3))))[i]? = some (a, .inr (6, fs)) := zhkp s21 (znk k20 ki (by decide)) hob
  have g2x : (ws.set j20 (r20, .inl (cI, 800, .inl (upd (upd (upd f20 (4 * N) v1) (4 * N + 1) v2) (4 * N + 2) v3))))[j20]? = some (r20, .inl (cI, 800, .inl (upd (upd (upd f20 (4 * N) v1) (4 * N + 1) v2) (4 * N + 2) v3))) := List.getElem?_set_self (List.getElem?_eq_some_iff.mp g20).1
  refine lv_aload_n hx hb dX6_acts_39 rfl (lv_at hl 1 rfl) ?_
  refine zg_RX6 X (43, 6, 20) (by decide) _ zks_6 (by decide) _ _ _ _ _ _ _ i _ (.ref r20) s21 hob2 q20 dX6_acts_40 ?_
  refine lv_iload hx hb dX6_acts_43 (lv_at hl 0 rfl) ?_
  refine lv_iconst (v := 3) hx hb dX6_acts_45 (by decide) ?_
  refine lv_iadd hx hb dX6_acts_46 ?_
  refine lv_topi (fun z3 hz3 => ?_)
  have ez3 : z3.toInt = 4 * (N : Int) + 3 := by rw [hz3, addI _ _ (by simp only [Int32.reduceToInt]; omega), ey]; rfl
  have cz3 : z3.toNatClampNeg = 4 * N + 3 := by have := tcn (z := z3) (by omega); omega
  refine lv_iload hx hb dX6_acts_47 (lv_at hl 5 rfl) ?_
  refine va_iast hx hb X.2.1.1 s21 s22 s23 j20 0 g2x rfl (vp_in_iff.mpr ⟨by omega, by omega⟩) dX6_acts_49 (fun H locs s31 s32 s33 => ?_)
  rw [cz3, List.set_set] at s31 s32
  have hob3 : (ws.set j20 (r20, .inl (cI, 800, .inl (upd (upd (upd (upd f20 (4 * N) v1) (4 * N + 1) v2) (4 * N + 2) v3) (4 * N + 3) v4))))[i]? = some (a, .inr (6, fs)) := zhkp s31 (znk k20 ki (by decide)) hob
  have g3x : (ws.set j20 (r20, .inl (cI, 800, .inl (upd (upd (upd (upd f20 (4 * N) v1) (4 * N + 1) v2) (4 * N + 2) v3) (4 * N + 3) v4))))[j20]? = some (r20, .inl (cI, 800, .inl (upd (upd (upd (upd f20 (4 * N) v1) (4 * N + 1) v2) (4 * N + 2) v3) (4 * N + 3) v4))) := List.getElem?_set_self (List.getElem?_eq_some_iff.mp g20).1
  have hG : zHp D vwCl A s.heap (tyA cI cZ cB cJ cR) zKS ks ad RX0 (zPsi ks ad) [(42, 1008)] ws (ws.set j20 (r20, .inl (cI, 800, .inl (upd (upd (upd (upd f20 (4 * N) v1) (4 * N + 1) v2) (4 * N + 2) v3) (4 * N + 3) v4)))) H locs := by
    refine ⟨s31, s32, s33, zconf_set hG.2.2.2.1 k20 g20 zks_45 ⟨rfl, rfl, (show (0 : Nat) < 3 by decide), ?_⟩, zPsi_act hG.2.2.2.2.1 k20 (fun i hi => hw.1 45 (by decide) i j20 hi k20) g20 (fun n hn => ?_), fun k f hf => (zfv_set g20 k20 k f (fun e9 => by subst e9; rw [zav_un (by decide), zav_un (by decide)])).trans (hG.2.2.2.2.2 k f hf)⟩
    · intro q hq
      obtain ⟨t0, t1, t2, t3⟩ := zelA_ty N (by omega)
      have m := m20 q hq
      unfold upd
      split
      · rename_i e9; rw [e9, t3]; exact lv4
      · skip
        split
        · rename_i e9; rw [e9, t2]; exact hra
        · skip
          split
          · rename_i e9; rw [e9, t1]; exact lv2
          · skip
            split
            · rename_i e9; rw [e9, t0]; exact hrk
            · skip
              exact m
    · by_cases en : n = N
      · subst en
        have u0 : (upd (upd (upd (upd f20 (4 * n) v1) (4 * n + 1) v2) (4 * n + 2) v3) (4 * n + 3) v4) (4 * n) = v1 := by unfold upd; rw [if_neg (by omega), if_neg (by omega), if_neg (by omega), if_pos rfl]
        have u2 : (upd (upd (upd (upd f20 (4 * n) v1) (4 * n + 1) v2) (4 * n + 2) v3) (4 * n + 3) v4) (4 * n + 2) = v3 := by unfold upd; rw [if_neg (by omega), if_pos rfl]
        rw [u0, u2]
        exact hrl
      · have u0 : (upd (upd (upd (upd f20 (4 * N) v1) (4 * N + 1) v2) (4 * N + 2) v3) (4 * N + 3) v4) (4 * n) = f20 (4 * n) := by unfold upd; rw [if_neg (by omega), if_neg (by omega), if_neg (by omega), if_neg (by omega)]
        have u2 : (upd (upd (upd (upd f20 (4 * N) v1) (4 * N + 1) v2) (4 * N + 2) v3) (4 * N + 3) v4) (4 * n + 2) = f20 (4 * n + 2) := by unfold upd; rw [if_neg (by omega), if_neg (by omega), if_neg (by omega), if_neg (by omega)]
        rw [u0, u2]
        exact hG.2.2.2.2.1.2 j20 _ _ _ _ k20 g20 n hn
  have hob := hob3
  have g17 : (ws.set j20 (r20, .inl (cI, 800, .inl (upd (upd (upd (upd f20 (4 * N) v1) (4 * N + 1) v2) (4 * N + 2) v3) (4 * N + 3) v4))))[j17]? = some (r17, .inl (cI, 50, .inl f17)) := zhkp s31 (znk k20 k17 (by decide)) g17
  clear s01 s02 s03 s11 s12 s13 s21 s22 s23 s31 s32 s33
  refine lv_aload_n hx hb dX6_acts_50 rfl (lv_at hl 1 rfl) ?_
  refine zg_RX6 X (34, 6, 17) (by decide) _ zks_6 (by decide) _ _ _ _ _ _ _ i _ (.ref r17) hG.1 hob q17 dX6_acts_51 ?_
  refine lv_bipush (v := 8) hx hb dX6_acts_54 (by decide) ?_
  refine lv_dup2_11 hx hb dX6_acts_56 rfl rfl ?_
  refine va_iald hx hb X.2.1.1 hG.1 j17 0 g17 rfl (inC _ _ (by decide)) dX6_acts_57 ?_
  rw [e8]
  refine lv_iconst (v := 1) hx hb dX6_acts_58 (by decide) ?_
  refine lv_iadd hx hb dX6_acts_59 ?_
  refine va_iast hx hb X.2.1.1 hG.1 hG.2.1 hG.2.2.1 j17 0 g17 rfl (inC _ _ (by decide)) dX6_acts_60 (fun H locs a1 a2 a3 => ?_)
  have hG := hG.stT hw k17 (by decide) g17 zks_42 (show (42, 1000 + (8 : Int32).toNatClampNeg) ∈ [(42, 1008)] by decide) m17 (show (0 : Int) ≤ (f17 8 + 1).toInt ∧ (f17 8 + 1).toInt ≤ 40 by rw [addI _ _ (by simp only [Int32.reduceToInt]; omega)]; simp only [Int32.reduceToInt]; omega) a1 a2 a3
  exact hR 61 _ _ _ _ [] hG ⟨trivial, fun _ h => (by cases h), fun _ h => (by cases h)⟩ dX6_acts_61
theorem zh_lays {l : Launch} {D : va_G} {cI cZ cB cJ cR : ClassId} {ks ad : List Nat} (hw : zworld ks ad zuq zNS (zPsi ks ad)) : zMet l D cI cZ cB cJ cR zKS ks ad (zPsi ks ad) yX6_lays (.code yX6_lays cX6_lays 3 none) 4 ([(8, 0, 0)], none, [], [], [], zrun 47 1000 1 7, []) := by
  refine zmet_gen 4 (by decide) (Nat.le_of_ble_eq_true rfl) rfl ?_
  intro p e R s m args below meth c Q A ws As ls X hG hok hpre hR hl
  have hx := X.1.1
  have hb := X.1.2.1
  obtain ⟨_, _, rfl, ⟨a, i, rfl, ki, di⟩, hok1⟩ := zst1 hok
  obtain rfl := zst0 hok1
  have hl : lv_has ls 3 [(0, .ref a)] := hl
  have hC : ∀ (k : Nat) (y : Int32) (ls : Array Slot) (w : va_W) (H : Heap) (locs : List Loc), 0 ≤ y.toInt → y.toInt ≤ 40 → (40 - y.toInt).toNat < k → lv_has ls 3 [(1, .int y), (0, .ref a)] → zHp D vwCl A s.heap (tyA cI cZ cB cJ cR) zKS ks ad RX0 (zPsi ks ad) (zrun 47 1000 1 7) ws w H locs → W p l e R s m args below meth c H locs 0 0 Q (F0 m 72 ls []) := by
    clear hl hG
    intro k
    induction k with
    | zero => intro y ls w H locs h1 h2 hk; exact absurd hk (Nat.not_lt_zero _)
    | succ k ih =>
      intro y ls w H locs h1 h2 hk hl hG
      obtain ⟨fs, hob, hfs⟩ := zobj hG.2.2.2.1 ki di zks_6
      obtain ⟨r17, j17, q17, k17, d17⟩ := zref (f := 17) (k := 42) hfs rfl
      obtain ⟨r20, j20, q20, k20, d20⟩ := zref (f := 20) (k := 45) hfs rfl
      obtain ⟨r22, j22, q22, k22, d22⟩ := zref (f := 22) (k := 47) hfs rfl
      obtain ⟨r23, j23, q23, k23, d23⟩ := zref (f := 23) (k := 48) hfs rfl
      obtain ⟨f17, g17, m17⟩ := zarrI hG.2.2.2.1 k17 d17 zks_42
      obtain ⟨f20, g20, m20⟩ := zarrI hG.2.2.2.1 k20 d20 zks_45
      obtain ⟨f22, g22, m22⟩ := zarrI hG.2.2.2.1 k22 d22 (rfl : zKS[47]? = _)
      obtain ⟨f23, g23, m23⟩ := zarrI hG.2.2.2.1 k23 d23 (rfl : zKS[48]? = _)
      refine lv_iload_n hx hb dX6_lays_72 rfl (lv_at hl 0 rfl) ?_
      refine lv_aload_n hx hb dX6_lays_73 rfl (lv_at hl 1 rfl) ?_
      refine zg_RX6 X (34, 6, 17) (by decide) _ zks_6 (by decide) _ _ _ _ _ _ _ i _ (.ref r17) hG.1 hob q17 dX6_lays_74 ?_
      refine lv_bipush (v := 8) hx hb dX6_lays_77 (by decide) ?_
      refine va_iald hx hb X.2.1.1 hG.1 j17 0 g17 rfl (inC _ _ (by decide)) dX6_lays_79 ?_
      have e8 : (8 : Int32).toNatClampNeg = 8 := by decide
      rw [e8]
      have l8 : (f17 8).toInt ≤ 40 := (m17 8 (by decide)).2
      refine lv_icmp_ge (tgt := 167) hx hb dX6_lays_80 (by decide) (fun _ => ?_) (fun hge => ?_)
      · exact hR 167 _ _ _ _ [] hG ⟨trivial, fun _ h => (by cases h), fun _ h => (by cases h)⟩ dX6_lays_167
      · simp only [ge_iff_le, Int32.le_iff_toInt_le] at hge
        obtain ⟨n, en⟩ : ∃ n : Nat, y.toInt = (n : Int) := ⟨y.toInt.toNat, by omega⟩
        obtain ⟨o0, o1, o2, o3⟩ := zact_rng m20 n (by omega)
        have hre := hG.2.2.2.2.1.2 j20 _ _ _ _ k20 g20 n (by omega)
        have hend : ∀ (ls : Array Slot) (w : va_W) (H : Heap) (locs : List Loc), lv_has ls 3 [(1, .int y), (0, .ref a)] → zHp D vwCl A s.heap (tyA cI cZ cB cJ cR) zKS ks ad RX0 (zPsi ks ad) (zrun 47 1000 1 7) ws w H locs → W p l e R s m args below meth c H locs 0 0 Q (F0 m 161 ls []) := by
          intro ls w H locs hl hG
          refine lv_iinc (k := 0) hx hb dX6_lays_161 hl rfl rfl (by decide) rfl (fun ls hl => ?_)
          have hl : lv_has ls 3 [(1, .int (y + Int32.ofInt 1)), (0, .ref a)] := hl
          refine lv_goto (tgt := 72) hx hb dX6_lays_164 (by decide) ?_
          have e3 : (y + Int32.ofInt 1).toInt = y.toInt + 1 := by rw [addI _ _ (by rw [show (Int32.ofInt 1).toInt = 1 from by decide]; omega)]; rfl
          exact ih _ ls w H locs (by omega) (by omega) (by omega) hl hG
        refine lv_aload_n hx hb dX6_lays_83 rfl (lv_at hl 1 rfl) ?_
        refine zg_RX6 X (43, 6, 20) (by decide) _ zks_6 (by decide) _ _ _ _ _ _ _ i _ (.ref r20) hG.1 hob q20 dX6_lays_84 ?_
        refine lv_iconst (v := 4) hx hb dX6_lays_87 (by decide) ?_
        refine lv_iload_n hx hb dX6_lays_88 rfl (lv_at hl 0 rfl) ?_
        refine lv_imul hx hb dX6_lays_89 ?_
        refine lv_topi (fun z1 hz1 => ?_)
        have ez1 : z1.toInt = 4 * (n : Int) := by rw [hz1, mulI _ _ (by simp only [Int32.reduceToInt]; omega), en]; rfl
        have cz1 : z1.toNatClampNeg = 4 * n := by have := tcn (z := z1) (by omega); omega
        refine va_iald hx hb X.2.1.1 hG.1 j20 0 g20 rfl (vp_in_iff.mpr ⟨by omega, by omega⟩) dX6_lays_90 ?_
        rw [cz1]
        refine lv_topi (fun p1 hp1 => ?_)
        refine lv_if_ne (tgt := 122) hx hb dX6_lays_91 (by decide) (fun hne => ?_) (fun heq => ?_)
        · skip
          have hk0 : (f20 (4 * n)).toInt ≠ 0 := fun h9 => hne (Int32.toInt_inj.mp (by rw [hp1, h9]; rfl))
          have hre := hre.2 hk0
          refine lv_aload_n hx hb dX6_lays_122 rfl (lv_at hl 1 rfl) ?_
          refine zg_RX6 X (53, 6, 23) (by decide) _ zks_6 (by decide) _ _ _ _ _ _ _ i _ (.ref r23) hG.1 hob q23 dX6_lays_123 ?_
          refine lv_bipush (v := 12) hx hb dX6_lays_126 (by decide) ?_
          refine lv_aload_n hx hb dX6_lays_128 rfl (lv_at hl 1 rfl) ?_
          refine zg_RX6 X (43, 6, 20) (by decide) _ zks_6 (by decide) _ _ _ _ _ _ _ i _ (.ref r20) hG.1 hob q20 dX6_lays_129 ?_
          refine lv_iconst (v := 4) hx hb dX6_lays_132 (by decide) ?_
          refine lv_iload_n hx hb dX6_lays_133 rfl (lv_at hl 0 rfl) ?_
          refine lv_imul hx hb dX6_lays_134 ?_
          refine lv_topi (fun z2 hz2 => ?_)
          have ez2 : z2.toInt = 4 * (n : Int) := by rw [hz2, mulI _ _ (by simp only [Int32.reduceToInt]; omega), en]; rfl
          refine lv_iconst (v := 1) hx hb dX6_lays_135 (by decide) ?_
          refine lv_iadd hx hb dX6_lays_136 ?_
          refine lv_topi (fun u2 hu2 => ?_)
          have eu2 : u2.toInt = 4 * (n : Int) + 1 := by rw [hu2, addI _ _ (by simp only [Int32.reduceToInt]; omega), ez2]; rfl
          have cu2 : u2.toNatClampNeg = 4 * n + 1 := by have := tcn (z := u2) (by omega); omega
          refine va_iald hx hb X.2.1.1 hG.1 j20 0 g20 rfl (vp_in_iff.mpr ⟨by omega, by omega⟩) dX6_lays_137 ?_
          rw [cu2]
          refine lv_topi (fun p2 hp2 => ?_)
          have lp : 0 ≤ p2.toInt ∧ p2.toInt ≤ 6 := by rw [hp2]; exact o1
          refine lv_imul hx hb dX6_lays_138 ?_
          refine lv_topi (fun t1 ht1 => ?_)
          have et1 : t1.toInt = 12 * p2.toInt := by rw [ht1, mulI _ _ (by simp only [Int32.reduceToInt]; omega)]; rfl
          refine lv_aload_n hx hb dX6_lays_139 rfl (lv_at hl 1 rfl) ?_
          refine zg_RX6 X (43, 6, 20) (by decide) _ zks_6 (by decide) _ _ _ _ _ _ _ i _ (.ref r20) hG.1 hob q20 dX6_lays_140 ?_
          refine lv_iconst (v := 4) hx hb dX6_lays_143 (by decide) ?_
          refine lv_iload_n hx hb dX6_lays_144 rfl (lv_at hl 0 rfl) ?_
          refine lv_imul hx hb dX6_lays_145 ?_
          refine lv_topi (fun z3 hz3 => ?_)
          have ez3 : z3.toInt = 4 * (n : Int) := by rw [hz3, mulI _ _ (by simp only [Int32.reduceToInt]; omega), en]; rfl
          refine lv_iconst (v := 2) hx hb dX6_lays_146 (by decide) ?_
          refine lv_iadd hx hb dX6_lays_147 ?_
          refine lv_topi (fun u3 hu3 => ?_)
          have eu3 : u3.toInt = 4 * (n : Int) + 2 := by rw [hu3, addI _ _ (by simp only [Int32.reduceToInt]; omega), ez3]; rfl
          have cu3 : u3.toNatClampNeg = 4 * n + 2 := by have := tcn (z := u3) (by omega); omega
          refine va_iald hx hb X.2.1.1 hG.1 j20 0 g20 rfl (vp_in_iff.mpr ⟨by omega, by omega⟩) dX6_lays_148 ?_
          rw [cu3]
          refine lv_topi (fun p3 hp3 => ?_)
          have lq : 0 ≤ p3.toInt ∧ p3.toInt ≤ 11 := by rw [hp3]; exact ⟨hre, o2.2⟩
          refine lv_iadd hx hb dX6_lays_149 ?_
          refine lv_topi (fun t2 ht2 => ?_)
          have et2 : t2.toInt = 12 * p2.toInt + p3.toInt := by rw [ht2, addI _ _ (by omega), et1]
          refine lv_aload_n hx hb dX6_lays_150 rfl (lv_at hl 1 rfl) ?_
          refine zg_RX6 X (43, 6, 20) (by decide) _ zks_6 (by decide) _ _ _ _ _ _ _ i _ (.ref r20) hG.1 hob q20 dX6_lays_151 ?_
          refine lv_iconst (v := 4) hx hb dX6_lays_154 (by decide) ?_
          refine lv_iload_n hx hb dX6_lays_155 rfl (lv_at hl 0 rfl) ?_
          refine lv_imul hx hb dX6_lays_156 ?_
          refine lv_topi (fun z4 hz4 => ?_)
          have ez4 : z4.toInt = 4 * (n : Int) := by rw [hz4, mulI _ _ (by simp only [Int32.reduceToInt]; omega), en]; rfl
          refine lv_iconst (v := 3) hx hb dX6_lays_157 (by decide) ?_
          refine lv_iadd hx hb dX6_lays_158 ?_
          refine lv_topi (fun u4 hu4 => ?_)
          have eu4 : u4.toInt = 4 * (n : Int) + 3 := by rw [hu4, addI _ _ (by simp only [Int32.reduceToInt]; omega), ez4]; rfl
          have cu4 : u4.toNatClampNeg = 4 * n + 3 := by have := tcn (z := u4) (by omega); omega
          refine va_iald hx hb X.2.1.1 hG.1 j20 0 g20 rfl (vp_in_iff.mpr ⟨by omega, by omega⟩) dX6_lays_159 ?_
          rw [cu4]
          refine lv_topi (fun p4 hp4 => ?_)
          have lr : -1 ≤ p4.toInt ∧ p4.toInt ≤ 9 := by rw [hp4]; exact o3
          refine va_iast hx hb X.2.1.1 hG.1 hG.2.1 hG.2.2.1 j23 0 g23 rfl (vp_in_iff.mpr ⟨by omega, by omega⟩) dX6_lays_160 (fun H locs a1 a2 a3 => ?_)
          exact hend ls _ H locs hl (hG.sti hw k23 (by decide) g23 rfl (by decide) m23 lr a1 a2 a3)
        · skip
          have hk0 : (f20 (4 * n)).toInt = 0 := by rw [← hp1, heq]; rfl
          have hre := hre.1 hk0
          refine lv_aload_n hx hb dX6_lays_94 rfl (lv_at hl 1 rfl) ?_
          refine zg_RX6 X (50, 6, 22) (by decide) _ zks_6 (by decide) _ _ _ _ _ _ _ i _ (.ref r22) hG.1 hob q22 dX6_lays_95 ?_
          refine lv_aload_n hx hb dX6_lays_98 rfl (lv_at hl 1 rfl) ?_
          refine zg_RX6 X (43, 6, 20) (by decide) _ zks_6 (by decide) _ _ _ _ _ _ _ i _ (.ref r20) hG.1 hob q20 dX6_lays_99 ?_
          refine lv_iconst (v := 4) hx hb dX6_lays_102 (by decide) ?_
          refine lv_iload_n hx hb dX6_lays_103 rfl (lv_at hl 0 rfl) ?_
          refine lv_imul hx hb dX6_lays_104 ?_
          refine lv_topi (fun z5 hz5 => ?_)
          have ez5 : z5.toInt = 4 * (n : Int) := by rw [hz5, mulI _ _ (by simp only [Int32.reduceToInt]; omega), en]; rfl
          refine lv_iconst (v := 1) hx hb dX6_lays_105 (by decide) ?_
          refine lv_iadd hx hb dX6_lays_106 ?_
          refine lv_topi (fun u5 hu5 => ?_)
          have eu5 : u5.toInt = 4 * (n : Int) + 1 := by rw [hu5, addI _ _ (by simp only [Int32.reduceToInt]; omega), ez5]; rfl
          have cu5 : u5.toNatClampNeg = 4 * n + 1 := by have := tcn (z := u5) (by omega); omega
          refine va_iald hx hb X.2.1.1 hG.1 j20 0 g20 rfl (vp_in_iff.mpr ⟨by omega, by omega⟩) dX6_lays_107 ?_
          rw [cu5]
          refine lv_topi (fun p5 hp5 => ?_)
          have lp : 0 ≤ p5.toInt ∧ p5.toInt ≤ 6 := by rw [hp5]; exact o1
          refine lv_aload_n hx hb dX6_lays_108 rfl (lv_at hl 1 rfl) ?_
          refine zg_RX6 X (43, 6, 20) (by decide) _ zks_6 (by decide) _ _ _ _ _ _ _ i _ (.ref r20) hG.1 hob q20 dX6_lays_109 ?_
          refine lv_iconst (v := 4) hx hb dX6_lays_112 (by decide) ?_
          refine lv_iload_n hx hb dX6_lays_113 rfl (lv_at hl 0 rfl) ?_
          refine lv_imul hx hb dX6_lays_114 ?_
          refine lv_topi (fun z6 hz6 => ?_)
          have ez6 : z6.toInt = 4 * (n : Int) := by rw [hz6, mulI _ _ (by simp only [Int32.reduceToInt]; omega), en]; rfl
          refine lv_iconst (v := 2) hx hb dX6_lays_115 (by decide) ?_
          refine lv_iadd hx hb dX6_lays_116 ?_
          refine lv_topi (fun u6 hu6 => ?_)
          have eu6 : u6.toInt = 4 * (n : Int) + 2 := by rw [hu6, addI _ _ (by simp only [Int32.reduceToInt]; omega), ez6]; rfl
          have cu6 : u6.toNatClampNeg = 4 * n + 2 := by have := tcn (z := u6) (by omega); omega
          refine va_iald hx hb X.2.1.1 hG.1 j20 0 g20 rfl (vp_in_iff.mpr ⟨by omega, by omega⟩) dX6_lays_117 ?_
          rw [cu6]
          refine lv_topi (fun p6 hp6 => ?_)
          have lq : -1 ≤ p6.toInt ∧ p6.toInt ≤ 6 := by rw [hp6]; exact ⟨o2.1, hre⟩
          refine va_iast hx hb X.2.1.1 hG.1 hG.2.1 hG.2.2.1 j22 0 g22 rfl (vp_in_iff.mpr ⟨by omega, by omega⟩) dX6_lays_118 (fun H locs a1 a2 a3 => ?_)
          refine lv_goto (tgt := 161) hx hb dX6_lays_119 (by decide) ?_
          have cp : p5.toNatClampNeg < 7 := by have := tcn (z := p5) lp.1; omega
          exact hend ls _ H locs hl (hG.stT hw k22 (by decide) g22 rfl (zrun_mem cp) m22 lq a1 a2 a3)
  suffices hA : ∀ (k : Nat) (y : Int32) (ls : Array Slot) (w : va_W) (H : Heap) (locs : List Loc), 0 ≤ y.toInt → y.toInt ≤ 7 → (7 - y.toInt).toNat < k → lv_has ls 3 [(1, .int y), (0, .ref a)] → zHp D vwCl A s.heap (tyA cI cZ cB cJ cR) zKS ks ad RX0 (zPsi ks ad) (zrun 47 1000 1 7) ws w H locs → W p l e R s m args below meth c H locs 0 0 Q (F0 m 2 ls []) by
    refine lv_iconst (v := 0) hx hb dX6_lays_0 (by decide) ?_
    refine lv_istore_n hx hb dX6_lays_1 rfl hl (by decide) rfl (fun ls hl => ?_)
    have hl : lv_has ls 3 [(1, .int 0), (0, .ref a)] := hl
    exact hA _ _ ls _ _ _ (by decide) (by decide) (Nat.lt_succ_self _) hl hG
  clear hl hG
  intro k
  induction k with
  | zero => intro y ls w H locs h1 h2 hk; exact absurd hk (Nat.not_lt_zero _)
  | succ k ih =>
    intro y ls w H locs h1 h2 hk hl hG
    refine lv_iload_n hx hb dX6_lays_2 rfl (lv_at hl 0 rfl) ?_
    refine lv_aload_n hx hb dX6_lays_3 rfl (lv_at hl 1 rfl) ?_
    refine zq_RX6_227 X (zh_people) (by decide) rfl rfl _ _ [.int y] _ _ _ [.ref a] hG.1 hG.2.1 hG.2.2.1 hG.2.2.2.1 hG.2.2.2.2.1 ⟨⟨_, _, rfl, ki, di⟩, trivial⟩ (by show 1 + 0 ≤ 8; decide) hl.1 (fun _ h => by cases h) dX6_lays_4 (fun H locs w1 r b1 b2 b3 b4 b5 b6 b7 => ?_)
    obtain ⟨_, _, rfl, ⟨z, rfl, lz⟩, b8⟩ := zst1 b7.1
    obtain rfl := zst0 b8
    dsimp only at lz
    have hG : zHp D vwCl A s.heap (tyA cI cZ cB cJ cR) zKS ks ad RX0 (zPsi ks ad) (zrun 47 1000 1 7) ws w1 H locs := ⟨b1, b2, b3, b4, b5, fun k f hf => (b6 k f (fun h9 => by cases h9)).trans (hG.2.2.2.2.2 k f hf)⟩
    clear b1 b2 b3 b4 b5 b6 b7 b8
    dsimp only [List.cons_append, List.nil_append]
    refine lv_icmp_ge (tgt := 70) hx hb dX6_lays_7 (by decide) (fun _ => ?_) (fun hge => ?_)
    · skip
      refine lv_iconst (v := 0) hx hb dX6_lays_70 (by decide) ?_
      refine lv_istore_n hx hb dX6_lays_71 rfl hl (by decide) rfl (fun ls hl => ?_)
      have hl : lv_has ls 3 [(1, .int 0), (0, .ref a)] := hl
      exact hC _ _ ls w1 H locs (by decide) (by decide) (Nat.lt_succ_self _) hl hG
    · simp only [ge_iff_le, Int32.le_iff_toInt_le] at hge
      obtain ⟨n, en⟩ : ∃ n : Nat, y.toInt = (n : Int) := ⟨y.toInt.toNat, by omega⟩
      obtain ⟨fs, hob, hfs⟩ := zobj hG.2.2.2.1 ki di zks_6
      obtain ⟨r18, j18, q18, k18, d18⟩ := zref (f := 18) (k := 43) hfs rfl
      obtain ⟨r22, j22, q22, k22, d22⟩ := zref (f := 22) (k := 47) hfs rfl
      obtain ⟨f18, g18, m18⟩ := zarrI hG.2.2.2.1 k18 d18 zks_43
      obtain ⟨f22, g22, m22⟩ := zarrI hG.2.2.2.1 k22 d22 (rfl : zKS[47]? = _)
      refine lv_aload_n hx hb dX6_lays_10 rfl (lv_at hl 1 rfl) ?_
      refine zg_RX6 X (50, 6, 22) (by decide) _ zks_6 (by decide) _ _ _ _ _ _ _ i _ (.ref r22) hG.1 hob q22 dX6_lays_11 ?_
      refine lv_iload_n hx hb dX6_lays_14 rfl (lv_at hl 0 rfl) ?_
      refine lv_aload_n hx hb dX6_lays_15 rfl (lv_at hl 1 rfl) ?_
      refine zg_RX6 X (37, 6, 18) (by decide) _ zks_6 (by decide) _ _ _ _ _ _ _ i _ (.ref r18) hG.1 hob q18 dX6_lays_16 ?_
      refine lv_iconst (v := 2) hx hb dX6_lays_19 (by decide) ?_
      refine lv_iload_n hx hb dX6_lays_20 rfl (lv_at hl 0 rfl) ?_
      refine lv_imul hx hb dX6_lays_21 ?_
      refine lv_topi (fun t1 ht1 => ?_)
      have et1 : t1.toInt = 2 * (n : Int) := by rw [ht1, mulI _ _ (by simp only [Int32.reduceToInt]; omega), en]; rfl
      refine lv_iconst (v := 1) hx hb dX6_lays_22 (by decide) ?_
      refine lv_iadd hx hb dX6_lays_23 ?_
      refine lv_topi (fun t2 ht2 => ?_)
      have et2 : t2.toInt = 2 * (n : Int) + 1 := by rw [ht2, addI _ _ (by simp only [Int32.reduceToInt]; omega), et1]; rfl
      have ct2 : t2.toNatClampNeg = 2 * n + 1 := by have := tcn (z := t2) (by omega); omega
      refine va_iald hx hb X.2.1.1 hG.1 j18 0 g18 rfl (vp_in_iff.mpr ⟨by omega, by omega⟩) dX6_lays_24 ?_
      rw [ct2]
      have lv : -1 ≤ (f18 (2 * n + 1)).toInt ∧ (f18 (2 * n + 1)).toInt ≤ 6 := by have h9 := m18 (2 * n + 1) (by omega); rw [zelP_ty n (by omega)] at h9; exact h9
      have cyn : y.toNatClampNeg < 7 := by have := tcn (z := y) h1; omega
      refine va_iast hx hb X.2.1.1 hG.1 hG.2.1 hG.2.2.1 j22 0 g22 rfl (vp_in_iff.mpr ⟨by omega, by omega⟩) dX6_lays_25 (fun H locs a1 a2 a3 => ?_)
      have hG := hG.stT hw k22 (by decide) g22 rfl (zrun_mem cyn) m22 lv a1 a2 a3
      clear a1 a2 a3
      refine lv_iconst (v := 0) hx hb dX6_lays_26 (by decide) ?_
      refine lv_istore_n hx hb dX6_lays_27 rfl hl (by decide) rfl (fun ls hl => ?_)
      have hl : lv_has ls 3 [(2, .int 0), (1, .int y), (0, .ref a)] := hl
      suffices hB : ∀ (k : Nat) (u : Int32) (ls : Array Slot) (w : va_W) (H : Heap) (locs : List Loc), 0 ≤ u.toInt → u.toInt ≤ 12 → (12 - u.toInt).toNat < k → lv_has ls 3 [(2, .int u), (1, .int y), (0, .ref a)] → zHp D vwCl A s.heap (tyA cI cZ cB cJ cR) zKS ks ad RX0 (zPsi ks ad) (zrun 47 1000 1 7) ws w H locs → W p l e R s m args below meth c H locs 0 0 Q (F0 m 28 ls []) from hB _ _ ls _ _ _ (by decide) (by decide) (Nat.lt_succ_self _) hl hG
      clear hl hG hob hfs
      intro k2
      induction k2 with
      | zero => intro u ls w H locs h1 h2 hk; exact absurd hk (Nat.not_lt_zero _)
      | succ k2 ih2 =>
        intro u ls w H locs u1 u2 hk2 hl hG
        refine lv_iload_n hx hb dX6_lays_28 rfl (lv_at hl 0 rfl) ?_
        refine lv_aload_n hx hb dX6_lays_29 rfl (lv_at hl 2 rfl) ?_
        refine zq_RX6_231 X (zh_hours) (by decide) rfl rfl _ _ [.int u] _ _ _ [.ref a] hG.1 hG.2.1 hG.2.2.1 hG.2.2.2.1 hG.2.2.2.2.1 ⟨⟨_, _, rfl, ki, di⟩, trivial⟩ (by show 1 + 0 ≤ 8; decide) hl.1 (fun _ h => by cases h) dX6_lays_30 (fun H locs w1 r b1 b2 b3 b4 b5 b6 b7 => ?_)
        obtain ⟨_, _, rfl, ⟨z2, rfl, lz2⟩, b8⟩ := zst1 b7.1
        obtain rfl := zst0 b8
        dsimp only at lz2
        have hG : zHp D vwCl A s.heap (tyA cI cZ cB cJ cR) zKS ks ad RX0 (zPsi ks ad) (zrun 47 1000 1 7) ws w1 H locs := ⟨b1, b2, b3, b4, b5, fun k f hf => (b6 k f (fun h9 => by cases h9)).trans (hG.2.2.2.2.2 k f hf)⟩
        clear b1 b2 b3 b4 b5 b6 b7 b8
        dsimp only [List.cons_append, List.nil_append]
        refine lv_icmp_ge (tgt := 64) hx hb dX6_lays_33 (by decide) (fun _ => ?_) (fun hge2 => ?_)
        · skip
          refine lv_iinc (k := 1) hx hb dX6_lays_64 hl rfl rfl (by decide) rfl (fun ls hl => ?_)
          have hl : lv_has ls 3 [(1, .int (y + Int32.ofInt 1)), (2, .int u), (0, .ref a)] := hl
          refine lv_goto (tgt := 2) hx hb dX6_lays_67 (by decide) ?_
          have e3 : (y + Int32.ofInt 1).toInt = y.toInt + 1 := by rw [addI _ _ (by rw [show (Int32.ofInt 1).toInt = 1 from by decide]; omega)]; rfl
          exact ih _ ls w1 H locs (by omega) (by omega) (by omega) (lv_sub hl [0, 2] rfl) hG
        · simp only [ge_iff_le, Int32.le_iff_toInt_le] at hge2
          obtain ⟨fs, hob, hfs⟩ := zobj hG.2.2.2.1 ki di zks_6
          obtain ⟨r19, j19, q19, k19, d19⟩ := zref (f := 19) (k := 44) hfs rfl
          obtain ⟨r23, j23, q23, k23, d23⟩ := zref (f := 23) (k := 48) hfs rfl
          obtain ⟨f19, g19, m19⟩ := zarrI hG.2.2.2.1 k19 d19 (rfl : zKS[44]? = _)
          obtain ⟨f23, g23, m23⟩ := zarrI hG.2.2.2.1 k23 d23 (rfl : zKS[48]? = _)
          refine lv_aload_n hx hb dX6_lays_36 rfl (lv_at hl 2 rfl) ?_
          refine zg_RX6 X (53, 6, 23) (by decide) _ zks_6 (by decide) _ _ _ _ _ _ _ i _ (.ref r23) hG.1 hob q23 dX6_lays_37 ?_
          refine lv_bipush (v := 12) hx hb dX6_lays_40 (by decide) ?_
          refine lv_iload_n hx hb dX6_lays_42 rfl (lv_at hl 1 rfl) ?_
          refine lv_imul hx hb dX6_lays_43 ?_
          refine lv_topi (fun a5 ha5 => ?_)
          have ea5 : a5.toInt = 12 * y.toInt := by rw [ha5, mulI _ _ (by simp only [Int32.reduceToInt]; omega)]; rfl
          refine lv_iload_n hx hb dX6_lays_44 rfl (lv_at hl 0 rfl) ?_
          refine lv_iadd hx hb dX6_lays_45 ?_
          refine lv_topi (fun c5 hc5 => ?_)
          have ec5 : c5.toInt = 12 * y.toInt + u.toInt := by rw [hc5, addI _ _ (by omega), ea5]
          refine lv_aload_n hx hb dX6_lays_46 rfl (lv_at hl 2 rfl) ?_
          refine zg_RX6 X (40, 6, 19) (by decide) _ zks_6 (by decide) _ _ _ _ _ _ _ i _ (.ref r19) hG.1 hob q19 dX6_lays_47 ?_
          refine lv_bipush (v := 12) hx hb dX6_lays_50 (by decide) ?_
          refine lv_iload_n hx hb dX6_lays_52 rfl (lv_at hl 1 rfl) ?_
          refine lv_imul hx hb dX6_lays_53 ?_
          refine lv_topi (fun a6 ha6 => ?_)
          have ea6 : a6.toInt = 12 * y.toInt := by rw [ha6, mulI _ _ (by simp only [Int32.reduceToInt]; omega)]; rfl
          refine lv_iload_n hx hb dX6_lays_54 rfl (lv_at hl 0 rfl) ?_
          refine lv_iadd hx hb dX6_lays_55 ?_
          refine lv_topi (fun c6 hc6 => ?_)
          have ec6 : c6.toInt = 12 * y.toInt + u.toInt := by rw [hc6, addI _ _ (by omega), ea6]
          refine va_iald hx hb X.2.1.1 hG.1 j19 0 g19 rfl (vp_in_iff.mpr ⟨by omega, by omega⟩) dX6_lays_56 ?_
          have cc6 := tcn (z := c6) (by omega)
          refine va_iast hx hb X.2.1.1 hG.1 hG.2.1 hG.2.2.1 j23 0 g23 rfl (vp_in_iff.mpr ⟨by omega, by omega⟩) dX6_lays_57 (fun H locs a1 a2 a3 => ?_)
          have hG := hG.sti hw k23 (by decide) g23 rfl (by decide) m23 (show (-1 : Int) ≤ _ ∧ _ ≤ (9 : Int) from m19 _ (by omega)) a1 a2 a3
          clear a1 a2 a3
          refine lv_iinc (k := 0) hx hb dX6_lays_58 hl rfl rfl (by decide) rfl (fun ls hl => ?_)
          have hl : lv_has ls 3 [(2, .int (u + Int32.ofInt 1)), (1, .int y), (0, .ref a)] := hl
          refine lv_goto (tgt := 28) hx hb dX6_lays_61 (by decide) ?_
          have e3 : (u + Int32.ofInt 1).toInt = u.toInt + 1 := by rw [addI _ _ (by rw [show (Int32.ofInt 1).toInt = 1 from by decide]; omega)]; rfl
          exact ih2 _ ls _ H locs (by omega) (by omega) (by omega) hl hG
