section GL
variable {p : Program} {l : Launch} {e : Env} {R : Room} {s : State} {m : MethodId} {args : Array Value} {below : List Frame} {meth : Method} {c : Code} {cells slots : Nat} {Q : State → Prop}
variable {D : va_G} {cI cZ cB cJ cR : ClassId} {KS : List zk} {A : Nat → Prop} {Psi : va_W → Prop} {cc : ByteArray} {ks ad : List Nat} {nL d : Nat} {own : String}
theorem zq_copyF {idx k1 N : Nat} {el : List zt} (hPs : ∀ (ws : va_W) (i k a : Nat) (e e' : va_E), ks[i]? = some k → k = k1 → zsim k e e' → ws[i]? = some (a, e) → Psi ws → Psi (ws.set i (a, e'))) (X : zctx p R s m args c cells slots cc nL own D cI cZ cB cJ cR A d ks ad) (hlev : 1 ≤ d) (h1 : (.methodLink own idx arraycopyName : Cond) ∈ wsL_law) (h2 : (.native arraycopyName : Cond) ∈ wsL_law) (h3 : (.static arraycopyName : Cond) ∈ wsL_law) (h4 : (.initialized "java/lang/System" : Cond) ∈ wsL_law) (hk1 : KS[k1]? = some (.inl (0, N, el))) (hta : zTA.contains k1 = false) :
    zCallP p l e R s m args below meth c cells slots Q cc D vwCl A (tyA cI cZ cB cJ cR) KS ks ad RX0 Psi nL (1, idx, ([(k1 + 2, 0, 0), (0, 0, 0), (k1 + 2, 0, 0), (0, 0, 0), (0, (N : Int), (N : Int))], none, [], [], [], [], [])) := by
  intro pc ls rest H locs ws As hP hD hS hc hPsi hok hroom hls hpre hdg kk
  obtain ⟨X1, hk, hA, x1, x2, ⟨x3, x4⟩, hSa⟩ := X
  obtain ⟨v1, As1, rfl, ⟨a0, i0, rfl, g1, g2⟩, hok1⟩ := zst1 hok
  obtain ⟨v2, As2, rfl, ⟨sp, rfl, sl, sh⟩, hok2⟩ := zst1 hok1
  obtain ⟨v3, As3, rfl, ⟨a1, i1, rfl, g3, g4⟩, hok3⟩ := zst1 hok2
  obtain ⟨v4, As4, rfl, ⟨dp, rfl, dl, dh⟩, hok4⟩ := zst1 hok3
  obtain ⟨v5, As5, rfl, ⟨n, rfl, nl, nh⟩, hok5⟩ := zst1 hok4
  obtain rfl := zst0 hok5
  dsimp only at sl sh dl dh nl nh
  obtain ⟨e0, w0, c0⟩ := zconf_at hc g1 g2 hk1
  obtain ⟨e1, w1, c1⟩ := zconf_at hc g3 g4 hk1
  have tc : ∀ z : Int32, 0 ≤ z.toInt → (z.toNatClampNeg : Int) = z.toInt := fun z hz => by show ((z.toInt.toNat : Nat) : Int) = z.toInt; omega
  have hsp := tc sp (by omega)
  have hdp := tc dp (by omega)
  have hn := tc n (by omega)
  have nn : ∀ z : Int32, 0 ≤ z.toInt → ¬ z < 0 := fun z hz hlt => by rw [Int32.lt_iff_toInt_lt, Int32.toInt_zero] at hlt; omega
  match e0, c0, w0, e1, c1, w1 with
  | .inl (cA, z0, .inl f), ⟨b1, b2, b3⟩, w0, .inl (cB', z1, .inl g), ⟨b4, b5, b6⟩, w1 =>
    dsimp only at b1 b2 b3 b4 b5 b6
    subst b1
    subst b4
    refine va_copyi (rest := rest) X1.1 X1.2.1 (X1.2.2.1.trans hls.symm) X1.2.2.2.1 (X1.2.2.2.2 _ h1) (X1.2.2.2.2 _ h2) (X1.2.2.2.2 _ h3) (X1.2.2.2.2 _ h4) hk.1 hP hD hS i0 i1 0 0 w0 w1 b2 b5 rfl (nn sp (by omega)) (nn dp (by omega)) (nn n (by omega)) (by omega) (by omega) (fun _ _ => rfl) (by omega) ?_ hdg (fun H1 locs1 p1 p2 p3 => ?_)
    · have : nativeFrameWords "java/lang/System" "arraycopy" 5 + 11 ≤ 50 := by decide
      omega
    · refine kk H1 locs1 _ [] p1 p2 p3 (zconf_set hc g3 w1 hk1 ⟨rfl, b5, b6.1, fun j hj => ?_⟩) (hPs ws i1 k1 a1 (.inl (cB', z1, .inl g)) (.inl (cB', z1, .inl _)) g3 rfl trivial w1 hPsi) (fun k9 f9 _ => zfv_set w1 g3 k9 f9 (fun e9 => by rw [e9, zav_un hta, zav_un hta])) ⟨trivial, fun _ h => (by cases h), fun _ h => (by cases h)⟩
      show (zel el j).2.1 ≤ (va_cpy f g _ _ _ j).toInt ∧ (va_cpy f g _ _ _ j).toInt ≤ (zel el j).2.2
      dsimp only at hj
      unfold va_cpy
      rw [if_pos (by omega), show sp.toNatClampNeg + (j - dp.toNatClampNeg) = j by omega]
      exact b3.2 j hj
  | .inl (_, _, .inr (.inl _)), ⟨_, _, b3⟩, _, _, _, _ => dsimp only at b3; exact absurd b3.1 (by decide)
  | .inl (_, _, .inr (.inr (.inr (.inr _)))), ⟨_, _, b3⟩, _, _, _, _ => dsimp only at b3; exact absurd b3.1 (by decide)
  | .inl (_, _, .inr (.inr (.inl _))), ⟨_, _, b3⟩, _, _, _, _ => exact b3.elim
  | .inl (_, _, .inr (.inr (.inr (.inl _)))), ⟨_, _, b3⟩, _, _, _, _ => exact b3.elim
  | .inr _, c0, _, _, _, _ => exact c0.elim
  | .inl (_, _, .inl _), _, _, .inl (_, _, .inr (.inl _)), ⟨_, _, b6⟩, _ => dsimp only at b6; exact absurd b6.1 (by decide)
  | .inl (_, _, .inl _), _, _, .inl (_, _, .inr (.inr (.inr (.inr _)))), ⟨_, _, b6⟩, _ => dsimp only at b6; exact absurd b6.1 (by decide)
  | .inl (_, _, .inl _), _, _, .inl (_, _, .inr (.inr (.inl _))), ⟨_, _, b6⟩, _ => exact b6.elim
  | .inl (_, _, .inl _), _, _, .inl (_, _, .inr (.inr (.inr (.inl _)))), ⟨_, _, b6⟩, _ => exact b6.elim
  | .inl (_, _, .inl _), _, _, .inr _, c1, _ => exact c1.elim
end GL
theorem tcn {z : Int32} (h : 0 ≤ z.toInt) : (z.toNatClampNeg : Int) = z.toInt := by
  show ((z.toInt.toNat : Nat) : Int) = z.toInt
  omega
theorem cpyF {f g : Nat → Int32} (n : Nat) (h : n < 40) : va_cpy f g (0 : Int32).toNatClampNeg (0 : Int32).toNatClampNeg (40 : Int32).toNatClampNeg n = f n := by
  have e1 : (0 : Int32).toNatClampNeg = 0 := by decide
  have e2 : (40 : Int32).toNatClampNeg = 40 := by decide
  rw [e1, e2]
  unfold va_cpy
  rw [if_pos (by omega)]
  congr 1
  omega
theorem dX0_copyFrom_0 : decode cX0_copyFrom 0 = .ok (.aload_n 1, 1) := by decide +kernel
theorem dX0_copyFrom_1 : decode cX0_copyFrom 1 = .ok (.getfield 9, 3) := by decide +kernel
theorem dX0_copyFrom_10 : decode cX0_copyFrom 10 = .ok (.bipush 7, 2) := by decide +kernel
theorem dX0_copyFrom_100 : decode cX0_copyFrom 100 = .ok (.aload_n 1, 1) := by decide +kernel
theorem dX0_copyFrom_101 : decode cX0_copyFrom 101 = .ok (.getfield 52, 3) := by decide +kernel
theorem dX0_copyFrom_104 : decode cX0_copyFrom 104 = .ok (.putfield 52, 3) := by decide +kernel
theorem dX0_copyFrom_107 : decode cX0_copyFrom 107 = .ok (.aload_n 1, 1) := by decide +kernel
theorem dX0_copyFrom_108 : decode cX0_copyFrom 108 = .ok (.getfield 30, 3) := by decide +kernel
theorem dX0_copyFrom_111 : decode cX0_copyFrom 111 = .ok (.iconst 0, 1) := by decide +kernel
theorem dX0_copyFrom_112 : decode cX0_copyFrom 112 = .ok (.aload_n 0, 1) := by decide +kernel
theorem dX0_copyFrom_113 : decode cX0_copyFrom 113 = .ok (.getfield 30, 3) := by decide +kernel
theorem dX0_copyFrom_116 : decode cX0_copyFrom 116 = .ok (.iconst 0, 1) := by decide +kernel
theorem dX0_copyFrom_117 : decode cX0_copyFrom 117 = .ok (.bipush 40, 2) := by decide +kernel
theorem dX0_copyFrom_119 : decode cX0_copyFrom 119 = .ok (.invokestatic 55, 3) := by decide +kernel
theorem dX0_copyFrom_12 : decode cX0_copyFrom 12 = .ok (.invokestatic 55, 3) := by decide +kernel
theorem dX0_copyFrom_122 : decode cX0_copyFrom 122 = .ok (.aload_n 1, 1) := by decide +kernel
theorem dX0_copyFrom_123 : decode cX0_copyFrom 123 = .ok (.getfield 33, 3) := by decide +kernel
theorem dX0_copyFrom_126 : decode cX0_copyFrom 126 = .ok (.iconst 0, 1) := by decide +kernel
theorem dX0_copyFrom_127 : decode cX0_copyFrom 127 = .ok (.aload_n 0, 1) := by decide +kernel
theorem dX0_copyFrom_128 : decode cX0_copyFrom 128 = .ok (.getfield 33, 3) := by decide +kernel
theorem dX0_copyFrom_131 : decode cX0_copyFrom 131 = .ok (.iconst 0, 1) := by decide +kernel
theorem dX0_copyFrom_132 : decode cX0_copyFrom 132 = .ok (.bipush 40, 2) := by decide +kernel
theorem dX0_copyFrom_134 : decode cX0_copyFrom 134 = .ok (.invokestatic 55, 3) := by decide +kernel
theorem dX0_copyFrom_137 : decode cX0_copyFrom 137 = .ok (.aload_n 1, 1) := by decide +kernel
theorem dX0_copyFrom_138 : decode cX0_copyFrom 138 = .ok (.getfield 36, 3) := by decide +kernel
theorem dX0_copyFrom_141 : decode cX0_copyFrom 141 = .ok (.iconst 0, 1) := by decide +kernel
theorem dX0_copyFrom_142 : decode cX0_copyFrom 142 = .ok (.aload_n 0, 1) := by decide +kernel
theorem dX0_copyFrom_143 : decode cX0_copyFrom 143 = .ok (.getfield 36, 3) := by decide +kernel
theorem dX0_copyFrom_146 : decode cX0_copyFrom 146 = .ok (.iconst 0, 1) := by decide +kernel
theorem dX0_copyFrom_147 : decode cX0_copyFrom 147 = .ok (.bipush 40, 2) := by decide +kernel
theorem dX0_copyFrom_149 : decode cX0_copyFrom 149 = .ok (.invokestatic 55, 3) := by decide +kernel
theorem dX0_copyFrom_15 : decode cX0_copyFrom 15 = .ok (.aload_n 0, 1) := by decide +kernel
theorem dX0_copyFrom_152 : decode cX0_copyFrom 152 = .ok (.aload_n 1, 1) := by decide +kernel
theorem dX0_copyFrom_153 : decode cX0_copyFrom 153 = .ok (.getfield 39, 3) := by decide +kernel
theorem dX0_copyFrom_156 : decode cX0_copyFrom 156 = .ok (.iconst 0, 1) := by decide +kernel
theorem dX0_copyFrom_157 : decode cX0_copyFrom 157 = .ok (.aload_n 0, 1) := by decide +kernel
theorem dX0_copyFrom_158 : decode cX0_copyFrom 158 = .ok (.getfield 39, 3) := by decide +kernel
theorem dX0_copyFrom_16 : decode cX0_copyFrom 16 = .ok (.aload_n 1, 1) := by decide +kernel
theorem dX0_copyFrom_161 : decode cX0_copyFrom 161 = .ok (.iconst 0, 1) := by decide +kernel
theorem dX0_copyFrom_162 : decode cX0_copyFrom 162 = .ok (.bipush 40, 2) := by decide +kernel
theorem dX0_copyFrom_164 : decode cX0_copyFrom 164 = .ok (.invokestatic 55, 3) := by decide +kernel
theorem dX0_copyFrom_167 : decode cX0_copyFrom 167 = .ok (.return_, 1) := by decide +kernel
theorem dX0_copyFrom_17 : decode cX0_copyFrom 17 = .ok (.getfield 42, 3) := by decide +kernel
theorem dX0_copyFrom_20 : decode cX0_copyFrom 20 = .ok (.putfield 42, 3) := by decide +kernel
theorem dX0_copyFrom_23 : decode cX0_copyFrom 23 = .ok (.aload_n 0, 1) := by decide +kernel
theorem dX0_copyFrom_24 : decode cX0_copyFrom 24 = .ok (.aload_n 1, 1) := by decide +kernel
theorem dX0_copyFrom_25 : decode cX0_copyFrom 25 = .ok (.getfield 46, 3) := by decide +kernel
theorem dX0_copyFrom_28 : decode cX0_copyFrom 28 = .ok (.putfield 46, 3) := by decide +kernel
theorem dX0_copyFrom_31 : decode cX0_copyFrom 31 = .ok (.aload_n 0, 1) := by decide +kernel
theorem dX0_copyFrom_32 : decode cX0_copyFrom 32 = .ok (.aload_n 1, 1) := by decide +kernel
theorem dX0_copyFrom_33 : decode cX0_copyFrom 33 = .ok (.getfield 49, 3) := by decide +kernel
theorem dX0_copyFrom_36 : decode cX0_copyFrom 36 = .ok (.putfield 49, 3) := by decide +kernel
theorem dX0_copyFrom_39 : decode cX0_copyFrom 39 = .ok (.aload_n 1, 1) := by decide +kernel
theorem dX0_copyFrom_4 : decode cX0_copyFrom 4 = .ok (.iconst 0, 1) := by decide +kernel
theorem dX0_copyFrom_40 : decode cX0_copyFrom 40 = .ok (.getfield 15, 3) := by decide +kernel
theorem dX0_copyFrom_43 : decode cX0_copyFrom 43 = .ok (.iconst 0, 1) := by decide +kernel
theorem dX0_copyFrom_44 : decode cX0_copyFrom 44 = .ok (.aload_n 0, 1) := by decide +kernel
theorem dX0_copyFrom_45 : decode cX0_copyFrom 45 = .ok (.getfield 15, 3) := by decide +kernel
theorem dX0_copyFrom_48 : decode cX0_copyFrom 48 = .ok (.iconst 0, 1) := by decide +kernel
theorem dX0_copyFrom_49 : decode cX0_copyFrom 49 = .ok (.bipush 7, 2) := by decide +kernel
theorem dX0_copyFrom_5 : decode cX0_copyFrom 5 = .ok (.aload_n 0, 1) := by decide +kernel
theorem dX0_copyFrom_51 : decode cX0_copyFrom 51 = .ok (.invokestatic 55, 3) := by decide +kernel
theorem dX0_copyFrom_54 : decode cX0_copyFrom 54 = .ok (.aload_n 1, 1) := by decide +kernel
theorem dX0_copyFrom_55 : decode cX0_copyFrom 55 = .ok (.getfield 18, 3) := by decide +kernel
theorem dX0_copyFrom_58 : decode cX0_copyFrom 58 = .ok (.iconst 0, 1) := by decide +kernel
theorem dX0_copyFrom_59 : decode cX0_copyFrom 59 = .ok (.aload_n 0, 1) := by decide +kernel
theorem dX0_copyFrom_6 : decode cX0_copyFrom 6 = .ok (.getfield 9, 3) := by decide +kernel
theorem dX0_copyFrom_60 : decode cX0_copyFrom 60 = .ok (.getfield 18, 3) := by decide +kernel
theorem dX0_copyFrom_63 : decode cX0_copyFrom 63 = .ok (.iconst 0, 1) := by decide +kernel
theorem dX0_copyFrom_64 : decode cX0_copyFrom 64 = .ok (.bipush 7, 2) := by decide +kernel
theorem dX0_copyFrom_66 : decode cX0_copyFrom 66 = .ok (.invokestatic 55, 3) := by decide +kernel
theorem dX0_copyFrom_69 : decode cX0_copyFrom 69 = .ok (.aload_n 1, 1) := by decide +kernel
theorem dX0_copyFrom_70 : decode cX0_copyFrom 70 = .ok (.getfield 21, 3) := by decide +kernel
theorem dX0_copyFrom_73 : decode cX0_copyFrom 73 = .ok (.iconst 0, 1) := by decide +kernel
theorem dX0_copyFrom_74 : decode cX0_copyFrom 74 = .ok (.aload_n 0, 1) := by decide +kernel
theorem dX0_copyFrom_75 : decode cX0_copyFrom 75 = .ok (.getfield 21, 3) := by decide +kernel
theorem dX0_copyFrom_78 : decode cX0_copyFrom 78 = .ok (.iconst 0, 1) := by decide +kernel
theorem dX0_copyFrom_79 : decode cX0_copyFrom 79 = .ok (.bipush 84, 2) := by decide +kernel
theorem dX0_copyFrom_81 : decode cX0_copyFrom 81 = .ok (.invokestatic 55, 3) := by decide +kernel
theorem dX0_copyFrom_84 : decode cX0_copyFrom 84 = .ok (.aload_n 1, 1) := by decide +kernel
theorem dX0_copyFrom_85 : decode cX0_copyFrom 85 = .ok (.getfield 24, 3) := by decide +kernel
theorem dX0_copyFrom_88 : decode cX0_copyFrom 88 = .ok (.iconst 0, 1) := by decide +kernel
theorem dX0_copyFrom_89 : decode cX0_copyFrom 89 = .ok (.aload_n 0, 1) := by decide +kernel
theorem dX0_copyFrom_9 : decode cX0_copyFrom 9 = .ok (.iconst 0, 1) := by decide +kernel
theorem dX0_copyFrom_90 : decode cX0_copyFrom 90 = .ok (.getfield 24, 3) := by decide +kernel
theorem dX0_copyFrom_93 : decode cX0_copyFrom 93 = .ok (.iconst 0, 1) := by decide +kernel
theorem dX0_copyFrom_94 : decode cX0_copyFrom 94 = .ok (.bipush 7, 2) := by decide +kernel
theorem dX0_copyFrom_96 : decode cX0_copyFrom 96 = .ok (.invokestatic 55, 3) := by decide +kernel
theorem dX0_copyFrom_99 : decode cX0_copyFrom 99 = .ok (.aload_n 0, 1) := by decide +kernel
theorem dX0_takeBack_0 : decode cX0_takeBack 0 = .ok (.aload_n 0, 1) := by decide +kernel
theorem dX0_takeBack_1 : decode cX0_takeBack 1 = .ok (.getfield 52, 3) := by decide +kernel
theorem dX0_takeBack_10 : decode cX0_takeBack 10 = .ok (.dup, 1) := by decide +kernel
theorem dX0_takeBack_11 : decode cX0_takeBack 11 = .ok (.getfield 52, 3) := by decide +kernel
theorem dX0_takeBack_14 : decode cX0_takeBack 14 = .ok (.iconst 1, 1) := by decide +kernel
theorem dX0_takeBack_15 : decode cX0_takeBack 15 = .ok (.isub, 1) := by decide +kernel
theorem dX0_takeBack_16 : decode cX0_takeBack 16 = .ok (.putfield 52, 3) := by decide +kernel
theorem dX0_takeBack_19 : decode cX0_takeBack 19 = .ok (.aload_n 0, 1) := by decide +kernel
theorem dX0_takeBack_20 : decode cX0_takeBack 20 = .ok (.getfield 30, 3) := by decide +kernel
theorem dX0_takeBack_23 : decode cX0_takeBack 23 = .ok (.aload_n 0, 1) := by decide +kernel
theorem dX0_takeBack_24 : decode cX0_takeBack 24 = .ok (.getfield 52, 3) := by decide +kernel
theorem dX0_takeBack_27 : decode cX0_takeBack 27 = .ok (.iaload, 1) := by decide +kernel
theorem dX0_takeBack_28 : decode cX0_takeBack 28 = .ok (.istore_n 1, 1) := by decide +kernel
theorem dX0_takeBack_29 : decode cX0_takeBack 29 = .ok (.aload_n 0, 1) := by decide +kernel
theorem dX0_takeBack_30 : decode cX0_takeBack 30 = .ok (.getfield 33, 3) := by decide +kernel
theorem dX0_takeBack_33 : decode cX0_takeBack 33 = .ok (.aload_n 0, 1) := by decide +kernel
theorem dX0_takeBack_34 : decode cX0_takeBack 34 = .ok (.getfield 52, 3) := by decide +kernel
theorem dX0_takeBack_37 : decode cX0_takeBack 37 = .ok (.iaload, 1) := by decide +kernel
theorem dX0_takeBack_38 : decode cX0_takeBack 38 = .ok (.istore_n 2, 1) := by decide +kernel
theorem dX0_takeBack_39 : decode cX0_takeBack 39 = .ok (.aload_n 0, 1) := by decide +kernel
theorem dX0_takeBack_4 : decode cX0_takeBack 4 = .ok (.iconst 1, 1) := by decide +kernel
theorem dX0_takeBack_40 : decode cX0_takeBack 40 = .ok (.getfield 24, 3) := by decide +kernel
theorem dX0_takeBack_43 : decode cX0_takeBack 43 = .ok (.iload_n 1, 1) := by decide +kernel
theorem dX0_takeBack_44 : decode cX0_takeBack 44 = .ok (.aload_n 0, 1) := by decide +kernel
theorem dX0_takeBack_45 : decode cX0_takeBack 45 = .ok (.getfield 39, 3) := by decide +kernel
theorem dX0_takeBack_48 : decode cX0_takeBack 48 = .ok (.aload_n 0, 1) := by decide +kernel
theorem dX0_takeBack_49 : decode cX0_takeBack 49 = .ok (.getfield 52, 3) := by decide +kernel
theorem dX0_takeBack_5 : decode cX0_takeBack 5 = .ok (.if_icmp .ge 4, 3) := by decide +kernel
theorem dX0_takeBack_52 : decode cX0_takeBack 52 = .ok (.iaload, 1) := by decide +kernel
theorem dX0_takeBack_53 : decode cX0_takeBack 53 = .ok (.iastore, 1) := by decide +kernel
theorem dX0_takeBack_54 : decode cX0_takeBack 54 = .ok (.iload_n 2, 1) := by decide +kernel
theorem dX0_takeBack_55 : decode cX0_takeBack 55 = .ok (.iconst (-1), 1) := by decide +kernel
theorem dX0_takeBack_56 : decode cX0_takeBack 56 = .ok (.if_icmp .ne 21, 3) := by decide +kernel
theorem dX0_takeBack_59 : decode cX0_takeBack 59 = .ok (.aload_n 0, 1) := by decide +kernel
theorem dX0_takeBack_60 : decode cX0_takeBack 60 = .ok (.getfield 18, 3) := by decide +kernel
theorem dX0_takeBack_63 : decode cX0_takeBack 63 = .ok (.iload_n 1, 1) := by decide +kernel
theorem dX0_takeBack_64 : decode cX0_takeBack 64 = .ok (.aload_n 0, 1) := by decide +kernel
theorem dX0_takeBack_65 : decode cX0_takeBack 65 = .ok (.getfield 36, 3) := by decide +kernel
theorem dX0_takeBack_68 : decode cX0_takeBack 68 = .ok (.aload_n 0, 1) := by decide +kernel
theorem dX0_takeBack_69 : decode cX0_takeBack 69 = .ok (.getfield 52, 3) := by decide +kernel
theorem dX0_takeBack_72 : decode cX0_takeBack 72 = .ok (.iaload, 1) := by decide +kernel
theorem dX0_takeBack_73 : decode cX0_takeBack 73 = .ok (.iastore, 1) := by decide +kernel
theorem dX0_takeBack_74 : decode cX0_takeBack 74 = .ok (.goto 23, 3) := by decide +kernel
theorem dX0_takeBack_77 : decode cX0_takeBack 77 = .ok (.aload_n 0, 1) := by decide +kernel
theorem dX0_takeBack_78 : decode cX0_takeBack 78 = .ok (.getfield 21, 3) := by decide +kernel
theorem dX0_takeBack_8 : decode cX0_takeBack 8 = .ok (.return_, 1) := by decide +kernel
theorem dX0_takeBack_81 : decode cX0_takeBack 81 = .ok (.iload_n 1, 1) := by decide +kernel
theorem dX0_takeBack_82 : decode cX0_takeBack 82 = .ok (.bipush 12, 2) := by decide +kernel
theorem dX0_takeBack_84 : decode cX0_takeBack 84 = .ok (.imul, 1) := by decide +kernel
theorem dX0_takeBack_85 : decode cX0_takeBack 85 = .ok (.iload_n 2, 1) := by decide +kernel
theorem dX0_takeBack_86 : decode cX0_takeBack 86 = .ok (.iadd, 1) := by decide +kernel
theorem dX0_takeBack_87 : decode cX0_takeBack 87 = .ok (.aload_n 0, 1) := by decide +kernel
theorem dX0_takeBack_88 : decode cX0_takeBack 88 = .ok (.getfield 36, 3) := by decide +kernel
theorem dX0_takeBack_9 : decode cX0_takeBack 9 = .ok (.aload_n 0, 1) := by decide +kernel
theorem dX0_takeBack_91 : decode cX0_takeBack 91 = .ok (.aload_n 0, 1) := by decide +kernel
theorem dX0_takeBack_92 : decode cX0_takeBack 92 = .ok (.getfield 52, 3) := by decide +kernel
theorem dX0_takeBack_95 : decode cX0_takeBack 95 = .ok (.iaload, 1) := by decide +kernel
theorem dX0_takeBack_96 : decode cX0_takeBack 96 = .ok (.iastore, 1) := by decide +kernel
theorem dX0_takeBack_97 : decode cX0_takeBack 97 = .ok (.return_, 1) := by decide +kernel
theorem zh_takeBack {l : Launch} {D : va_G} {cI cZ cB cJ cR : ClassId} {ks ad : List Nat} (hw : zworld ks ad zuq zNS (zPsi ks ad)) : zMet l D cI cZ cB cJ cR zKS ks ad (zPsi ks ad) yX0_takeBack (.code yX0_takeBack cX0_takeBack 3 none) 2 ([(2, 0, 0)], none, [], [], [], [(0, 9)], []) := by
  refine zmet_gen 2 (by decide) (Nat.le_of_ble_eq_true rfl) rfl ?_
  intro p e R s m args below meth c Q A ws As ls X hG hok hpre hR hl
  have hx := X.1.1
  have hb := X.1.2.1
  obtain ⟨_, _, rfl, ⟨a, i, rfl, ki, di⟩, hok1⟩ := zst1 hok
  obtain rfl := zst0 hok1
  have hl : lv_has ls 3 [(0, .ref a)] := hl
  obtain ⟨r0, n1, n2, n3, r4, r5, r6, r7, r8, n9, r10, r11, r12, r13, hcity, l2, l9, ⟨j0, k0, d0⟩, ⟨j4, k4, d4⟩, ⟨j5, k5, d5⟩, ⟨j6, k6, d6⟩, ⟨j7, k7, d7⟩, ⟨j8, k8, d8⟩, ⟨j10, k10, d10⟩, ⟨k11, d11⟩, ⟨k12, d12⟩, ⟨j13, k13, d13⟩⟩ := zcityP hG.2.2.2.1 hG.2.2.2.2.1 ki di
  obtain ⟨f10, g10, m10⟩ := zarrI hG.2.2.2.1 k10 d10 (rfl : zKS[13]? = _)
  obtain ⟨f11, g11, m11⟩ := zarrI hG.2.2.2.1 k11 d11 (rfl : zKS[14]? = _)
  obtain ⟨f12, g12, m12⟩ := zarrI hG.2.2.2.1 k12 d12 (rfl : zKS[15]? = _)
  obtain ⟨f13, g13, m13⟩ := zarrI hG.2.2.2.1 k13 d13 (rfl : zKS[16]? = _)
  obtain ⟨f7, g7, m7⟩ := zarrI hG.2.2.2.1 k7 d7 (rfl : zKS[11]? = _)
  obtain ⟨f5, g5, m5⟩ := zarrI hG.2.2.2.1 k5 d5 (rfl : zKS[9]? = _)
  obtain ⟨f6, g6, m6⟩ := zarrI hG.2.2.2.1 k6 d6 (rfl : zKS[10]? = _)
  have hrl := zPsi_rel hG.2.2.2.2.1 ki g11 g12
  refine lv_aload_n hx hb dX0_takeBack_0 rfl (lv_at hl 0 rfl) ?_
  refine zg_RX0 X (52, 0, 9) (by decide) _ zks_0 (by decide) _ _ _ _ _ _ _ i _ (.int n9) hG.1 hcity rfl dX0_takeBack_1 ?_
  refine lv_iconst (v := 1) hx hb dX0_takeBack_4 (by decide) ?_
  refine lv_icmp_ge (tgt := 9) hx hb dX0_takeBack_5 (by decide) (fun hge => ?_) (fun _ => ?_)
  case refine_2 =>
    exact hR 8 _ _ _ _ [] hG ⟨trivial, fun _ h => (by cases h), fun _ h => (by cases h)⟩ dX0_takeBack_8
  simp only [ge_iff_le, Int32.le_iff_toInt_le, Int32.reduceToInt] at hge
  refine lv_aload_n hx hb dX0_takeBack_9 rfl (lv_at hl 0 rfl) ?_
  refine lv_dup hx hb dX0_takeBack_10 rfl ?_
  refine zg_RX0 X (52, 0, 9) (by decide) _ zks_0 (by decide) _ _ _ _ _ _ _ i _ (.int n9) hG.1 hcity rfl dX0_takeBack_11 ?_
  refine lv_iconst (v := 1) hx hb dX0_takeBack_14 (by decide) ?_
  refine lv_isub hx hb dX0_takeBack_15 ?_
  refine lv_topi (fun y1 hy1 => ?_)
  have ey : y1.toInt = n9.toInt - 1 := by rw [hy1, subI _ _ (by simp only [Int32.reduceToInt]; omega)]; rfl
  have ec : (y1.toNatClampNeg : Int) = y1.toInt := tcn (by omega)
  have hvv : zok ks ad (0, 0, 40) (.int y1) := ⟨_, rfl, show (0 : Int) ≤ y1.toInt by omega, show y1.toInt ≤ 40 by omega⟩
  refine zp_RX0 X (52, 0, 9) (by decide) _ (0, 0, 40) zks_0 rfl _ _ _ _ _ _ _ i _ _ hG.1 hG.2.1 hG.2.2.1 hcity rfl hvv dX0_takeBack_16 (fun H locs a1 a2 a3 => ?_)
  have hG := hG.putf hw ki (by decide) zks_0 rfl hcity rfl hvv (List.mem_of_getElem? (i := 0) rfl) a1 a2 a3
  have g10 := zhk1 hG (znk ki k10 (by decide)) g10
  have g11 := zhk1 hG (znk ki k11 (by decide)) g11
  have g12 := zhk1 hG (znk ki k12 (by decide)) g12
  have g13 := zhk1 hG (znk ki k13 (by decide)) g13
  have g7 := zhk1 hG (znk ki k7 (by decide)) g7
  have g5 := zhk1 hG (znk ki k5 (by decide)) g5
  have g6 := zhk1 hG (znk ki k6 (by decide)) g6
  have hcity := zhkz hG hcity
  refine lv_aload_n hx hb dX0_takeBack_19 rfl (lv_at hl 0 rfl) ?_
  refine zg_RX0 X (30, 0, 10) (by decide) _ zks_0 (by decide) _ _ _ _ _ _ _ i _ (.ref r10) hG.1 hcity rfl dX0_takeBack_20 ?_
  refine lv_aload_n hx hb dX0_takeBack_23 rfl (lv_at hl 0 rfl) ?_
  refine zg_RX0 X (52, 0, 9) (by decide) _ zks_0 (by decide) _ _ _ _ _ _ _ i _ (.int y1) hG.1 hcity rfl dX0_takeBack_24 ?_
  refine va_iald hx hb X.2.1.1 hG.1 j10 0 g10 rfl (vp_in_iff.mpr ⟨by omega, by omega⟩) dX0_takeBack_27 ?_
  refine lv_topi (fun y2 hy2 => ?_)
  have lp : 0 ≤ y2.toInt ∧ y2.toInt ≤ 6 := by rw [hy2]; exact m10 _ (by omega)
  refine lv_istore_n hx hb dX0_takeBack_28 rfl hl (by decide) rfl (fun ls hl => ?_)
  have hl : lv_has ls 3 [(1, .int y2), (0, .ref a)] := hl
  refine lv_aload_n hx hb dX0_takeBack_29 rfl (lv_at hl 1 rfl) ?_
  refine zg_RX0 X (33, 0, 11) (by decide) _ zks_0 (by decide) _ _ _ _ _ _ _ i _ (.ref r11) hG.1 hcity rfl dX0_takeBack_30 ?_
  refine lv_aload_n hx hb dX0_takeBack_33 rfl (lv_at hl 1 rfl) ?_
  refine zg_RX0 X (52, 0, 9) (by decide) _ zks_0 (by decide) _ _ _ _ _ _ _ i _ (.int y1) hG.1 hcity rfl dX0_takeBack_34 ?_
  refine va_iald hx hb X.2.1.1 hG.1 (i + 8) 0 g11 rfl (vp_in_iff.mpr ⟨by omega, by omega⟩) dX0_takeBack_37 ?_
  refine lv_topi (fun y3 hy3 => ?_)
  have lq : -1 ≤ y3.toInt ∧ y3.toInt ≤ 11 := by rw [hy3]; exact m11 _ (by omega)
  refine lv_istore_n hx hb dX0_takeBack_38 rfl hl (by decide) rfl (fun ls hl => ?_)
  have hl : lv_has ls 3 [(2, .int y3), (1, .int y2), (0, .ref a)] := hl
  refine lv_aload_n hx hb dX0_takeBack_39 rfl (lv_at hl 2 rfl) ?_
  refine zg_RX0 X (24, 0, 7) (by decide) _ zks_0 (by decide) _ _ _ _ _ _ _ i _ (.ref r7) hG.1 hcity rfl dX0_takeBack_40 ?_
  refine lv_iload_n hx hb dX0_takeBack_43 rfl (lv_at hl 1 rfl) ?_
  refine lv_aload_n hx hb dX0_takeBack_44 rfl (lv_at hl 2 rfl) ?_
  refine zg_RX0 X (39, 0, 13) (by decide) _ zks_0 (by decide) _ _ _ _ _ _ _ i _ (.ref r13) hG.1 hcity rfl dX0_takeBack_45 ?_
  refine lv_aload_n hx hb dX0_takeBack_48 rfl (lv_at hl 2 rfl) ?_
  refine zg_RX0 X (52, 0, 9) (by decide) _ zks_0 (by decide) _ _ _ _ _ _ _ i _ (.int y1) hG.1 hcity rfl dX0_takeBack_49 ?_
  refine va_iald hx hb X.2.1.1 hG.1 j13 0 g13 rfl (vp_in_iff.mpr ⟨by omega, by omega⟩) dX0_takeBack_52 ?_
  refine va_iast hx hb X.2.1.1 hG.1 hG.2.1 hG.2.2.1 j7 0 g7 rfl (vp_in_iff.mpr ⟨by omega, by omega⟩) dX0_takeBack_53 (fun H locs a1 a2 a3 => ?_)
  have hG := hG.sti hw k7 (by decide) g7 rfl (by decide) m7 (bT _) a1 a2 a3
  clear a1 a2 a3
  have hcity := zhk1 hG (znk k7 ki (by decide)) hcity
  have g10 := zhk1 hG (znk k7 k10 (by decide)) g10
  have g11 := zhk1 hG (znk k7 k11 (by decide)) g11
  have g12 := zhk1 hG (znk k7 k12 (by decide)) g12
  have g13 := zhk1 hG (znk k7 k13 (by decide)) g13
  have g5 := zhk1 hG (znk k7 k5 (by decide)) g5
  have g6 := zhk1 hG (znk k7 k6 (by decide)) g6
  have hre := hrl y1.toNatClampNeg (by omega)
  rw [← hy3] at hre
  have lb : -1 ≤ (f12 y1.toNatClampNeg).toInt ∧ (f12 y1.toNatClampNeg).toInt ≤ 9 := m12 _ (by omega)
  refine lv_iload_n hx hb dX0_takeBack_54 rfl (lv_at hl 0 rfl) ?_
  refine lv_iconst (v := (-1)) hx hb dX0_takeBack_55 (by decide) ?_
  refine lv_icmp_ne (tgt := 77) hx hb dX0_takeBack_56 (by decide) (fun hne => ?_) (fun heq => ?_)
  · have hne : y3.toInt ≠ -1 := fun h9 => hne (Int32.toInt_inj.mp (h9.trans (by decide)))
    have hre := hre.2 hne
    refine lv_aload_n hx hb dX0_takeBack_77 rfl (lv_at hl 2 rfl) ?_
    refine zg_RX0 X (21, 0, 6) (by decide) _ zks_0 (by decide) _ _ _ _ _ _ _ i _ (.ref r6) hG.1 hcity rfl dX0_takeBack_78 ?_
    refine lv_iload_n hx hb dX0_takeBack_81 rfl (lv_at hl 1 rfl) ?_
    refine lv_bipush (v := 12) hx hb dX0_takeBack_82 (by decide) ?_
    refine lv_imul hx hb dX0_takeBack_84 ?_
    refine lv_topi (fun y4 hy4 => ?_)
    have e1 : y4.toInt = y2.toInt * 12 := by rw [hy4, mulI _ _ (by simp only [Int32.reduceToInt]; omega)]; rfl
    refine lv_iload_n hx hb dX0_takeBack_85 rfl (lv_at hl 0 rfl) ?_
    refine lv_iadd hx hb dX0_takeBack_86 ?_
    refine lv_topi (fun y5 hy5 => ?_)
    have e2 : y5.toInt = y2.toInt * 12 + y3.toInt := by rw [hy5, addI _ _ (by omega), e1]
    refine lv_aload_n hx hb dX0_takeBack_87 rfl (lv_at hl 2 rfl) ?_
    refine zg_RX0 X (36, 0, 12) (by decide) _ zks_0 (by decide) _ _ _ _ _ _ _ i _ (.ref r12) hG.1 hcity rfl dX0_takeBack_88 ?_
    refine lv_aload_n hx hb dX0_takeBack_91 rfl (lv_at hl 2 rfl) ?_
    refine zg_RX0 X (52, 0, 9) (by decide) _ zks_0 (by decide) _ _ _ _ _ _ _ i _ (.int y1) hG.1 hcity rfl dX0_takeBack_92 ?_
    refine va_iald hx hb X.2.1.1 hG.1 (i + 9) 0 g12 rfl (vp_in_iff.mpr ⟨by omega, by omega⟩) dX0_takeBack_95 ?_
    refine va_iast hx hb X.2.1.1 hG.1 hG.2.1 hG.2.2.1 j6 0 g6 rfl (vp_in_iff.mpr ⟨by omega, by omega⟩) dX0_takeBack_96 (fun H locs a1 a2 a3 => ?_)
    have hG := hG.sti hw k6 (by decide) g6 rfl (by decide) m6 (show (0 : Int) ≤ _ ∧ _ ≤ (9 : Int) from ⟨hre, lb.2⟩) a1 a2 a3
    clear a1 a2 a3
    have hcity := zhk1 hG (znk k6 ki (by decide)) hcity
    have g10 := zhk1 hG (znk k6 k10 (by decide)) g10
    have g11 := zhk1 hG (znk k6 k11 (by decide)) g11
    have g12 := zhk1 hG (znk k6 k12 (by decide)) g12
    have g13 := zhk1 hG (znk k6 k13 (by decide)) g13
    have g5 := zhk1 hG (znk k6 k5 (by decide)) g5
    exact hR 97 _ _ _ _ [] hG ⟨trivial, fun _ h => (by cases h), fun _ h => (by cases h)⟩ dX0_takeBack_97
  · have heq : y3.toInt = -1 := by rw [heq]; rfl
    have hre := hre.1 heq
    refine lv_aload_n hx hb dX0_takeBack_59 rfl (lv_at hl 2 rfl) ?_
    refine zg_RX0 X (18, 0, 5) (by decide) _ zks_0 (by decide) _ _ _ _ _ _ _ i _ (.ref r5) hG.1 hcity rfl dX0_takeBack_60 ?_
    refine lv_iload_n hx hb dX0_takeBack_63 rfl (lv_at hl 1 rfl) ?_
    refine lv_aload_n hx hb dX0_takeBack_64 rfl (lv_at hl 2 rfl) ?_
    refine zg_RX0 X (36, 0, 12) (by decide) _ zks_0 (by decide) _ _ _ _ _ _ _ i _ (.ref r12) hG.1 hcity rfl dX0_takeBack_65 ?_
    refine lv_aload_n hx hb dX0_takeBack_68 rfl (lv_at hl 2 rfl) ?_
    refine zg_RX0 X (52, 0, 9) (by decide) _ zks_0 (by decide) _ _ _ _ _ _ _ i _ (.int y1) hG.1 hcity rfl dX0_takeBack_69 ?_
    refine va_iald hx hb X.2.1.1 hG.1 (i + 9) 0 g12 rfl (vp_in_iff.mpr ⟨by omega, by omega⟩) dX0_takeBack_72 ?_
    refine va_iast hx hb X.2.1.1 hG.1 hG.2.1 hG.2.2.1 j5 0 g5 rfl (vp_in_iff.mpr ⟨by omega, by omega⟩) dX0_takeBack_73 (fun H locs a1 a2 a3 => ?_)
    have hG := hG.sti hw k5 (by decide) g5 rfl (by decide) m5 (show (-1 : Int) ≤ _ ∧ _ ≤ (6 : Int) from ⟨lb.1, hre⟩) a1 a2 a3
    clear a1 a2 a3
    have hcity := zhk1 hG (znk k5 ki (by decide)) hcity
    have g10 := zhk1 hG (znk k5 k10 (by decide)) g10
    have g11 := zhk1 hG (znk k5 k11 (by decide)) g11
    have g12 := zhk1 hG (znk k5 k12 (by decide)) g12
    have g13 := zhk1 hG (znk k5 k13 (by decide)) g13
    have g6 := zhk1 hG (znk k5 k6 (by decide)) g6
    refine lv_goto (tgt := 97) hx hb dX0_takeBack_74 (by decide) ?_
    exact hR 97 _ _ _ _ [] hG ⟨trivial, fun _ h => (by cases h), fun _ h => (by cases h)⟩ dX0_takeBack_97
theorem zh_copyFrom {l : Launch} {D : va_G} {cI cZ cB cJ cR : ClassId} {ks ad : List Nat} (hw : zworld ks ad zuq zNS (zPsi ks ad)) : zMet l D cI cZ cB cJ cR zKS ks ad (zPsi ks ad) yX0_copyFrom (.code yX0_copyFrom cX0_copyFrom 2 none) 2 ([(2, 0, 0), (2, 0, 0)], none, [], [], [], [(0, 1), (0, 2), (0, 3), (0, 9)], []) := by
  refine zmet_gen 2 (by decide) (Nat.le_of_ble_eq_true rfl) rfl ?_
  intro p e R s m args below meth c Q A ws As ls X hG hok hpre hR hl
  have hx := X.1.1
  have hb := X.1.2.1
  obtain ⟨_, _, rfl, ⟨a, i, rfl, ki, di⟩, hok1⟩ := zst1 hok
  obtain ⟨_, _, rfl, ⟨b, i2, rfl, ki2, di2⟩, hok2⟩ := zst1 hok1
  obtain rfl := zst0 hok2
  have hl : lv_has ls 2 [(0, .ref a), (1, .ref b)] := hl
  have hPq : ∀ k1 : Nat, zNS.contains k1 = false → ∀ (ws : va_W) (i k a : Nat) (e e' : va_E), ks[i]? = some k → k = k1 → zsim k e e' → ws[i]? = some (a, e) → zPsi ks ad ws → zPsi ks ad (ws.set i (a, e')) := fun k1 hk ws i k a e e' h1 h2 h3 => hw.2.2.2 ws i k a e e' h1 (by rw [h2]; exact hk) h3
  obtain ⟨r0, n1, n2, n3, r4, r5, r6, r7, r8, n9, r10, r11, r12, r13, hcity, l2, l9, ⟨j0, k0, d0⟩, ⟨j4, k4, d4⟩, ⟨j5, k5, d5⟩, ⟨j6, k6, d6⟩, ⟨j7, k7, d7⟩, ⟨j8, k8, d8⟩, ⟨j10, k10, d10⟩, ⟨k11, d11⟩, ⟨k12, d12⟩, ⟨j13, k13, d13⟩⟩ := zcityP hG.2.2.2.1 hG.2.2.2.2.1 ki di
  obtain ⟨s0, m1, m2, m3, s4, s5, s6, s7, s8, m9, s10, s11, s12, s13, hcity2, o2, o9, ⟨i0, t0, u0⟩, ⟨i4, t4, u4⟩, ⟨i5, t5, u5⟩, ⟨i6, t6, u6⟩, ⟨i7, t7, u7⟩, ⟨i8, t8, u8⟩, ⟨i10, t10, u10⟩, ⟨t11, u11⟩, ⟨t12, u12⟩, ⟨i13, t13, u13⟩⟩ := zcityP hG.2.2.2.1 hG.2.2.2.2.1 ki2 di2
  refine lv_aload_n hx hb dX0_copyFrom_0 rfl (lv_at hl 1 rfl) ?_
  refine zg_RX0 X (9, 0, 0) (by decide) _ zks_0 (by decide) _ _ _ _ _ _ _ i2 _ (.ref s0) hG.1 hcity2 rfl dX0_copyFrom_1 ?_
  refine lv_iconst (v := 0) hx hb dX0_copyFrom_4 (by decide) ?_
  refine lv_aload_n hx hb dX0_copyFrom_5 rfl (lv_at hl 0 rfl) ?_
  refine zg_RX0 X (9, 0, 0) (by decide) _ zks_0 (by decide) _ _ _ _ _ _ _ i _ (.ref r0) hG.1 hcity rfl dX0_copyFrom_6 ?_
  refine lv_iconst (v := 0) hx hb dX0_copyFrom_9 (by decide) ?_
  refine lv_bipush (v := 7) hx hb dX0_copyFrom_10 (by decide) ?_
  refine zq_copyF (k1 := 7) (N := 7) (hPq 7 (by decide)) X (by decide) lm_60_5 lm_31_13 lm_31_14 lm_31_15 rfl (by decide) _ _ [] _ _ _ [.ref s0, .int 0, .ref r0, .int 0, .int 7] hG.1 hG.2.1 hG.2.2.1 hG.2.2.2.1 hG.2.2.2.2.1 ⟨⟨_, _, rfl, t0, u0⟩, ⟨_, rfl, by decide⟩, ⟨_, _, rfl, k0, d0⟩, ⟨_, rfl, by decide⟩, ⟨_, rfl, by decide⟩, trivial⟩ (by decide) hl.1 (fun _ h => by cases h) dX0_copyFrom_12 (fun H locs w1 r b1 b2 b3 b4 b5 b6 b7 => ?_)
  obtain rfl := zst0 b7.1
  have hG : zHp D vwCl A s.heap (tyA cI cZ cB cJ cR) zKS ks ad RX0 (zPsi ks ad) [(0, 1), (0, 2), (0, 3), (0, 9)] ws w1 H locs := ⟨b1, b2, b3, b4, b5, fun k f hf => (b6 k f (fun h9 => by cases h9)).trans (hG.2.2.2.2.2 k f hf)⟩
  clear b1 b2 b3 b4 b5 b6 b7 hcity hcity2 k0 d0 k4 d4 k5 d5 k6 d6 k7 d7 k8 d8 k10 d10 k11 d11 k12 d12 k13 d13 t0 u0 t4 u4 t5 u5 t6 u6 t7 u7 t8 u8 t10 u10 t11 u11 t12 u12 t13 u13 l2 l9 o2 o9
  dsimp only [List.nil_append]
  obtain ⟨r0, n1, n2, n3, r4, r5, r6, r7, r8, n9, r10, r11, r12, r13, hcity, l2, l9, ⟨j0, k0, d0⟩, ⟨j4, k4, d4⟩, ⟨j5, k5, d5⟩, ⟨j6, k6, d6⟩, ⟨j7, k7, d7⟩, ⟨j8, k8, d8⟩, ⟨j10, k10, d10⟩, ⟨k11, d11⟩, ⟨k12, d12⟩, ⟨j13, k13, d13⟩⟩ := zcityP hG.2.2.2.1 hG.2.2.2.2.1 ki di
  obtain ⟨s0, m1, m2, m3, s4, s5, s6, s7, s8, m9, s10, s11, s12, s13, hcity2, o2, o9, ⟨i0, t0, u0⟩, ⟨i4, t4, u4⟩, ⟨i5, t5, u5⟩, ⟨i6, t6, u6⟩, ⟨i7, t7, u7⟩, ⟨i8, t8, u8⟩, ⟨i10, t10, u10⟩, ⟨t11, u11⟩, ⟨t12, u12⟩, ⟨i13, t13, u13⟩⟩ := zcityP hG.2.2.2.1 hG.2.2.2.2.1 ki2 di2
  refine lv_aload_n hx hb dX0_copyFrom_15 rfl (lv_at hl 0 rfl) ?_
  refine lv_aload_n hx hb dX0_copyFrom_16 rfl (lv_at hl 1 rfl) ?_
  refine zg_RX0 X (42, 0, 1) (by decide) _ zks_0 (by decide) _ _ _ _ _ _ _ i2 _ (.int m1) hG.1 hcity2 rfl dX0_copyFrom_17 ?_
  have hvv : zok ks ad (0, (-2147483648), 2147483647) (.int m1) := ⟨_, rfl, bT _⟩
  refine zp_RX0 X (42, 0, 1) (by decide) _ (0, (-2147483648), 2147483647) zks_0 rfl _ _ _ _ _ _ _ i _ _ hG.1 hG.2.1 hG.2.2.1 hcity rfl hvv dX0_copyFrom_20 (fun H locs a1 a2 a3 => ?_)
  have hG := hG.putf hw ki (by decide) zks_0 rfl hcity rfl hvv (List.mem_of_getElem? (i := 0) rfl) a1 a2 a3
  clear a1 a2 a3 hcity hcity2 k0 d0 k4 d4 k5 d5 k6 d6 k7 d7 k8 d8 k10 d10 k11 d11 k12 d12 k13 d13 t0 u0 t4 u4 t5 u5 t6 u6 t7 u7 t8 u8 t10 u10 t11 u11 t12 u12 t13 u13 l2 l9 o2 o9 hvv
  obtain ⟨r0, n1, n2, n3, r4, r5, r6, r7, r8, n9, r10, r11, r12, r13, hcity, l2, l9, ⟨j0, k0, d0⟩, ⟨j4, k4, d4⟩, ⟨j5, k5, d5⟩, ⟨j6, k6, d6⟩, ⟨j7, k7, d7⟩, ⟨j8, k8, d8⟩, ⟨j10, k10, d10⟩, ⟨k11, d11⟩, ⟨k12, d12⟩, ⟨j13, k13, d13⟩⟩ := zcityP hG.2.2.2.1 hG.2.2.2.2.1 ki di
  obtain ⟨s0, m1, m2, m3, s4, s5, s6, s7, s8, m9, s10, s11, s12, s13, hcity2, o2, o9, ⟨i0, t0, u0⟩, ⟨i4, t4, u4⟩, ⟨i5, t5, u5⟩, ⟨i6, t6, u6⟩, ⟨i7, t7, u7⟩, ⟨i8, t8, u8⟩, ⟨i10, t10, u10⟩, ⟨t11, u11⟩, ⟨t12, u12⟩, ⟨i13, t13, u13⟩⟩ := zcityP hG.2.2.2.1 hG.2.2.2.2.1 ki2 di2
  refine lv_aload_n hx hb dX0_copyFrom_23 rfl (lv_at hl 0 rfl) ?_
  refine lv_aload_n hx hb dX0_copyFrom_24 rfl (lv_at hl 1 rfl) ?_
  refine zg_RX0 X (46, 0, 2) (by decide) _ zks_0 (by decide) _ _ _ _ _ _ _ i2 _ (.int m2) hG.1 hcity2 rfl dX0_copyFrom_25 ?_
  have hvv : zok ks ad (0, 0, 7) (.int m2) := ⟨_, rfl, o2⟩
  refine zp_RX0 X (46, 0, 2) (by decide) _ (0, 0, 7) zks_0 rfl _ _ _ _ _ _ _ i _ _ hG.1 hG.2.1 hG.2.2.1 hcity rfl hvv dX0_copyFrom_28 (fun H locs a1 a2 a3 => ?_)
  have hG := hG.putf hw ki (by decide) zks_0 rfl hcity rfl hvv (List.mem_of_getElem? (i := 1) rfl) a1 a2 a3
  clear a1 a2 a3 hcity hcity2 k0 d0 k4 d4 k5 d5 k6 d6 k7 d7 k8 d8 k10 d10 k11 d11 k12 d12 k13 d13 t0 u0 t4 u4 t5 u5 t6 u6 t7 u7 t8 u8 t10 u10 t11 u11 t12 u12 t13 u13 l2 l9 o2 o9 hvv
  obtain ⟨r0, n1, n2, n3, r4, r5, r6, r7, r8, n9, r10, r11, r12, r13, hcity, l2, l9, ⟨j0, k0, d0⟩, ⟨j4, k4, d4⟩, ⟨j5, k5, d5⟩, ⟨j6, k6, d6⟩, ⟨j7, k7, d7⟩, ⟨j8, k8, d8⟩, ⟨j10, k10, d10⟩, ⟨k11, d11⟩, ⟨k12, d12⟩, ⟨j13, k13, d13⟩⟩ := zcityP hG.2.2.2.1 hG.2.2.2.2.1 ki di
  obtain ⟨s0, m1, m2, m3, s4, s5, s6, s7, s8, m9, s10, s11, s12, s13, hcity2, o2, o9, ⟨i0, t0, u0⟩, ⟨i4, t4, u4⟩, ⟨i5, t5, u5⟩, ⟨i6, t6, u6⟩, ⟨i7, t7, u7⟩, ⟨i8, t8, u8⟩, ⟨i10, t10, u10⟩, ⟨t11, u11⟩, ⟨t12, u12⟩, ⟨i13, t13, u13⟩⟩ := zcityP hG.2.2.2.1 hG.2.2.2.2.1 ki2 di2
  refine lv_aload_n hx hb dX0_copyFrom_31 rfl (lv_at hl 0 rfl) ?_
  refine lv_aload_n hx hb dX0_copyFrom_32 rfl (lv_at hl 1 rfl) ?_
  refine zg_RX0 X (49, 0, 3) (by decide) _ zks_0 (by decide) _ _ _ _ _ _ _ i2 _ (.int m3) hG.1 hcity2 rfl dX0_copyFrom_33 ?_
  have hvv : zok ks ad (0, (-2147483648), 2147483647) (.int m3) := ⟨_, rfl, bT _⟩
  refine zp_RX0 X (49, 0, 3) (by decide) _ (0, (-2147483648), 2147483647) zks_0 rfl _ _ _ _ _ _ _ i _ _ hG.1 hG.2.1 hG.2.2.1 hcity rfl hvv dX0_copyFrom_36 (fun H locs a1 a2 a3 => ?_)
  have hG := hG.putf hw ki (by decide) zks_0 rfl hcity rfl hvv (List.mem_of_getElem? (i := 2) rfl) a1 a2 a3
  clear a1 a2 a3 hcity hcity2 k0 d0 k4 d4 k5 d5 k6 d6 k7 d7 k8 d8 k10 d10 k11 d11 k12 d12 k13 d13 t0 u0 t4 u4 t5 u5 t6 u6 t7 u7 t8 u8 t10 u10 t11 u11 t12 u12 t13 u13 l2 l9 o2 o9 hvv
  obtain ⟨r0, n1, n2, n3, r4, r5, r6, r7, r8, n9, r10, r11, r12, r13, hcity, l2, l9, ⟨j0, k0, d0⟩, ⟨j4, k4, d4⟩, ⟨j5, k5, d5⟩, ⟨j6, k6, d6⟩, ⟨j7, k7, d7⟩, ⟨j8, k8, d8⟩, ⟨j10, k10, d10⟩, ⟨k11, d11⟩, ⟨k12, d12⟩, ⟨j13, k13, d13⟩⟩ := zcityP hG.2.2.2.1 hG.2.2.2.2.1 ki di
  obtain ⟨s0, m1, m2, m3, s4, s5, s6, s7, s8, m9, s10, s11, s12, s13, hcity2, o2, o9, ⟨i0, t0, u0⟩, ⟨i4, t4, u4⟩, ⟨i5, t5, u5⟩, ⟨i6, t6, u6⟩, ⟨i7, t7, u7⟩, ⟨i8, t8, u8⟩, ⟨i10, t10, u10⟩, ⟨t11, u11⟩, ⟨t12, u12⟩, ⟨i13, t13, u13⟩⟩ := zcityP hG.2.2.2.1 hG.2.2.2.2.1 ki2 di2
  refine lv_aload_n hx hb dX0_copyFrom_39 rfl (lv_at hl 1 rfl) ?_
  refine zg_RX0 X (15, 0, 4) (by decide) _ zks_0 (by decide) _ _ _ _ _ _ _ i2 _ (.ref s4) hG.1 hcity2 rfl dX0_copyFrom_40 ?_
  refine lv_iconst (v := 0) hx hb dX0_copyFrom_43 (by decide) ?_
  refine lv_aload_n hx hb dX0_copyFrom_44 rfl (lv_at hl 0 rfl) ?_
  refine zg_RX0 X (15, 0, 4) (by decide) _ zks_0 (by decide) _ _ _ _ _ _ _ i _ (.ref r4) hG.1 hcity rfl dX0_copyFrom_45 ?_
  refine lv_iconst (v := 0) hx hb dX0_copyFrom_48 (by decide) ?_
  refine lv_bipush (v := 7) hx hb dX0_copyFrom_49 (by decide) ?_
  refine zq_copy (k0 := 8) (k1 := 8) (s1 := 0) (s2 := 0) (d1 := 0) (d2 := 0) (m1 := 7) (m2 := 7) (hPq 8 (by decide)) X (by decide) lm_60_5 lm_31_13 lm_31_14 lm_31_15 rfl rfl (by decide) (by decide) (by decide) _ _ [] _ _ _ [.ref s4, .int 0, .ref r4, .int 0, .int 7] hG.1 hG.2.1 hG.2.2.1 hG.2.2.2.1 hG.2.2.2.2.1 ⟨⟨_, _, rfl, t4, u4⟩, ⟨_, rfl, by decide⟩, ⟨_, _, rfl, k4, d4⟩, ⟨_, rfl, by decide⟩, ⟨_, rfl, by decide⟩, trivial⟩ (by decide) hl.1 (fun _ h => by cases h) dX0_copyFrom_51 (fun H locs w1 r b1 b2 b3 b4 b5 b6 b7 => ?_)
  obtain rfl := zst0 b7.1
  have hG : zHp D vwCl A s.heap (tyA cI cZ cB cJ cR) zKS ks ad RX0 (zPsi ks ad) [(0, 1), (0, 2), (0, 3), (0, 9)] ws w1 H locs := ⟨b1, b2, b3, b4, b5, fun k f hf => (b6 k f (fun h9 => by cases h9)).trans (hG.2.2.2.2.2 k f hf)⟩
  clear b1 b2 b3 b4 b5 b6 b7 hcity hcity2 k0 d0 k4 d4 k5 d5 k6 d6 k7 d7 k8 d8 k10 d10 k11 d11 k12 d12 k13 d13 t0 u0 t4 u4 t5 u5 t6 u6 t7 u7 t8 u8 t10 u10 t11 u11 t12 u12 t13 u13 l2 l9 o2 o9
  dsimp only [List.nil_append]
  obtain ⟨r0, n1, n2, n3, r4, r5, r6, r7, r8, n9, r10, r11, r12, r13, hcity, l2, l9, ⟨j0, k0, d0⟩, ⟨j4, k4, d4⟩, ⟨j5, k5, d5⟩, ⟨j6, k6, d6⟩, ⟨j7, k7, d7⟩, ⟨j8, k8, d8⟩, ⟨j10, k10, d10⟩, ⟨k11, d11⟩, ⟨k12, d12⟩, ⟨j13, k13, d13⟩⟩ := zcityP hG.2.2.2.1 hG.2.2.2.2.1 ki di
  obtain ⟨s0, m1, m2, m3, s4, s5, s6, s7, s8, m9, s10, s11, s12, s13, hcity2, o2, o9, ⟨i0, t0, u0⟩, ⟨i4, t4, u4⟩, ⟨i5, t5, u5⟩, ⟨i6, t6, u6⟩, ⟨i7, t7, u7⟩, ⟨i8, t8, u8⟩, ⟨i10, t10, u10⟩, ⟨t11, u11⟩, ⟨t12, u12⟩, ⟨i13, t13, u13⟩⟩ := zcityP hG.2.2.2.1 hG.2.2.2.2.1 ki2 di2
  refine lv_aload_n hx hb dX0_copyFrom_54 rfl (lv_at hl 1 rfl) ?_
  refine zg_RX0 X (18, 0, 5) (by decide) _ zks_0 (by decide) _ _ _ _ _ _ _ i2 _ (.ref s5) hG.1 hcity2 rfl dX0_copyFrom_55 ?_
  refine lv_iconst (v := 0) hx hb dX0_copyFrom_58 (by decide) ?_
  refine lv_aload_n hx hb dX0_copyFrom_59 rfl (lv_at hl 0 rfl) ?_
  refine zg_RX0 X (18, 0, 5) (by decide) _ zks_0 (by decide) _ _ _ _ _ _ _ i _ (.ref r5) hG.1 hcity rfl dX0_copyFrom_60 ?_
  refine lv_iconst (v := 0) hx hb dX0_copyFrom_63 (by decide) ?_
  refine lv_bipush (v := 7) hx hb dX0_copyFrom_64 (by decide) ?_
  refine zq_copy (k0 := 9) (k1 := 9) (s1 := 0) (s2 := 0) (d1 := 0) (d2 := 0) (m1 := 7) (m2 := 7) (hPq 9 (by decide)) X (by decide) lm_60_5 lm_31_13 lm_31_14 lm_31_15 rfl rfl (by decide) (by decide) (by decide) _ _ [] _ _ _ [.ref s5, .int 0, .ref r5, .int 0, .int 7] hG.1 hG.2.1 hG.2.2.1 hG.2.2.2.1 hG.2.2.2.2.1 ⟨⟨_, _, rfl, t5, u5⟩, ⟨_, rfl, by decide⟩, ⟨_, _, rfl, k5, d5⟩, ⟨_, rfl, by decide⟩, ⟨_, rfl, by decide⟩, trivial⟩ (by decide) hl.1 (fun _ h => by cases h) dX0_copyFrom_66 (fun H locs w1 r b1 b2 b3 b4 b5 b6 b7 => ?_)
  obtain rfl := zst0 b7.1
  have hG : zHp D vwCl A s.heap (tyA cI cZ cB cJ cR) zKS ks ad RX0 (zPsi ks ad) [(0, 1), (0, 2), (0, 3), (0, 9)] ws w1 H locs := ⟨b1, b2, b3, b4, b5, fun k f hf => (b6 k f (fun h9 => by cases h9)).trans (hG.2.2.2.2.2 k f hf)⟩
  clear b1 b2 b3 b4 b5 b6 b7 hcity hcity2 k0 d0 k4 d4 k5 d5 k6 d6 k7 d7 k8 d8 k10 d10 k11 d11 k12 d12 k13 d13 t0 u0 t4 u4 t5 u5 t6 u6 t7 u7 t8 u8 t10 u10 t11 u11 t12 u12 t13 u13 l2 l9 o2 o9
  dsimp only [List.nil_append]
  obtain ⟨r0, n1, n2, n3, r4, r5, r6, r7, r8, n9, r10, r11, r12, r13, hcity, l2, l9, ⟨j0, k0, d0⟩, ⟨j4, k4, d4⟩, ⟨j5, k5, d5⟩, ⟨j6, k6, d6⟩, ⟨j7, k7, d7⟩, ⟨j8, k8, d8⟩, ⟨j10, k10, d10⟩, ⟨k11, d11⟩, ⟨k12, d12⟩, ⟨j13, k13, d13⟩⟩ := zcityP hG.2.2.2.1 hG.2.2.2.2.1 ki di
  obtain ⟨s0, m1, m2, m3, s4, s5, s6, s7, s8, m9, s10, s11, s12, s13, hcity2, o2, o9, ⟨i0, t0, u0⟩, ⟨i4, t4, u4⟩, ⟨i5, t5, u5⟩, ⟨i6, t6, u6⟩, ⟨i7, t7, u7⟩, ⟨i8, t8, u8⟩, ⟨i10, t10, u10⟩, ⟨t11, u11⟩, ⟨t12, u12⟩, ⟨i13, t13, u13⟩⟩ := zcityP hG.2.2.2.1 hG.2.2.2.2.1 ki2 di2
  refine lv_aload_n hx hb dX0_copyFrom_69 rfl (lv_at hl 1 rfl) ?_
  refine zg_RX0 X (21, 0, 6) (by decide) _ zks_0 (by decide) _ _ _ _ _ _ _ i2 _ (.ref s6) hG.1 hcity2 rfl dX0_copyFrom_70 ?_
  refine lv_iconst (v := 0) hx hb dX0_copyFrom_73 (by decide) ?_
  refine lv_aload_n hx hb dX0_copyFrom_74 rfl (lv_at hl 0 rfl) ?_
  refine zg_RX0 X (21, 0, 6) (by decide) _ zks_0 (by decide) _ _ _ _ _ _ _ i _ (.ref r6) hG.1 hcity rfl dX0_copyFrom_75 ?_
  refine lv_iconst (v := 0) hx hb dX0_copyFrom_78 (by decide) ?_
  refine lv_bipush (v := 84) hx hb dX0_copyFrom_79 (by decide) ?_
  refine zq_copy (k0 := 10) (k1 := 10) (s1 := 0) (s2 := 0) (d1 := 0) (d2 := 0) (m1 := 84) (m2 := 84) (hPq 10 (by decide)) X (by decide) lm_60_5 lm_31_13 lm_31_14 lm_31_15 rfl rfl (by decide) (by decide) (by decide) _ _ [] _ _ _ [.ref s6, .int 0, .ref r6, .int 0, .int 84] hG.1 hG.2.1 hG.2.2.1 hG.2.2.2.1 hG.2.2.2.2.1 ⟨⟨_, _, rfl, t6, u6⟩, ⟨_, rfl, by decide⟩, ⟨_, _, rfl, k6, d6⟩, ⟨_, rfl, by decide⟩, ⟨_, rfl, by decide⟩, trivial⟩ (by decide) hl.1 (fun _ h => by cases h) dX0_copyFrom_81 (fun H locs w1 r b1 b2 b3 b4 b5 b6 b7 => ?_)
  obtain rfl := zst0 b7.1
  have hG : zHp D vwCl A s.heap (tyA cI cZ cB cJ cR) zKS ks ad RX0 (zPsi ks ad) [(0, 1), (0, 2), (0, 3), (0, 9)] ws w1 H locs := ⟨b1, b2, b3, b4, b5, fun k f hf => (b6 k f (fun h9 => by cases h9)).trans (hG.2.2.2.2.2 k f hf)⟩
  clear b1 b2 b3 b4 b5 b6 b7 hcity hcity2 k0 d0 k4 d4 k5 d5 k6 d6 k7 d7 k8 d8 k10 d10 k11 d11 k12 d12 k13 d13 t0 u0 t4 u4 t5 u5 t6 u6 t7 u7 t8 u8 t10 u10 t11 u11 t12 u12 t13 u13 l2 l9 o2 o9
  dsimp only [List.nil_append]
  obtain ⟨r0, n1, n2, n3, r4, r5, r6, r7, r8, n9, r10, r11, r12, r13, hcity, l2, l9, ⟨j0, k0, d0⟩, ⟨j4, k4, d4⟩, ⟨j5, k5, d5⟩, ⟨j6, k6, d6⟩, ⟨j7, k7, d7⟩, ⟨j8, k8, d8⟩, ⟨j10, k10, d10⟩, ⟨k11, d11⟩, ⟨k12, d12⟩, ⟨j13, k13, d13⟩⟩ := zcityP hG.2.2.2.1 hG.2.2.2.2.1 ki di
  obtain ⟨s0, m1, m2, m3, s4, s5, s6, s7, s8, m9, s10, s11, s12, s13, hcity2, o2, o9, ⟨i0, t0, u0⟩, ⟨i4, t4, u4⟩, ⟨i5, t5, u5⟩, ⟨i6, t6, u6⟩, ⟨i7, t7, u7⟩, ⟨i8, t8, u8⟩, ⟨i10, t10, u10⟩, ⟨t11, u11⟩, ⟨t12, u12⟩, ⟨i13, t13, u13⟩⟩ := zcityP hG.2.2.2.1 hG.2.2.2.2.1 ki2 di2
  refine lv_aload_n hx hb dX0_copyFrom_84 rfl (lv_at hl 1 rfl) ?_
  refine zg_RX0 X (24, 0, 7) (by decide) _ zks_0 (by decide) _ _ _ _ _ _ _ i2 _ (.ref s7) hG.1 hcity2 rfl dX0_copyFrom_85 ?_
  refine lv_iconst (v := 0) hx hb dX0_copyFrom_88 (by decide) ?_
  refine lv_aload_n hx hb dX0_copyFrom_89 rfl (lv_at hl 0 rfl) ?_
  refine zg_RX0 X (24, 0, 7) (by decide) _ zks_0 (by decide) _ _ _ _ _ _ _ i _ (.ref r7) hG.1 hcity rfl dX0_copyFrom_90 ?_
  refine lv_iconst (v := 0) hx hb dX0_copyFrom_93 (by decide) ?_
  refine lv_bipush (v := 7) hx hb dX0_copyFrom_94 (by decide) ?_
  refine zq_copy (k0 := 11) (k1 := 11) (s1 := 0) (s2 := 0) (d1 := 0) (d2 := 0) (m1 := 7) (m2 := 7) (hPq 11 (by decide)) X (by decide) lm_60_5 lm_31_13 lm_31_14 lm_31_15 rfl rfl (by decide) (by decide) (by decide) _ _ [] _ _ _ [.ref s7, .int 0, .ref r7, .int 0, .int 7] hG.1 hG.2.1 hG.2.2.1 hG.2.2.2.1 hG.2.2.2.2.1 ⟨⟨_, _, rfl, t7, u7⟩, ⟨_, rfl, by decide⟩, ⟨_, _, rfl, k7, d7⟩, ⟨_, rfl, by decide⟩, ⟨_, rfl, by decide⟩, trivial⟩ (by decide) hl.1 (fun _ h => by cases h) dX0_copyFrom_96 (fun H locs w1 r b1 b2 b3 b4 b5 b6 b7 => ?_)
  obtain rfl := zst0 b7.1
  have hG : zHp D vwCl A s.heap (tyA cI cZ cB cJ cR) zKS ks ad RX0 (zPsi ks ad) [(0, 1), (0, 2), (0, 3), (0, 9)] ws w1 H locs := ⟨b1, b2, b3, b4, b5, fun k f hf => (b6 k f (fun h9 => by cases h9)).trans (hG.2.2.2.2.2 k f hf)⟩
  clear b1 b2 b3 b4 b5 b6 b7 hcity hcity2 k0 d0 k4 d4 k5 d5 k6 d6 k7 d7 k8 d8 k10 d10 k11 d11 k12 d12 k13 d13 t0 u0 t4 u4 t5 u5 t6 u6 t7 u7 t8 u8 t10 u10 t11 u11 t12 u12 t13 u13 l2 l9 o2 o9
  dsimp only [List.nil_append]
  obtain ⟨r0, n1, n2, n3, r4, r5, r6, r7, r8, n9, r10, r11, r12, r13, hcity, l2, l9, ⟨j0, k0, d0⟩, ⟨j4, k4, d4⟩, ⟨j5, k5, d5⟩, ⟨j6, k6, d6⟩, ⟨j7, k7, d7⟩, ⟨j8, k8, d8⟩, ⟨j10, k10, d10⟩, ⟨k11, d11⟩, ⟨k12, d12⟩, ⟨j13, k13, d13⟩⟩ := zcityP hG.2.2.2.1 hG.2.2.2.2.1 ki di
  obtain ⟨s0, m1, m2, m3, s4, s5, s6, s7, s8, m9, s10, s11, s12, s13, hcity2, o2, o9, ⟨i0, t0, u0⟩, ⟨i4, t4, u4⟩, ⟨i5, t5, u5⟩, ⟨i6, t6, u6⟩, ⟨i7, t7, u7⟩, ⟨i8, t8, u8⟩, ⟨i10, t10, u10⟩, ⟨t11, u11⟩, ⟨t12, u12⟩, ⟨i13, t13, u13⟩⟩ := zcityP hG.2.2.2.1 hG.2.2.2.2.1 ki2 di2
  refine lv_aload_n hx hb dX0_copyFrom_99 rfl (lv_at hl 0 rfl) ?_
  refine lv_aload_n hx hb dX0_copyFrom_100 rfl (lv_at hl 1 rfl) ?_
  refine zg_RX0 X (52, 0, 9) (by decide) _ zks_0 (by decide) _ _ _ _ _ _ _ i2 _ (.int m9) hG.1 hcity2 rfl dX0_copyFrom_101 ?_
  have hvv : zok ks ad (0, 0, 40) (.int m9) := ⟨_, rfl, o9⟩
  refine zp_RX0 X (52, 0, 9) (by decide) _ (0, 0, 40) zks_0 rfl _ _ _ _ _ _ _ i _ _ hG.1 hG.2.1 hG.2.2.1 hcity rfl hvv dX0_copyFrom_104 (fun H locs a1 a2 a3 => ?_)
  have hG := hG.putf hw ki (by decide) zks_0 rfl hcity rfl hvv (List.mem_of_getElem? (i := 3) rfl) a1 a2 a3
  clear a1 a2 a3 hcity hcity2 k0 d0 k4 d4 k5 d5 k6 d6 k7 d7 k8 d8 k10 d10 k11 d11 k12 d12 k13 d13 t0 u0 t4 u4 t5 u5 t6 u6 t7 u7 t8 u8 t10 u10 t11 u11 t12 u12 t13 u13 l2 l9 o2 o9 hvv
  obtain ⟨r0, n1, n2, n3, r4, r5, r6, r7, r8, n9, r10, r11, r12, r13, hcity, l2, l9, ⟨j0, k0, d0⟩, ⟨j4, k4, d4⟩, ⟨j5, k5, d5⟩, ⟨j6, k6, d6⟩, ⟨j7, k7, d7⟩, ⟨j8, k8, d8⟩, ⟨j10, k10, d10⟩, ⟨k11, d11⟩, ⟨k12, d12⟩, ⟨j13, k13, d13⟩⟩ := zcityP hG.2.2.2.1 hG.2.2.2.2.1 ki di
  obtain ⟨s0, m1, m2, m3, s4, s5, s6, s7, s8, m9, s10, s11, s12, s13, hcity2, o2, o9, ⟨i0, t0, u0⟩, ⟨i4, t4, u4⟩, ⟨i5, t5, u5⟩, ⟨i6, t6, u6⟩, ⟨i7, t7, u7⟩, ⟨i8, t8, u8⟩, ⟨i10, t10, u10⟩, ⟨t11, u11⟩, ⟨t12, u12⟩, ⟨i13, t13, u13⟩⟩ := zcityP hG.2.2.2.1 hG.2.2.2.2.1 ki2 di2
  refine lv_aload_n hx hb dX0_copyFrom_107 rfl (lv_at hl 1 rfl) ?_
  refine zg_RX0 X (30, 0, 10) (by decide) _ zks_0 (by decide) _ _ _ _ _ _ _ i2 _ (.ref s10) hG.1 hcity2 rfl dX0_copyFrom_108 ?_
  refine lv_iconst (v := 0) hx hb dX0_copyFrom_111 (by decide) ?_
  refine lv_aload_n hx hb dX0_copyFrom_112 rfl (lv_at hl 0 rfl) ?_
  refine zg_RX0 X (30, 0, 10) (by decide) _ zks_0 (by decide) _ _ _ _ _ _ _ i _ (.ref r10) hG.1 hcity rfl dX0_copyFrom_113 ?_
  refine lv_iconst (v := 0) hx hb dX0_copyFrom_116 (by decide) ?_
  refine lv_bipush (v := 40) hx hb dX0_copyFrom_117 (by decide) ?_
  refine zq_copy (k0 := 13) (k1 := 13) (s1 := 0) (s2 := 0) (d1 := 0) (d2 := 0) (m1 := 40) (m2 := 40) (hPq 13 (by decide)) X (by decide) lm_60_5 lm_31_13 lm_31_14 lm_31_15 rfl rfl (by decide) (by decide) (by decide) _ _ [] _ _ _ [.ref s10, .int 0, .ref r10, .int 0, .int 40] hG.1 hG.2.1 hG.2.2.1 hG.2.2.2.1 hG.2.2.2.2.1 ⟨⟨_, _, rfl, t10, u10⟩, ⟨_, rfl, by decide⟩, ⟨_, _, rfl, k10, d10⟩, ⟨_, rfl, by decide⟩, ⟨_, rfl, by decide⟩, trivial⟩ (by decide) hl.1 (fun _ h => by cases h) dX0_copyFrom_119 (fun H locs w1 r b1 b2 b3 b4 b5 b6 b7 => ?_)
  obtain rfl := zst0 b7.1
  have hG : zHp D vwCl A s.heap (tyA cI cZ cB cJ cR) zKS ks ad RX0 (zPsi ks ad) [(0, 1), (0, 2), (0, 3), (0, 9)] ws w1 H locs := ⟨b1, b2, b3, b4, b5, fun k f hf => (b6 k f (fun h9 => by cases h9)).trans (hG.2.2.2.2.2 k f hf)⟩
  clear b1 b2 b3 b4 b5 b6 b7 hcity hcity2 k0 d0 k4 d4 k5 d5 k6 d6 k7 d7 k8 d8 k10 d10 k11 d11 k12 d12 k13 d13 t0 u0 t4 u4 t5 u5 t6 u6 t7 u7 t8 u8 t10 u10 t11 u11 t12 u12 t13 u13 l2 l9 o2 o9
  dsimp only [List.nil_append]
  obtain ⟨r0, n1, n2, n3, r4, r5, r6, r7, r8, n9, r10, r11, r12, r13, hcity, l2, l9, ⟨j0, k0, d0⟩, ⟨j4, k4, d4⟩, ⟨j5, k5, d5⟩, ⟨j6, k6, d6⟩, ⟨j7, k7, d7⟩, ⟨j8, k8, d8⟩, ⟨j10, k10, d10⟩, ⟨k11, d11⟩, ⟨k12, d12⟩, ⟨j13, k13, d13⟩⟩ := zcityP hG.2.2.2.1 hG.2.2.2.2.1 ki di
  obtain ⟨s0, m1, m2, m3, s4, s5, s6, s7, s8, m9, s10, s11, s12, s13, hcity2, o2, o9, ⟨i0, t0, u0⟩, ⟨i4, t4, u4⟩, ⟨i5, t5, u5⟩, ⟨i6, t6, u6⟩, ⟨i7, t7, u7⟩, ⟨i8, t8, u8⟩, ⟨i10, t10, u10⟩, ⟨t11, u11⟩, ⟨t12, u12⟩, ⟨i13, t13, u13⟩⟩ := zcityP hG.2.2.2.1 hG.2.2.2.2.1 ki2 di2
  obtain ⟨f11, g11, m11⟩ := zarrI hG.2.2.2.1 k11 d11 (rfl : zKS[14]? = _)
  obtain ⟨f12, g12, m12⟩ := zarrI hG.2.2.2.1 k12 d12 (rfl : zKS[15]? = _)
  obtain ⟨e11, v11, x11⟩ := zarrI hG.2.2.2.1 t11 u11 (rfl : zKS[14]? = _)
  obtain ⟨e12, v12, x12⟩ := zarrI hG.2.2.2.1 t12 u12 (rfl : zKS[15]? = _)
  have hfr : 1 ≤ R.frames := by have := X.2.2.2.1; omega
  have h50 : nativeFrameWords "java/lang/System" "arraycopy" 5 + 11 ≤ 50 := by decide
  have hlo : (([] : List Value).map fun v => v.category).sum + (nativeFrameWords "java/lang/System" "arraycopy" 5 + 11) ≤ R.locals := by have h120 := X.2.2.2.2.1; show 0 + _ ≤ _; omega
  refine lv_aload_n hx hb dX0_copyFrom_122 rfl (lv_at hl 1 rfl) ?_
  refine zg_RX0 X (33, 0, 11) (by decide) _ zks_0 (by decide) _ _ _ _ _ _ _ i2 _ (.ref s11) hG.1 hcity2 rfl dX0_copyFrom_123 ?_
  refine lv_iconst (v := 0) hx hb dX0_copyFrom_126 (by decide) ?_
  refine lv_aload_n hx hb dX0_copyFrom_127 rfl (lv_at hl 0 rfl) ?_
  refine zg_RX0 X (33, 0, 11) (by decide) _ zks_0 (by decide) _ _ _ _ _ _ _ i _ (.ref r11) hG.1 hcity rfl dX0_copyFrom_128 ?_
  refine lv_iconst (v := 0) hx hb dX0_copyFrom_131 (by decide) ?_
  refine lv_bipush (v := 40) hx hb dX0_copyFrom_132 (by decide) ?_
  refine va_copyi (rest := []) (sp := 0) (dp := 0) (n := 40) hx hb (X.1.2.2.1.trans hl.1.symm) X.1.2.2.2.1 (X.1.2.2.2.2 _ lm_60_5) (X.1.2.2.2.2 _ lm_31_13) (X.1.2.2.2.2 _ lm_31_14) (X.1.2.2.2.2 _ lm_31_15) X.2.1.1 hG.1 hG.2.1 hG.2.2.1 (i2 + 8) (i + 8) 0 0 v11 g11 rfl rfl rfl (by decide) (by decide) (by decide) (by decide) (by decide) (fun _ _ => rfl) hfr hlo dX0_copyFrom_134 (fun H locs p1 p2 p3 => ?_)
  have hc1 := zhkp p1 (znk k11 ki (by decide)) hcity
  have hc2 := zhkp p1 (znk k11 ki2 (by decide)) hcity2
  have g12b := zhkp p1 (znk k11 k12 (by decide)) g12
  have v12b := zhkp p1 (znk k11 t12 (by decide)) v12
  refine lv_aload_n hx hb dX0_copyFrom_137 rfl (lv_at hl 1 rfl) ?_
  refine zg_RX0 X (36, 0, 12) (by decide) _ zks_0 (by decide) _ _ _ _ _ _ _ i2 _ (.ref s12) p1 hc2 rfl dX0_copyFrom_138 ?_
  refine lv_iconst (v := 0) hx hb dX0_copyFrom_141 (by decide) ?_
  refine lv_aload_n hx hb dX0_copyFrom_142 rfl (lv_at hl 0 rfl) ?_
  refine zg_RX0 X (36, 0, 12) (by decide) _ zks_0 (by decide) _ _ _ _ _ _ _ i _ (.ref r12) p1 hc1 rfl dX0_copyFrom_143 ?_
  refine lv_iconst (v := 0) hx hb dX0_copyFrom_146 (by decide) ?_
  refine lv_bipush (v := 40) hx hb dX0_copyFrom_147 (by decide) ?_
  refine va_copyi (rest := []) (sp := 0) (dp := 0) (n := 40) hx hb (X.1.2.2.1.trans hl.1.symm) X.1.2.2.2.1 (X.1.2.2.2.2 _ lm_60_5) (X.1.2.2.2.2 _ lm_31_13) (X.1.2.2.2.2 _ lm_31_14) (X.1.2.2.2.2 _ lm_31_15) X.2.1.1 p1 p2 p3 (i2 + 9) (i + 9) 0 0 v12b g12b rfl rfl rfl (by decide) (by decide) (by decide) (by decide) (by decide) (fun _ _ => rfl) hfr hlo dX0_copyFrom_149 (fun H locs a1 a2 a3 => ?_)
  have hG := hG.pair ki g11 g12 (fun n hn => by rw [cpyF n hn]; exact x11 n hn) (fun n hn => by rw [cpyF n hn]; exact x12 n hn) (fun n hn => by rw [cpyF n hn, cpyF n hn]; exact zPsi_rel hG.2.2.2.2.1 ki2 v11 v12 n hn) a1 a2 a3
  clear a1 a2 a3 p1 p2 p3 hc1 hc2 g12b v12b hcity hcity2 g11 g12 v11 v12
  obtain ⟨r0, n1, n2, n3, r4, r5, r6, r7, r8, n9, r10, r11, r12, r13, hcity, l2, l9, ⟨j0, k0, d0⟩, ⟨j4, k4, d4⟩, ⟨j5, k5, d5⟩, ⟨j6, k6, d6⟩, ⟨j7, k7, d7⟩, ⟨j8, k8, d8⟩, ⟨j10, k10, d10⟩, ⟨k11, d11⟩, ⟨k12, d12⟩, ⟨j13, k13, d13⟩⟩ := zcityP hG.2.2.2.1 hG.2.2.2.2.1 ki di
  obtain ⟨s0, m1, m2, m3, s4, s5, s6, s7, s8, m9, s10, s11, s12, s13, hcity2, o2, o9, ⟨i0, t0, u0⟩, ⟨i4, t4, u4⟩, ⟨i5, t5, u5⟩, ⟨i6, t6, u6⟩, ⟨i7, t7, u7⟩, ⟨i8, t8, u8⟩, ⟨i10, t10, u10⟩, ⟨t11, u11⟩, ⟨t12, u12⟩, ⟨i13, t13, u13⟩⟩ := zcityP hG.2.2.2.1 hG.2.2.2.2.1 ki2 di2
  refine lv_aload_n hx hb dX0_copyFrom_152 rfl (lv_at hl 1 rfl) ?_
  refine zg_RX0 X (39, 0, 13) (by decide) _ zks_0 (by decide) _ _ _ _ _ _ _ i2 _ (.ref s13) hG.1 hcity2 rfl dX0_copyFrom_153 ?_
  refine lv_iconst (v := 0) hx hb dX0_copyFrom_156 (by decide) ?_
  refine lv_aload_n hx hb dX0_copyFrom_157 rfl (lv_at hl 0 rfl) ?_
  refine zg_RX0 X (39, 0, 13) (by decide) _ zks_0 (by decide) _ _ _ _ _ _ _ i _ (.ref r13) hG.1 hcity rfl dX0_copyFrom_158 ?_
  refine lv_iconst (v := 0) hx hb dX0_copyFrom_161 (by decide) ?_
  refine lv_bipush (v := 40) hx hb dX0_copyFrom_162 (by decide) ?_
  refine zq_copy (k0 := 16) (k1 := 16) (s1 := 0) (s2 := 0) (d1 := 0) (d2 := 0) (m1 := 40) (m2 := 40) (hPq 16 (by decide)) X (by decide) lm_60_5 lm_31_13 lm_31_14 lm_31_15 rfl rfl (by decide) (by decide) (by decide) _ _ [] _ _ _ [.ref s13, .int 0, .ref r13, .int 0, .int 40] hG.1 hG.2.1 hG.2.2.1 hG.2.2.2.1 hG.2.2.2.2.1 ⟨⟨_, _, rfl, t13, u13⟩, ⟨_, rfl, by decide⟩, ⟨_, _, rfl, k13, d13⟩, ⟨_, rfl, by decide⟩, ⟨_, rfl, by decide⟩, trivial⟩ (by decide) hl.1 (fun _ h => by cases h) dX0_copyFrom_164 (fun H locs w1 r b1 b2 b3 b4 b5 b6 b7 => ?_)
  obtain rfl := zst0 b7.1
  have hG : zHp D vwCl A s.heap (tyA cI cZ cB cJ cR) zKS ks ad RX0 (zPsi ks ad) [(0, 1), (0, 2), (0, 3), (0, 9)] ws w1 H locs := ⟨b1, b2, b3, b4, b5, fun k f hf => (b6 k f (fun h9 => by cases h9)).trans (hG.2.2.2.2.2 k f hf)⟩
  clear b1 b2 b3 b4 b5 b6 b7 hcity hcity2 k0 d0 k4 d4 k5 d5 k6 d6 k7 d7 k8 d8 k10 d10 k11 d11 k12 d12 k13 d13 t0 u0 t4 u4 t5 u5 t6 u6 t7 u7 t8 u8 t10 u10 t11 u11 t12 u12 t13 u13 l2 l9 o2 o9
  dsimp only [List.nil_append]
  exact hR 167 _ _ _ _ [] hG ⟨trivial, fun _ h => (by cases h), fun _ h => (by cases h)⟩ dX0_copyFrom_167
