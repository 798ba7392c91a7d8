theorem inC (i : Int32) (n : Nat) (h : (decide (i < 0) || decide (n ≤ i.toNatClampNeg)) = false) : vp_in i n := by
  intro q
  simp only [Bool.or_eq_false_iff, decide_eq_false_iff_not] at h
  rcases q with q | q
  · exact h.1 q
  · exact h.2 q
theorem eqT32 (x y : Int32) : x = y ↔ x.toInt = y.toInt := Int32.toInt_inj.symm
theorem eqT64 (x y : Int64) : x = y ↔ x.toInt = y.toInt := Int64.toInt_inj.symm
theorem updz {k : Nat} : upd (fun _ => 0) k 0 = fun _ => 0 := by funext j; simp [upd]
theorem updLz {k : Nat} : vp_updL (fun _ => 0) k 0 = fun _ => 0 := by funext j; simp [vp_updL]
theorem cpyz {a b n : Nat} : va_cpy (fun _ => (0 : Int32)) (fun _ => (0 : Int32)) a b n = fun _ => 0 := by funext j; simp [va_cpy]
theorem sp3 (x : Int32) (h : 0 ≤ x.toInt ∧ x.toInt < 3) : x = 0 ∨ x = 1 ∨ x = 2 := by
  simp only [eqT32, Int32.reduceToInt]
  omega
theorem sp4 (x : Int32) (h : 0 ≤ x.toInt ∧ x.toInt < 4) : x = 0 ∨ x = 1 ∨ x = 2 ∨ x = 3 := by
  simp only [eqT32, Int32.reduceToInt]
  omega
theorem sp12 (x : Int32) (h : 0 ≤ x.toInt ∧ x.toInt < 12) : x = 0 ∨ x = 1 ∨ x = 2 ∨ x = 3 ∨ x = 4 ∨ x = 5 ∨ x = 6 ∨ x = 7 ∨ x = 8 ∨ x = 9 ∨ x = 10 ∨ x = 11 := by
  simp only [eqT32, Int32.reduceToInt]
  omega
theorem out12 (x : Int32) : x < 0 ∨ 11 < x ∨ (0 ≤ x.toInt ∧ x.toInt < 12) := by
  simp only [Int32.lt_iff_toInt_lt, Int32.reduceToInt]
  omega
theorem inA (a j n : Nat) {x : Int32} (h : x = nI a + nI j) (hl : a + j < n) (hn : n < 2 ^ 31) : vp_in x n := by rw [h, nI_add]; exact vp_in_nI hl hn
theorem inB (a b j n : Nat) {v x : Int32} (h1 : v = nI a * nI b) (h : x = v + nI j) (hl : a * b + j < n) (hn : n < 2 ^ 31) : vp_in x n := by rw [h, h1, pk_mul, nI_add]; exact vp_in_nI hl hn
def zokw (w : Cond) : Bool := match w with
  | .fieldLinkNest _ _ _ _ _ _ => true
  | .methodLinkNest _ _ _ _ => true
  | _ => false
def zN : List Cond := [.methodLinkNest RX5 9 yX4_init "AlibiRota", .fieldLinkNest RX5 63 "AlibiRota$Tape" "length" "I" "AlibiRota", .fieldLinkNest RX5 77 "AlibiRota$Tape" "fault" "I" "AlibiRota", .fieldLinkNest RX5 80 "AlibiRota$Tape" "faultPlace" "I" "AlibiRota", .methodLinkNest RX5 18 yX3_init "AlibiRota", .methodLinkNest RX5 25 yX2_init "AlibiRota", .fieldLinkNest RX5 348 "AlibiRota$Rotas" "isSurveyed" "Z" "AlibiRota", .fieldLinkNest RX5 158 "AlibiRota$Rotas" "fewest" "I" "AlibiRota", .fieldLinkNest RX5 164 "AlibiRota$Rotas" "ofFewest" "I" "AlibiRota", .fieldLinkNest RX5 167 "AlibiRota$Rotas" "mildest" "I" "AlibiRota", .fieldLinkNest RX5 170 "AlibiRota$Rotas" "spotless" "I" "AlibiRota", .fieldLinkNest RX5 161 "AlibiRota$Rotas" "fewestRow" "[I" "AlibiRota", .fieldLinkNest RX5 262 "AlibiRota$Rotas" "fitting" "I" "AlibiRota", .fieldLinkNest RX5 265 "AlibiRota$Rotas" "fittingRow" "[I" "AlibiRota", .fieldLinkNest RX5 268 "AlibiRota$Rotas" "fittingTargets" "[I" "AlibiRota", .methodLinkNest RX5 32 yX1_init "AlibiRota", .methodLinkNest RX5 47 yX0_init "AlibiRota", .fieldLinkNest RX1 39 "AlibiRota$City" "numbers" "[I" "AlibiRota", .fieldLinkNest RX4 93 "AlibiRota$City" "numbers" "[I" "AlibiRota", .fieldLinkNest RX2 99 "AlibiRota$City" "numbers" "[I" "AlibiRota", .fieldLinkNest RX5 311 "AlibiRota$City" "numbers" "[I" "AlibiRota", .fieldLinkNest RX5 74 "AlibiRota$City" "lines" "I" "AlibiRota", .fieldLinkNest RX4 47 "AlibiRota$City" "lines" "I" "AlibiRota", .fieldLinkNest RX4 106 "AlibiRota$City" "people" "I" "AlibiRota", .fieldLinkNest RX2 98 "AlibiRota$City" "people" "I" "AlibiRota", .fieldLinkNest RX5 140 "AlibiRota$City" "people" "I" "AlibiRota", .fieldLinkNest RX4 103 "AlibiRota$City" "walls" "I" "AlibiRota", .fieldLinkNest RX5 101 "AlibiRota$City" "oath" "[I" "AlibiRota", .fieldLinkNest RX1 45 "AlibiRota$City" "errands" "[I" "AlibiRota", .fieldLinkNest RX5 293 "AlibiRota$City" "acts" "I" "AlibiRota", .methodLinkNest RX5 55 yX4_hasRoom "AlibiRota", .methodLinkNest RX5 59 yX4_append "AlibiRota", .methodLinkNest RX5 67 yX4_readInto "AlibiRota", .methodLinkNest RX4 22 yX0_clear "AlibiRota", .fieldLinkNest RX4 82 "AlibiRota" "LOWEST" "[I" "AlibiRota", .fieldLinkNest RX4 86 "AlibiRota" "HIGHEST" "[I" "AlibiRota", .methodLinkNest RX4 99 yX0_places "AlibiRota", .methodLinkNest RX4 117 yX0_settle "AlibiRota", .methodLinkNest RX4 125 yX0_hours "AlibiRota", .methodLinkNest RX4 128 yX0_send "AlibiRota", .methodLinkNest RX4 50 yX0_forgetStrangers "AlibiRota", .methodLinkNest RX5 345 yX0_look "AlibiRota", .methodLinkNest RX5 83 yX0_isPerson "AlibiRota", .methodLinkNest RX5 87 yX0_isHour "AlibiRota", .methodLinkNest RX5 90 yX0_placeOf "AlibiRota", .methodLinkNest RX5 94 yX0_seesIn "AlibiRota", .methodLinkNest RX0 98 yX5_hasBit "AlibiRota", .methodLinkNest RX5 98 yX0_inSight "AlibiRota", .methodLinkNest RX5 105 yX0_swearersOf "AlibiRota", .methodLinkNest RX5 109 yX0_gapBits "AlibiRota", .methodLinkNest RX5 112 yX0_aloneIn "AlibiRota", .methodLinkNest RX5 115 yX0_exists "AlibiRota", .methodLinkNest RX5 118 yX0_allHours "AlibiRota", .methodLinkNest RX5 122 yX0_gapsOfAll "AlibiRota", .methodLinkNest RX5 125 yX0_hours "AlibiRota", .methodLinkNest RX5 137 yX0_fineOf "AlibiRota", .methodLinkNest RX5 143 yX0_ringOf "AlibiRota", .methodLinkNest RX5 146 yX0_chainFrom "AlibiRota", .methodLinkNest RX5 352 yX2_survey "AlibiRota", .methodLinkNest RX2 111 yX0_seenBits "AlibiRota", .methodLinkNest RX2 74 yX0_hours "AlibiRota", .methodLinkNest RX2 80 yX0_hoursSeen "AlibiRota", .methodLinkNest RX2 125 yX5_hasBit "AlibiRota", .methodLinkNest RX5 173 yX0_gapsIfTraded "AlibiRota", .methodLinkNest RX5 176 yX0_envies "AlibiRota", .methodLinkNest RX5 179 yX0_isPair "AlibiRota", .methodLinkNest RX5 183 yX0_hoursSeen "AlibiRota", .methodLinkNest RX5 186 yX0_isPlace "AlibiRota", .methodLinkNest RX5 189 yX0_watchers "AlibiRota", .methodLinkNest RX5 192 yX0_places "AlibiRota", .methodLinkNest RX5 195 yX0_manyIn "AlibiRota", .methodLinkNest RX5 198 yX0_gapsIfHome "AlibiRota", .methodLinkNest RX5 201 yX0_seenBits "AlibiRota", .methodLinkNest RX5 204 yX1_plan "AlibiRota", .methodLinkNest RX1 25 yX0_hours "AlibiRota", .methodLinkNest RX1 34 yX0_places "AlibiRota", .methodLinkNest RX1 48 yX5_hasBit "AlibiRota", .methodLinkNest RX1 52 yX0_placeOf "AlibiRota", .methodLinkNest RX1 56 yX0_reaches "AlibiRota", .methodLinkNest RX5 208 yX1_most "AlibiRota", .methodLinkNest RX5 211 yX1_firstDayAt "AlibiRota", .methodLinkNest RX5 214 yX1_fewestSteps "AlibiRota", .methodLinkNest RX5 217 yX0_nearBits "AlibiRota", .methodLinkNest RX5 220 yX0_doers "AlibiRota", .methodLinkNest RX5 223 yX0_hasDoer "AlibiRota", .methodLinkNest RX5 227 yX0_leastGuards "AlibiRota", .methodLinkNest RX5 321 yX3_isSlot "AlibiRota", .methodLinkNest RX5 328 yX3_hasRow "AlibiRota", .methodLinkNest RX5 250 yX3_size "AlibiRota", .methodLinkNest RX5 239 yX3_number "AlibiRota", .methodLinkNest RX5 358 yX2_expectNothing "AlibiRota", .methodLinkNest RX5 361 yX2_expect "AlibiRota", .methodLinkNest RX5 365 yX2_explain "AlibiRota", .methodLinkNest RX5 273 yX0_fogGapBits "AlibiRota", .methodLinkNest RX5 287 yX0_fogFrom "AlibiRota", .methodLinkNest RX5 290 yX0_gapBitsUnder "AlibiRota", .methodLinkNest RX5 296 yX0_swearAnew "AlibiRota", .methodLinkNest RX5 299 yX0_moveAnew "AlibiRota", .methodLinkNest RX5 302 yX0_takeBack "AlibiRota", .methodLinkNest RX5 314 yX3_manyRows "AlibiRota", .methodLinkNest RX5 317 yX0_copyFrom "AlibiRota", .methodLinkNest RX5 324 yX3_lay "AlibiRota", .methodLinkNest RX5 331 yX3_put "AlibiRota", .methodLinkNest RX5 335 yX3_areAlike "AlibiRota", .methodLinkNest RX5 338 yX3_holds "AlibiRota", .methodLinkNest RX5 341 yX3_copyOver "AlibiRota"]
theorem zN_ok : zN.all zokw = true := by decide +kernel
theorem zN_on : ∀ w ∈ zN, w.onTables = true := by
  intro w hw
  have hk := List.all_eq_true.mp zN_ok w hw
  cases w <;> first | rfl | exact absurd hk (by simp [zokw])
def zH (U : State) : Prop := ∀ w ∈ zN, va_Nw w U
theorem zH.warm {s U : State} (hW : s.WarmedH U.vm) (h : zH s) : zH U := by
  intro w hw
  have hk := List.all_eq_true.mp zN_ok w hw
  have h1 := h w hw
  cases w <;> first | exact va_Nw.warmF hW h1 | exact va_Nw.warmM hW h1 | exact absurd hk (by simp [zokw])
theorem zH.same {u U : State} (h : u.vm = U.vm) (hz : zH u) : zH U := fun w hw => va_Nw.same (zN_on w hw) h (hz w hw)
abbrev tyA (cI cZ cB cJ cR : ClassId) : List (ClassId × FieldType) := [(cI, .int), (cZ, .boolean), (cB, .byte), (cJ, .long), (cR, .object RX0)]
def kB (D : va_G) (cI cZ cB cJ cR : ClassId) (U : State) : Prop := va_K D vwCl (tyA cI cZ cB cJ cR) U ∧ zH U ∧ va_AO RX0 U
theorem kB.warm {D : va_G} {cI cZ cB cJ cR : ClassId} {s U : State} (hW : s.WarmedH U.vm) (h : kB D cI cZ cB cJ cR s) : kB D cI cZ cB cJ cR U := ⟨va_K.moved hW.alike h.1, h.2.1.warm hW, h.2.2.moved hW.alike⟩
theorem kB.calling {D : va_G} {cI cZ cB cJ cR : ClassId} {U : State} {f : JFrame} {mk : MethodId} {a : Array Value} (h : kB D cI cZ cB cJ cR U) : kB D cI cZ cB cJ cR (U.calling f mk a) := ⟨va_K.moved (u := U) (U := U.calling f mk a) (Vm.Alike.refl U.vm) h.1, zH.same (u := U) (U := U.calling f mk a) rfl h.2.1, va_AO.moved (u := U) (U := U.calling f mk a) (Vm.Alike.refl U.vm) h.2.2⟩
def pS (D : va_G) (cI cZ cB cJ cR : ClassId) (cs : va_W) (U : State) : Prop := va_P D vwCl cs U.heap ∧ kB D cI cZ cB cJ cR U
theorem fbS {av : List Value} {D : va_G} {cI cZ cB cJ cR : ClassId} {cs : va_W} : FrameBlind (va_Pc av (pS D cI cZ cB cJ cR cs)) := fun _ _ _ _ q => ⟨q.1, q.2.1, q.2.2.calling⟩
theorem pS_at {av : List Value} {D : va_G} {cI cZ cB cJ cR : ClassId} {cs : va_W} {s : State} {H : Heap} (hP : va_P D vwCl cs H) (hk : kB D cI cZ cB cJ cR s) : ∀ U : State, U.heap = H → s.WarmedH U.vm → va_Pc av (pS D cI cZ cB cJ cR cs) av.toArray U := fun _ hU hW => ⟨rfl, by rw [hU]; exact hP, hk.warm hW⟩
def pQ (D : va_G) (cI cZ cB cJ cR : ClassId) (cs : va_W) (sz : Nat) (U : State) : Prop := U.heap.size = sz ∧ va_P D vwCl cs U.heap ∧ kB D cI cZ cB cJ cR U ∧ va_D (fun _ => True) cs
theorem fbQ {av : List Value} {D : va_G} {cI cZ cB cJ cR : ClassId} {cs : va_W} {sz : Nat} : FrameBlind (va_Pc av (pQ D cI cZ cB cJ cR cs sz)) := fun _ _ _ _ q => ⟨q.1, q.2.1, q.2.2.1, q.2.2.2.1.calling, q.2.2.2.2⟩
theorem pQ_at {av : List Value} {D : va_G} {cI cZ cB cJ cR : ClassId} {cs : va_W} {A : Nat → Prop} {s : State} {H : Heap} (hP : va_P D vwCl cs H) (hk : kB D cI cZ cB cJ cR s) (hD : va_D A cs) : ∀ U : State, U.heap = H → s.WarmedH U.vm → va_Pc av (pQ D cI cZ cB cJ cR cs H.size) av.toArray U := fun _ hU hW => ⟨rfl, by rw [hU], by rw [hU]; exact hP, hk.warm hW, hD.weaken (fun _ _ _ _ => trivial)⟩
theorem va_RA_eq {U : State} {c1 c2 : ClassId} {ty : FieldType} (h1 : va_RA U c1 ty) (h2 : va_RA U c2 ty) : c1 = c2 := by
  cases ty with
  | object C =>
    obtain ⟨_, _, _, _, _, g1⟩ := h1
    obtain ⟨_, _, _, _, _, g2⟩ := h2
    exact Option.some.inj (g1.symm.trans g2)
  | _ => exact Option.some.inj (Eq.trans (Eq.symm h1) h2)
theorem zI (cA : ClassId) (n : Nat) : vp_cell cA (n, .inl (fun _ => 0)) = arrV cA n (fun _ => defaultValue .int) := rfl
theorem zZ (cA : ClassId) (n : Nat) : vp_cell cA (n, .inl (fun _ => 0)) = arrV cA n (fun _ => defaultValue .boolean) := rfl
theorem zB (cA : ClassId) (n : Nat) : vp_cell cA (n, .inl (fun _ => 0)) = arrV cA n (fun _ => defaultValue .byte) := rfl
theorem zJ (cA : ClassId) (n : Nat) : vp_cell cA (n, .inr (.inl (fun _ => 0))) = arrV cA n (fun _ => defaultValue .long) := rfl
section NEWU
variable {p : Program} {l : Launch} {e : Env} {R : Room} {s : State} {m : MethodId} {args : Array Value} {below : List Frame} {meth : Method} {c : Code} {H : Heap} {locs : List Loc} {cells slots : Nat} {Q : State → Prop}
variable {cc : ByteArray} {pc : Nat} {ls : Array Slot} {rest : List Value} {D : va_G} {cl : List vw_C} {A : Nat → Prop} {tys : List (ClassId × FieldType)} {ws : va_W} {H0 : Heap}
theorem va_newaU (hexec : p.tables.exec = Jvm.exec) (hb : c.code = cc) {atype : ArrayType} (harr : (Cond.arrayClass (newarray.typeOf atype)).before args s = true) {ty : FieldType} (hty : newarray.typeOf atype = ty) (hK : va_K D cl tys s) (hP : va_P D cl ws H) (hD : va_D A ws) (hS : va_S A H0 H locs) (hA : ∀ q, H0.size ≤ q → A q) (t0 : Nat) {cA : ClassId} (ht : tys[t0]? = some (cA, ty))
    {n : Int32} {N' : Nat} {a0 : vp_A} (ha : ∀ cA : ClassId, vp_cell cA a0 = arrV cA N' (fun _ => defaultValue ty)) (hn : ¬ n < 0) (hN : n.toNatClampNeg = N') (hbytes : N' * componentBytes ty ≤ 536870912) (hcells : cells + 1 ≤ R.cells) (hslots : slots + N' ≤ R.slots) (hdg : decode cc pc = .ok (.newarray atype, 2))
    (kk : ∀ (q : Nat) (H1 : Heap), va_P D cl (ws ++ [(q, .inl (cA, a0))]) H1 → va_D A (ws ++ [(q, .inl (cA, a0))]) → va_S A H0 H1 locs →
      W p l e R s m args below meth c H1 locs (cells + 1) (slots + N') Q (F0 m (pc + 2) ls (.ref q :: rest))) : W p l e R s m args below meth c H locs cells slots Q (F0 m pc ls (.int n :: rest)) := by
  refine va_newa hexec hb harr hty hK hP hD hS hA ha hn hN hbytes hcells hslots hdg (fun q cB H1 hK1 hP1 hD1 hS1 => ?_)
  have hc : cB = cA := va_RA_eq (hK1.2 tys.length (cB, ty) (by simp)).2 (hK.2 t0 _ ht).2
  subst hc
  exact kk q H1 hP1 hD1 hS1
theorem va_newqU (hexec : p.tables.exec = Jvm.exec) (hb : c.code = cc) {own C : String} {index : Nat} (hown : s.vm.findClass own = some m.cls) (hclink : (Cond.classLink own index C).before args s = true) (hover : va_AO C s) (hK : va_K D cl tys s) (hP : va_P D cl ws H) (hD : va_D A ws) (hS : va_S A H0 H locs) (hA : ∀ q, H0.size ≤ q → A q) (t0 : Nat) {cA : ClassId} (ht : tys[t0]? = some (cA, .object C))
    {n : Int32} {N' : Nat} (hn : ¬ n < 0) (hN : n.toNatClampNeg = N') (hbytes : N' * 4 ≤ 536870912) (hcells : cells + 1 ≤ R.cells) (hslots : slots + N' ≤ R.slots) (hdg : decode cc pc = .ok (.anewarray index, 3))
    (kk : ∀ (q : Nat) (H1 : Heap), va_P D cl (ws ++ [(q, .inl (cA, N', .inr (.inr (.inr (.inr (fun _ => none))))))]) H1 → va_D A (ws ++ [(q, .inl (cA, N', .inr (.inr (.inr (.inr (fun _ => none))))))]) → va_S A H0 H1 locs →
      W p l e R s m args below meth c H1 locs (cells + 1) (slots + N') Q (F0 m (pc + 3) ls (.ref q :: rest))) : W p l e R s m args below meth c H locs cells slots Q (F0 m pc ls (.int n :: rest)) := by
  refine va_newq hexec hb hown hclink hover hK hP hD hS hA hn hN hbytes hcells hslots hdg (fun q cB H1 hK1 hP1 hD1 hS1 => ?_)
  have hc : cB = cA := va_RA_eq (hK1.2 tys.length (cB, .object C) (by simp)).2 (hK.2 t0 _ ht).2
  subst hc
  exact kk q H1 hP1 hD1 hS1
end NEWU
