abbrev wA (c : Cond) : List Cond := c :: wsL_law
theorem wsL_good : wsL_law.all goodWord = true := by decide +kernel
theorem gWl {ws : List Cond} (h : ∀ w ∈ ws, w ∈ wsL_law) : GoodIn wsL_law ws := fun w hw => ⟨h w hw, good_of_word (List.all_eq_true.mp wsL_good w (h w hw))⟩
def zrm (d : Nat) : Room := { frames := d, cells := 0, slots := 0, locals := 60 * d }
/-- a String, a static row: cells outside the world -/
def zStr (a : Nat) (A : Nat → Prop) (U : State) (H : Heap) : Prop := ∃ (n v : Nat) (g : Nat → Int32), n ≤ 6 ∧ va_O "java/lang/String" a A U H ∧ va_OF "java/lang/String" "coder" "B" (.int 0) a A U H ∧ va_OF "java/lang/String" "value" "[B" (.ref v) a A U H ∧ va_T .byte v n (fun j => .int (g j)) A U H
def zSL : List (Nat × String) := [(113, "at"), (115, "to"), (121, "errand"), (123, "in"), (132, "places"), (133, "hours"), (134, "sight"), (136, "pace"), (138, "fine"), (140, "ring"), (142, "odds"), (56, "wall"), (65, "person"), (73, "city")]
def zSt (ks ad : List Nat) (A : Nat → Prop) (U : State) (H : Heap) : Prop :=
  (∀ i a : Nat, ks[i]? = some 54 → ad[i]? = some a → zStr a A U H) ∧
  (∀ q ∈ zSL, ∃ a i : Nat, vk_R RX4 q.1 q.2 a U ∧ ks[i]? = some 54 ∧ ad[i]? = some a) ∧
  (∀ i a k : Nat, 55 ≤ k → ks[i]? = some k → ad[i]? = some a → va_T .int a (zSR k).length (fun j => .int (Int32.ofInt ((zSR k).getD j 0))) A U H) ∧
  (∃ a i : Nat, va_Z RX5 "LOWEST" "[I" (.ref a) A U H ∧ ks[i]? = some 55 ∧ ad[i]? = some a) ∧
  (∃ a i : Nat, va_Z RX5 "HIGHEST" "[I" (.ref a) A U H ∧ ks[i]? = some 56 ∧ ad[i]? = some a) ∧
  va_Z "java/lang/String" "COMPACT_STRINGS" "Z" (.int 1) A U H ∧ va_Zq RJ3 "SIOOBE_FORMATTER" "Ljava/util/function/BiFunction;" A U H
theorem zStr.kept {a : Nat} {A : Nat → Prop} {U : State} {H H1 : Heap} (h : zStr a A U H) (hq : ∀ a : Nat, a < H.size → ¬ A a → H1[a]? = H[a]?) : zStr a A U H1 := by
  obtain ⟨n, v, g, h1, h2, h3, h4, h5⟩ := h
  exact ⟨n, v, g, h1, h2.kept hq, h3.kept hq, h4.kept hq, h5.kept hq⟩
theorem zStr.moved {a : Nat} {A : Nat → Prop} {u U : State} {H : Heap} (hvm : u.vm.Alike U.vm) (h : zStr a A u H) : zStr a A U H := by
  obtain ⟨n, v, g, h1, h2, h3, h4, h5⟩ := h
  exact ⟨n, v, g, h1, va_O.moved hvm h2, va_OF.moved hvm h3, va_OF.moved hvm h4, va_T.moved hvm h5⟩
theorem zStr.narrow {a : Nat} {A B : Nat → Prop} {U : State} {H : Heap} (h : zStr a A U H) (hAB : ∀ q, B q → A q) : zStr a B U H := by
  obtain ⟨n, v, g, h1, h2, h3, h4, h5⟩ := h
  exact ⟨n, v, g, h1, h2.narrow hAB, h3.narrow hAB, h4.narrow hAB, h5.narrow hAB⟩
theorem zSt.kept {ks ad : List Nat} {A : Nat → Prop} {U : State} {H H1 : Heap} (h : zSt ks ad A U H) (hq : ∀ a : Nat, a < H.size → ¬ A a → H1[a]? = H[a]?) : zSt ks ad A U H1 := by
  obtain ⟨h1, h2, h3, ⟨a, i, h4, h4'⟩, ⟨b, j, h5, h5'⟩, h6, h7⟩ := h
  exact ⟨fun i a e1 e2 => (h1 i a e1 e2).kept hq, h2, fun i a k e0 e1 e2 => (h3 i a k e0 e1 e2).kept hq, ⟨a, i, h4.kept hq, h4'⟩, ⟨b, j, h5.kept hq, h5'⟩, h6.kept hq, h7.kept hq⟩
theorem zSt.narrow {ks ad : List Nat} {A B : Nat → Prop} {U : State} {H : Heap} (h : zSt ks ad A U H) (hAB : ∀ q, B q → A q) : zSt ks ad B U H := by
  obtain ⟨h1, h2, h3, ⟨a, i, h4, h4'⟩, ⟨b, j, h5, h5'⟩, h6, h7⟩ := h
  exact ⟨fun i a e1 e2 => (h1 i a e1 e2).narrow hAB, h2, fun i a k e0 e1 e2 => (h3 i a k e0 e1 e2).narrow hAB, ⟨a, i, h4.narrow hAB, h4'⟩, ⟨b, j, h5.narrow hAB, h5'⟩, h6.narrow hAB, h7.narrow hAB⟩
theorem zSt.warm {ks ad : List Nat} {A : Nat → Prop} {s U : State} {H : Heap} (hW : s.WarmedH U.vm) (h : zSt ks ad A s H) : zSt ks ad A U H := by
  obtain ⟨h1, h2, h3, ⟨a, i, h4, h4'⟩, ⟨b, j, h5, h5'⟩, h6, h7⟩ := h
  refine ⟨fun i a e1 e2 => (h1 i a e1 e2).moved hW.alike, fun q hq => ?_, fun i a k e0 e1 e2 => va_T.moved hW.alike (h3 i a k e0 e1 e2), ⟨a, i, va_Z.moved hW.alike h4, h4'⟩, ⟨b, j, va_Z.moved hW.alike h5, h5'⟩, va_Z.moved hW.alike h6, va_Zq.moved hW.alike h7⟩
  obtain ⟨a, i, g1, g2⟩ := h2 q hq
  exact ⟨a, i, g1.warm hW, g2⟩
theorem zSt.same {ks ad : List Nat} {A : Nat → Prop} {u U : State} {H : Heap} (hv : U.vm = u.vm) (h : zSt ks ad A u H) : zSt ks ad A U H := by
  have hva : u.vm.Alike U.vm := by rw [hv]; exact Vm.Alike.refl u.vm
  obtain ⟨h1, h2, h3, ⟨a, i, h4, h4'⟩, ⟨b, j, h5, h5'⟩, h6, h7⟩ := h
  refine ⟨fun i a e1 e2 => (h1 i a e1 e2).moved hva, fun q hq => ?_, fun i a k e0 e1 e2 => va_T.moved hva (h3 i a k e0 e1 e2), ⟨a, i, va_Z.moved hva h4, h4'⟩, ⟨b, j, va_Z.moved hva h5, h5'⟩, va_Z.moved hva h6, va_Zq.moved hva h7⟩
  obtain ⟨a, i, g1, g2⟩ := h2 q hq
  exact ⟨a, i, vk_R.same hv g1, g2⟩
/-- beside a method's world -/
def zSa (ks ad : List Nat) (A : Nat → Prop) (s : State) : Prop := ∃ b : Nat, b ≤ s.heap.size ∧ (∀ q, A q → b ≤ q) ∧ zSt ks ad (fun q => b ≤ q) s s.heap
def zSx (ks ad : List Nat) (ws : va_W) (U : State) : Prop := ∃ b : Nat, b ≤ U.heap.size ∧ (∀ (k : Nat) (q : Nat × va_E), ws[k]? = some q → b ≤ q.1) ∧ zSt ks ad (fun q => b ≤ q) U U.heap
theorem zSa.st {ks ad : List Nat} {A : Nat → Prop} {s : State} (h : zSa ks ad A s) : zSt ks ad A s s.heap := by
  obtain ⟨b, h1, h2, h3⟩ := h
  exact h3.narrow h2
theorem zSx.sa {ks ad : List Nat} {ws : va_W} {s : State} (h : zSx ks ad ws s) : zSa ks ad (va_A ws s.heap.size) s := by
  obtain ⟨b, h1, h2, h3⟩ := h
  refine ⟨b, h1, fun q hq => ?_, h3⟩
  rcases hq with ⟨k, e, hk⟩ | hq
  · exact h2 k _ hk
  · exact Nat.le_trans h1 hq
def pZ (D : va_G) (cI cZ cB cJ cR : ClassId) (ks ad : List Nat) (ws : va_W) (sz : Nat) (U : State) : Prop := pQ D cI cZ cB cJ cR ws sz U ∧ zSx ks ad ws U
theorem fbZ {av : List Value} {D : va_G} {cI cZ cB cJ cR : ClassId} {ks ad : List Nat} {cs : va_W} {sz : Nat} : FrameBlind (va_Pc av (pZ D cI cZ cB cJ cR ks ad cs sz)) := by
  intro _ _ _ _ q
  obtain ⟨q1, ⟨q2, q3, q4, q5⟩, b, q6, q7, q8⟩ := q
  exact ⟨q1, ⟨q2, q3, q4.calling, q5⟩, b, q6, q7, zSt.same rfl q8⟩
theorem pZ_at {av : List Value} {D : va_G} {cI cZ cB cJ cR : ClassId} {ks ad : List Nat} {cs : va_W} {A : Nat → Prop} {s : State} {H : Heap} {locs : List Loc} (hP : va_P D vwCl cs H) (hk : kB D cI cZ cB cJ cR s) (hD : va_D A cs) (hSa : zSa ks ad A s) (hS : va_S A s.heap H locs) : ∀ U : State, U.heap = H → s.WarmedH U.vm → va_Pc av (pZ D cI cZ cB cJ cR ks ad cs H.size) av.toArray U := by
  intro U hU hW
  obtain ⟨b, h1, h2, h3⟩ := hSa
  refine ⟨rfl, (pQ_at (av := av) hP hk hD U hU hW).2, b, by rw [hU]; exact Nat.le_trans h1 hS.1, fun k q hq => h2 _ (hD.2 k q hq), ?_⟩
  rw [hU]
  exact (h3.warm hW).kept (fun a ha hn => hS.2.1 a ha (fun h9 => hn (h2 a h9)))
/-- what a call gives back -/
def zPp (cI cZ cB cJ cR : ClassId) (KS : List zk) (ks ad : List Nat) (Psi : va_W → Prop) (con : zcon) (As : List Value) (ws : va_W) (r : List Value) (ws1 : va_W) : Prop :=
  zpost ks ad con As ws ws1 r ∧ zconf KS ks ad RX0 (tyA cI cZ cB cJ cR) ws1 ∧ Psi ws1 ∧ zkeep ks con.2.2.2.2.2.1 ws ws1
def zBw (D : va_G) (A : Nat → Prop) (ws1 : va_W) (t : State) : Prop := va_P D vwCl ws1 t.heap ∧ va_D A ws1
def zQ (tag : Nat) (D : va_G) (cI cZ cB cJ cR : ClassId) (KS : List zk) (ks ad : List Nat) (Psi : va_W → Prop) (con : zcon) (As : List Value) (ws : va_W) (A : Nat → Prop) : Array Value → State → Outcome → State → Prop := match tag with
  | 0 => va_Qi (fun (r : Int32) (ws1 : va_W) => zPp cI cZ cB cJ cR KS ks ad Psi con As ws [.int r] ws1) (zBw D A) A
  | 1 => va_Ql (fun (r : Int64) (ws1 : va_W) => zPp cI cZ cB cJ cR KS ks ad Psi con As ws [.long r] ws1) (zBw D A) A
  | 2 => va_Qr (fun (_ : va_W) => True) (fun (ws1 : va_W) (a : Nat) (t : State) => zPp cI cZ cB cJ cR KS ks ad Psi con As ws [.ref a] ws1 ∧ zBw D A ws1 t) A
  | _ => va_Qv (fun (ws1 : va_W) => zPp cI cZ cB cJ cR KS ks ad Psi con As ws [] ws1) (zBw D A) A
def zMet (l : Launch) (D : va_G) (cI cZ cB cJ cR : ClassId) (KS : List zk) (ks ad : List Nat) (Psi : va_W → Prop) (y : MethodName) (cw : Cond) (d : Nat) (con : zcon) : Prop :=
  ∀ (ws : va_W) (As : List Value) (sz : Nat), zconf KS ks ad RX0 (tyA cI cZ cB cJ cR) ws → Psi ws → zF2 (zok ks ad) con.1 As → zfs (0 :: As.map znum ++ con.2.2.1.map (fun z => zfv ks ws z.1 z.2)) con.2.2.2.2.2.2 →
    Met l y (wA cw) (zrm d) (va_Pc As (pZ D cI cZ cB cJ cR ks ad ws sz)) (zQ (zrt con.2.1) D cI cZ cB cJ cR KS ks ad Psi con As ws (va_A ws sz)) 0 0 (va_A ws sz)
/-- what stands around a method -/
def zctx (p : Program) (R : Room) (s : State) (m : MethodId) (args : Array Value) (c : Code) (cells slots : Nat) (cc : ByteArray) (nL : Nat) (own : String) (D : va_G) (cI cZ cB cJ cR : ClassId) (A : Nat → Prop) (d : Nat) (ks ad : List Nat) : Prop :=
  CallFix p m c cc nL s args wsL_law own ∧ kB D cI cZ cB cJ cR s ∧ (∀ q : Nat, s.heap.size ≤ q → A q) ∧ d ≤ R.frames ∧ 60 * d ≤ R.locals ∧ (cells ≤ R.cells ∧ slots ≤ R.slots) ∧ zSa ks ad A s
section GL
variable {p : Program} {l : Launch} {e : Env} {R : Room} {s : State} {m : MethodId} {args : Array Value} {below : List Frame} {meth : Method} {c : Code} {cells slots : Nat} {Q : State → Prop}
variable {D : va_G} {cI cZ cB cJ cR : ClassId} {KS : List zk} {A : Nat → Prop} {Psi : va_W → Prop} {cc : ByteArray} {ks ad : List Nat} {nL d : Nat} {own : String}
theorem zcont {con : zcon} {As : List Value} {ws : va_W} {H : Heap} {locs : List Loc} {pc : Nat} {ls : Array Slot} {st0 rest : List Value} {a : Array Value} (hA : ∀ q : Nat, s.heap.size ≤ q → A q) (hD : va_D A ws) (hS : va_S A s.heap H locs)
    (hr : va_Run p l e R s m args below meth c H locs cells slots 0 0 (F0 m pc ls st0) rest (zQ (zrt con.2.1) D cI cZ cB cJ cR KS ks ad Psi con As ws (va_A ws H.size) a) (va_A ws H.size))
    (kk : ∀ (H1 : Heap) (locs1 : List Loc) (ws1 : va_W) (r : List Value), va_P D vwCl ws1 H1 → va_D A ws1 → va_S A s.heap H1 locs1 → zconf KS ks ad RX0 (tyA cI cZ cB cJ cR) ws1 → Psi ws1 → zkeep ks con.2.2.2.2.2.1 ws ws1 → zpost ks ad con As ws ws1 r → W p l e R s m args below meth c H1 locs1 cells slots Q (F0 m (pc + 3) ls (r ++ rest))) :
    W p l e R s m args below meth c H locs cells slots Q (F0 m pc ls st0) := by
  have hF : ∀ q, va_A ws H.size q → A q := by
    intro q h
    rcases h with ⟨k, e, h⟩ | h
    · exact hD.2 k _ h
    · exact hA q (Nat.le_trans hS.1 h)
  have hW : ∀ ws1 : va_W, va_D (va_A ws H.size) ws1 → va_D A ws1 := fun ws1 h => ⟨h.1, fun k q hk => hF _ (h.2 k q hk)⟩
  generalize zrt con.2.1 = tg at hr
  match tg, hr with
  | 0, hr => exact va_calli (a := a) (post := fun (r : Int32) (ws1 : va_W) => zPp cI cZ cB cJ cR KS ks ad Psi con As ws [.int r] ws1) (B := zBw D (va_A ws H.size)) (A1 := va_A ws H.size) hr hS (fun q _ h => hF q h) hF (fun r ws1 t H1 locs1 ht hvm hp hB _ _ hS1 => kk H1 locs1 ws1 [.int r] (by rw [← ht]; exact hB.1) (hW _ hB.2) hS1 hp.2.1 hp.2.2.1 hp.2.2.2 hp.1)
  | 1, hr => exact va_calll (a := a) (post := fun (r : Int64) (ws1 : va_W) => zPp cI cZ cB cJ cR KS ks ad Psi con As ws [.long r] ws1) (B := zBw D (va_A ws H.size)) (A1 := va_A ws H.size) hr hS (fun q _ h => hF q h) hF (fun r ws1 t H1 locs1 ht hvm hp hB _ _ hS1 => kk H1 locs1 ws1 [.long r] (by rw [← ht]; exact hB.1) (hW _ hB.2) hS1 hp.2.1 hp.2.2.1 hp.2.2.2 hp.1)
  | 2, hr => exact va_callr (a := a) (post := fun (_ : va_W) => True) (B := fun (ws1 : va_W) (a : Nat) (t : State) => zPp cI cZ cB cJ cR KS ks ad Psi con As ws [.ref a] ws1 ∧ zBw D (va_A ws H.size) ws1 t) (A1 := va_A ws H.size) hr hS (fun q _ h => hF q h) hF (fun ws1 ra t H1 locs1 ht hvm _ hB _ _ hS1 => kk H1 locs1 ws1 [.ref ra] (by rw [← ht]; exact hB.2.1) (hW _ hB.2.2) hS1 hB.1.2.1 hB.1.2.2.1 hB.1.2.2.2 hB.1.1)
  | _ + 3, hr => exact va_callv (a := a) (post := fun (ws1 : va_W) => zPp cI cZ cB cJ cR KS ks ad Psi con As ws [] ws1) (B := zBw D (va_A ws H.size)) (A1 := va_A ws H.size) hr hS (fun q _ h => hF q h) hF (fun ws1 t H1 locs1 ht hvm hp hB _ _ hS1 => kk H1 locs1 ws1 [] (by rw [← ht]; exact hB.1) (hW _ hB.2) hS1 hp.2.1 hp.2.2.1 hp.2.2.2 hp.1)
theorem zrecv {kd : Nat} {dd : Nat × List zt} {lo hi : Int} {ts : List zt} {As : List Value} {ws : va_W} {H : Heap} {q : vw_C} (hK : va_K D vwCl (tyA cI cZ cB cJ cR) s) (hP : va_P D vwCl ws H) (hc : zconf KS ks ad RX0 (tyA cI cZ cB cJ cR) ws) (hd : KS[kd]? = some (.inr dd)) (hq : vwCl[dd.1]? = some q) (hok : zF2 (zok ks ad) ((kd + 2, lo, hi) :: ts) As) : ∃ (b : Nat) (As' : List Value), As = .ref b :: As' ∧ As'.length = ts.length ∧ ∃ cell : Cell, H[b]? = some cell ∧ cell.vm.isStatics = false ∧ s.vm.findClass q.1 = some cell.cls := by
  cases As with
  | nil => exact hok.elim
  | cons w As' =>
    obtain ⟨⟨b, i, h1, h2, h3⟩, h4⟩ := hok
    obtain ⟨e, h5, h6⟩ := zconf_at hc h2 h3 hd
    match e, h6 with
    | .inr (ci, fs), ⟨e1, e2⟩ =>
      dsimp only at e1
      subst e1
      exact ⟨b, As', by rw [h1], (zF2_len h4).symm, va_recv hK hP hq h5⟩
    | .inl _, h6 => exact h6.elim
theorem zq_V {y : MethodName} {bytes : ByteArray} {maxL : Nat} {ret : Option FieldType} {d' n idx kd : Nat} {C : String} {lo hi : Int} {ts : List zt} {con : zcon} {dd : Nat × List zt} {q : vw_C} (X : zctx p R s m args c cells slots cc nL own D cI cZ cB cJ cR A d ks ad) (hM : zMet l D cI cZ cB cJ cR KS ks ad Psi y (.code y bytes maxL ret) d' con) (hlev : d' + 1 ≤ d) (hmx : maxL ≤ 40)
    (hgo : ∀ w ∈ wsV own idx C y (wA (.code y bytes maxL ret)), w ∈ wsL_law) (hdd : y.cls = C ∧ y.cls ≠ "java/lang/invoke/MethodHandle" ∧ y.cls ≠ "java/lang/invoke/VarHandle" ∧ (parseMethodDescriptor y.desc).map (fun d => d.parameters.length) = some n) (hcon : con.1 = (kd + 2, lo, hi) :: ts) (hts : ts.length = n) (hd : KS[kd]? = some (.inr dd)) (hq : vwCl[dd.1]? = some q) (hC : q.1 = C) :
    zCallP p l e R s m args below meth c cells slots Q cc D vwCl A (tyA cI cZ cB cJ cR) KS ks ad RX0 Psi nL (0, idx, con) := by
  intro pc ls rest H locs ws As hP hD hS hc hPsi hok hroom hls hpre hdg kk
  obtain ⟨X1, hk, hA, x1, x2, ⟨x3, x4⟩, hSa⟩ := X
  have hok2 := hok
  dsimp only at hok2
  rw [hcon] at hok2
  obtain ⟨b, As', rfl, hl, hrc⟩ := zrecv hk.1 hP hc hd hq hok2
  rw [hC] at hrc
  have hst : (Value.ref b :: As').reverse ++ rest = As'.reverse ++ .ref b :: rest := by rw [List.reverse_cons, List.append_assoc]; rfl
  rw [hst]
  refine zcont hA hD hS (va_runV (As := As') X1 (hM ws (.ref b :: As') H.size hc hPsi hok hpre) (cwV n X1.2.2.2.2 (gWl hgo) rfl rfl rfl ?_ ?_) ⟨fbZ, hrc, pZ_at hP hk hD hSa hS⟩ rfl (hl.trans hts) hls rfl (lv_room hroom) hdg ⟨x3, x4⟩) kk
  · exact hdd
  · exact ⟨by show d' + 1 ≤ R.frames; omega, by show 8 + (maxL + 11) + 60 * d' ≤ R.locals; omega⟩
theorem zq_N {y : MethodName} {bytes : ByteArray} {maxL : Nat} {ret : Option FieldType} {d' n idx kd : Nat} {C host : String} {lo hi : Int} {ts : List zt} {con : zcon} {dd : Nat × List zt} {q : vw_C} (X : zctx p R s m args c cells slots cc nL own D cI cZ cB cJ cR A d ks ad) (hM : zMet l D cI cZ cB cJ cR KS ks ad Psi y (.code y bytes maxL ret) d' con) (hlev : d' + 1 ≤ d) (hmx : maxL ≤ 40)
    (hnw : (.methodLinkNest own idx y host : Cond) ∈ zN) (hcw : (.code y bytes maxL ret : Cond) ∈ wsL_law) (hini : (.initialized y.cls : Cond) ∈ wsL_law) (him : (.instanceMethod y : Cond) ∈ wsL_law) (hse : (.selects C y y : Cond) ∈ wsL_law) (hdd : y.cls ≠ "java/lang/invoke/MethodHandle" ∧ y.cls ≠ "java/lang/invoke/VarHandle" ∧ (parseMethodDescriptor y.desc).map (fun d => d.parameters.length) = some n) (hcon : con.1 = (kd + 2, lo, hi) :: ts) (hts : ts.length = n) (hd : KS[kd]? = some (.inr dd)) (hq : vwCl[dd.1]? = some q) (hC : q.1 = C) :
    zCallP p l e R s m args below meth c cells slots Q cc D vwCl A (tyA cI cZ cB cJ cR) KS ks ad RX0 Psi nL (0, idx, con) := by
  intro pc ls rest H locs ws As hP hD hS hc hPsi hok hroom hls hpre hdg kk
  obtain ⟨X1, hk, hA, x1, x2, ⟨x3, x4⟩, hSa⟩ := X
  have hok2 := hok
  dsimp only at hok2
  rw [hcon] at hok2
  obtain ⟨b, As', rfl, hl, hrc⟩ := zrecv hk.1 hP hc hd hq hok2
  rw [hC] at hrc
  have hst : (Value.ref b :: As').reverse ++ rest = As'.reverse ++ .ref b :: rest := by rw [List.reverse_cons, List.append_assoc]; rfl
  rw [hst]
  refine zcont hA hD hS (va_runVN (As := As') X1 (hM ws (.ref b :: As') H.size hc hPsi hok hpre) ⟨va_cnB n X1.2.2.2.2 (gWl (List.forall_mem_cons.mpr ⟨hcw, fun _ h => h⟩)) rfl rfl rfl (hk.2.1 _ hnw) (X1.2.2.2.2 _ hini) hdd ?_, X1.2.2.2.2 _ him, X1.2.2.2.2 _ hse⟩ ⟨fbZ, hrc, pZ_at hP hk hD hSa hS⟩ rfl (hl.trans hts) hls rfl (lv_room hroom) hdg ⟨x3, x4⟩) kk
  exact ⟨by show d' + 1 ≤ R.frames; omega, by show 8 + (maxL + 11) + 60 * d' ≤ R.locals; omega⟩
theorem zq_S {y : MethodName} {bytes : ByteArray} {maxL : Nat} {ret : Option FieldType} {d' n idx : Nat} {con : zcon} (X : zctx p R s m args c cells slots cc nL own D cI cZ cB cJ cR A d ks ad) (hM : zMet l D cI cZ cB cJ cR KS ks ad Psi y (.code y bytes maxL ret) d' con) (hlev : d' + 1 ≤ d) (hmx : maxL ≤ 40)
    (hgo : ∀ w ∈ wsS own idx y (wA (.code y bytes maxL ret)), w ∈ wsL_law) (hdd : y.cls = own ∧ y.cls ≠ "java/lang/invoke/MethodHandle" ∧ y.cls ≠ "java/lang/invoke/VarHandle" ∧ (parseMethodDescriptor y.desc).map (fun d => d.parameters.length) = some n) (hts : con.1.length = n) :
    zCallP p l e R s m args below meth c cells slots Q cc D vwCl A (tyA cI cZ cB cJ cR) KS ks ad RX0 Psi nL (1, idx, con) := by
  intro pc ls rest H locs ws As hP hD hS hc hPsi hok hroom hls hpre hdg kk
  obtain ⟨X1, hk, hA, x1, x2, ⟨x3, x4⟩, hSa⟩ := X
  have hl := (zF2_len hok).symm
  refine zcont hA hD hS (va_runS (As := As) X1 (hM ws As H.size hc hPsi hok hpre) (cwS n X1.2.2.2.2 (gWl hgo) rfl rfl rfl hdd ?_) ⟨fbZ, pZ_at hP hk hD hSa hS⟩ rfl (hl.trans hts) hls rfl (lv_room hroom) hdg ⟨x3, x4⟩) kk
  exact ⟨by show d' + 1 ≤ R.frames; omega, by show 8 + (maxL + 11) + 60 * d' ≤ R.locals; omega⟩
theorem zq_SN {y : MethodName} {bytes : ByteArray} {maxL : Nat} {ret : Option FieldType} {d' n idx : Nat} {host : String} {con : zcon} (X : zctx p R s m args c cells slots cc nL own D cI cZ cB cJ cR A d ks ad) (hM : zMet l D cI cZ cB cJ cR KS ks ad Psi y (.code y bytes maxL ret) d' con) (hlev : d' + 1 ≤ d) (hmx : maxL ≤ 40)
    (hnw : (.methodLinkNest own idx y host : Cond) ∈ zN) (hcw : (.code y bytes maxL ret : Cond) ∈ wsL_law) (hini : (.initialized y.cls : Cond) ∈ wsL_law) (hstc : (.static y : Cond) ∈ wsL_law) (hdd : y.cls ≠ "java/lang/invoke/MethodHandle" ∧ y.cls ≠ "java/lang/invoke/VarHandle" ∧ (parseMethodDescriptor y.desc).map (fun d => d.parameters.length) = some n) (hts : con.1.length = n) :
    zCallP p l e R s m args below meth c cells slots Q cc D vwCl A (tyA cI cZ cB cJ cR) KS ks ad RX0 Psi nL (1, idx, con) := by
  intro pc ls rest H locs ws As hP hD hS hc hPsi hok hroom hls hpre hdg kk
  obtain ⟨X1, hk, hA, x1, x2, ⟨x3, x4⟩, hSa⟩ := X
  have hl := (zF2_len hok).symm
  refine zcont hA hD hS (va_runSN (As := As) X1 (hM ws As H.size hc hPsi hok hpre) ⟨va_cnB n X1.2.2.2.2 (gWl (List.forall_mem_cons.mpr ⟨hcw, fun _ h => h⟩)) rfl rfl rfl (hk.2.1 _ hnw) (X1.2.2.2.2 _ hini) hdd ?_, X1.2.2.2.2 _ hstc, trivial⟩ ⟨fbZ, pZ_at hP hk hD hSa hS⟩ rfl (hl.trans hts) hls rfl (lv_room hroom) hdg ⟨x3, x4⟩) kk
  exact ⟨by show d' + 1 ≤ R.frames; omega, by show 8 + (maxL + 11) + 60 * d' ≤ R.locals; omega⟩
theorem zq_T {y : MethodName} {bytes : ByteArray} {maxL : Nat} {ret : Option FieldType} {d' n idx : Nat} {con : zcon} (X : zctx p R s m args c cells slots cc nL own D cI cZ cB cJ cR A d ks ad) (hM : zMet l D cI cZ cB cJ cR KS ks ad Psi y (.code y bytes maxL ret) d' con) (hlev : d' + 1 ≤ d) (hmx : maxL ≤ 40)
    (hgo : ∀ w ∈ va_wsS own idx y (wA (.code y bytes maxL ret)), w ∈ wsL_law) (hdd : y.cls ≠ "java/lang/invoke/MethodHandle" ∧ y.cls ≠ "java/lang/invoke/VarHandle" ∧ (parseMethodDescriptor y.desc).map (fun d => d.parameters.length) = some n) (hts : con.1.length = n) :
    zCallP p l e R s m args below meth c cells slots Q cc D vwCl A (tyA cI cZ cB cJ cR) KS ks ad RX0 Psi nL (1, idx, con) := by
  intro pc ls rest H locs ws As hP hD hS hc hPsi hok hroom hls hpre hdg kk
  obtain ⟨X1, hk, hA, x1, x2, ⟨x3, x4⟩, hSa⟩ := X
  have hl := (zF2_len hok).symm
  refine zcont hA hD hS (va_runS (As := As) X1 (hM ws As H.size hc hPsi hok hpre) (va_cwS n X1.2.2.2.2 (gWl hgo) rfl rfl rfl hdd ?_) ⟨fbZ, pZ_at hP hk hD hSa hS⟩ rfl (hl.trans hts) hls rfl (lv_room hroom) hdg ⟨x3, x4⟩) kk
  exact ⟨by show d' + 1 ≤ R.frames; omega, by show 8 + (maxL + 11) + 60 * d' ≤ R.locals; omega⟩
theorem zq_max {idx : Nat} {a1 a2 b1 b2 r1 r2 : Int} (X : zctx p R s m args c cells slots cc nL own D cI cZ cB cJ cR A d ks ad) (hlev : 1 ≤ d) (h1 : (.methodLink own idx Lib.Math.max.name : Cond) ∈ wsL_law) (h2 : (.static Lib.Math.max.name : Cond) ∈ wsL_law) (h3 : (.initialized "java/lang/Math" : Cond) ∈ wsL_law) (h4 : (.code Lib.Math.max.name Lib.Math.max.code 2 (some .int) : Cond) ∈ wsL_law) (hr1 : r1 ≤ max a1 b1) (hr2 : max a2 b2 ≤ r2) :
    zCallP p l e R s m args below meth c cells slots Q cc D vwCl A (tyA cI cZ cB cJ cR) KS ks ad RX0 Psi nL (1, idx, ([(0, a1, a2), (0, b1, b2)], some (0, r1, r2), [], [], [], [], [])) := by
  intro pc ls rest H locs ws As hP hD hS hc hPsi hok hroom hls hpre hdg kk
  obtain ⟨X1, hk, hA, x1, x2, ⟨x3, x4⟩, hSa⟩ := X
  obtain ⟨v1, As1, rfl, ⟨x, rfl, xl, xh⟩, hok1⟩ := zst1 hok
  obtain ⟨v2, As2, rfl, ⟨y, rfl, yl, yh⟩, hok2⟩ := zst1 hok1
  obtain rfl := zst0 hok2
  dsimp only at xl xh yl yh
  refine va_mmax (rest := rest) X1.1 X1.2.1 (X1.2.2.1.trans hls.symm) X1.2.2.2.1 (X1.2.2.2.2 _ h1) (X1.2.2.2.2 _ h2) (X1.2.2.2.2 _ h3) (X1.2.2.2.2 _ h4) (by omega) (by omega) x3 x4 hdg ?_
  refine kk H locs ws [.int (if x < y then y else x)] hP hD hS hc hPsi (fun _ _ _ => rfl) ⟨⟨⟨_, rfl, ?_⟩, trivial⟩, fun _ h => (by cases h), fun _ h => (by cases h)⟩
  dsimp only
  split <;> rename_i hlt <;> rw [Int32.lt_iff_toInt_lt] at hlt <;> constructor <;> omega
theorem zq_min {idx : Nat} {a1 a2 b1 b2 r1 r2 : Int} (X : zctx p R s m args c cells slots cc nL own D cI cZ cB cJ cR A d ks ad) (hlev : 1 ≤ d) (h1 : (.methodLink own idx Lib.Math.min.name : Cond) ∈ wsL_law) (h2 : (.static Lib.Math.min.name : Cond) ∈ wsL_law) (h3 : (.initialized "java/lang/Math" : Cond) ∈ wsL_law) (h4 : (.code Lib.Math.min.name Lib.Math.min.code 2 (some .int) : Cond) ∈ wsL_law) (hr1 : r1 ≤ min a1 b1) (hr2 : min a2 b2 ≤ r2) :
    zCallP p l e R s m args below meth c cells slots Q cc D vwCl A (tyA cI cZ cB cJ cR) KS ks ad RX0 Psi nL (1, idx, ([(0, a1, a2), (0, b1, b2)], some (0, r1, r2), [], [], [], [], [])) := by
  intro pc ls rest H locs ws As hP hD hS hc hPsi hok hroom hls hpre hdg kk
  obtain ⟨X1, hk, hA, x1, x2, ⟨x3, x4⟩, hSa⟩ := X
  obtain ⟨v1, As1, rfl, ⟨x, rfl, xl, xh⟩, hok1⟩ := zst1 hok
  obtain ⟨v2, As2, rfl, ⟨y, rfl, yl, yh⟩, hok2⟩ := zst1 hok1
  obtain rfl := zst0 hok2
  dsimp only at xl xh yl yh
  refine va_mmin (rest := rest) X1.1 X1.2.1 (X1.2.2.1.trans hls.symm) X1.2.2.2.1 (X1.2.2.2.2 _ h1) (X1.2.2.2.2 _ h2) (X1.2.2.2.2 _ h3) (X1.2.2.2.2 _ h4) (by omega) (by omega) x3 x4 hdg ?_
  refine kk H locs ws [.int (if y < x then y else x)] hP hD hS hc hPsi (fun _ _ _ => rfl) ⟨⟨⟨_, rfl, ?_⟩, trivial⟩, fun _ h => (by cases h), fun _ h => (by cases h)⟩
  dsimp only
  split <;> rename_i hlt <;> rw [Int32.lt_iff_toInt_lt] at hlt <;> constructor <;> omega
theorem zq_abs {idx : Nat} {a1 a2 r1 r2 : Int} (X : zctx p R s m args c cells slots cc nL own D cI cZ cB cJ cR A d ks ad) (hlev : 1 ≤ d) (h1 : (.methodLink own idx Lib.Math.abs.name : Cond) ∈ wsL_law) (h2 : (.static Lib.Math.abs.name : Cond) ∈ wsL_law) (h3 : (.initialized "java/lang/Math" : Cond) ∈ wsL_law) (h4 : (.code Lib.Math.abs.name Lib.Math.abs.code 1 (some .int) : Cond) ∈ wsL_law) (hr : (-2147483648 < a1 ∧ r1 ≤ 0 ∧ a2 ≤ r2 ∧ -a1 ≤ r2) ∨ (r1 ≤ -2147483648 ∧ 2147483647 ≤ r2)) :
    zCallP p l e R s m args below meth c cells slots Q cc D vwCl A (tyA cI cZ cB cJ cR) KS ks ad RX0 Psi nL (1, idx, ([(0, a1, a2)], some (0, r1, r2), [], [], [], [], [])) := by
  intro pc ls rest H locs ws As hP hD hS hc hPsi hok hroom hls hpre hdg kk
  obtain ⟨X1, hk, hA, x1, x2, ⟨x3, x4⟩, hSa⟩ := X
  obtain ⟨v1, As1, rfl, ⟨x, rfl, xl, xh⟩, hok1⟩ := zst1 hok
  obtain rfl := zst0 hok1
  dsimp only at xl xh
  refine va_mabs (rest := rest) X1.1 X1.2.1 (X1.2.2.1.trans hls.symm) X1.2.2.2.1 (X1.2.2.2.2 _ h1) (X1.2.2.2.2 _ h2) (X1.2.2.2.2 _ h3) (X1.2.2.2.2 _ h4) (by omega) (by omega) x3 x4 hdg ?_
  refine kk H locs ws [.int (if 0 ≤ x then x else 0 - x)] hP hD hS hc hPsi (fun _ _ _ => rfl) ⟨⟨⟨_, rfl, ?_⟩, trivial⟩, fun _ h => (by cases h), fun _ h => (by cases h)⟩
  dsimp only
  have hb := bT x
  rcases hr with hr | hr
  case inr => exact ⟨Int.le_trans hr.1 (bT _).1, Int.le_trans (bT _).2 hr.2⟩
  split <;> rename_i hlt <;> rw [Int32.le_iff_toInt_le, Int32.toInt_zero] at hlt
  · constructor <;> omega
  · rw [subI _ _ (by rw [Int32.toInt_zero]; constructor <;> omega), Int32.toInt_zero]
    constructor <;> omega
theorem zq_copy {idx k0 k1 n0 n1 : Nat} {q0 q1 : zt} {s1 s2 d1 d2 m1 m2 : Int} (hPs : ∀ (ws : va_W) (i k a : Nat) (e e' : va_E), ks[i]? = some k → k = k1 → zsim k e e' → ws[i]? = some (a, e) → Psi ws → Psi (ws.set i (a, e'))) (X : zctx p R s m args c cells slots cc nL own D cI cZ cB cJ cR A d ks ad) (hlev : 1 ≤ d) (h1 : (.methodLink own idx arraycopyName : Cond) ∈ wsL_law) (h2 : (.native arraycopyName : Cond) ∈ wsL_law) (h3 : (.static arraycopyName : Cond) ∈ wsL_law) (h4 : (.initialized "java/lang/System" : Cond) ∈ wsL_law) (hk0 : KS[k0]? = some (.inl (0, n0, [q0]))) (hk1 : KS[k1]? = some (.inl (0, n1, [q1]))) (hq : q1.2.1 ≤ q0.2.1 ∧ q0.2.2 ≤ q1.2.2) (hta : zTA.contains k1 = false) (hr : 0 ≤ s1 ∧ 0 ≤ d1 ∧ 0 ≤ m1 ∧ s2 + m2 ≤ n0 ∧ d2 + m2 ≤ n1) :
    zCallP p l e R s m args below meth c cells slots Q cc D vwCl A (tyA cI cZ cB cJ cR) KS ks ad RX0 Psi nL (1, idx, ([(k0 + 2, 0, 0), (0, s1, s2), (k1 + 2, 0, 0), (0, d1, d2), (0, m1, m2)], none, [], [], [], [], [])) := by
  intro pc ls rest H locs ws As hP hD hS hc hPsi hok hroom hls hpre hdg kk
  obtain ⟨X1, hk, hA, x1, x2, ⟨x3, x4⟩, hSa⟩ := X
  obtain ⟨v1, As1, rfl, ⟨a0, i0, rfl, g1, g2⟩, hok1⟩ := zst1 hok
  obtain ⟨v2, As2, rfl, ⟨sp, rfl, sl, sh⟩, hok2⟩ := zst1 hok1
  obtain ⟨v3, As3, rfl, ⟨a1, i1, rfl, g3, g4⟩, hok3⟩ := zst1 hok2
  obtain ⟨v4, As4, rfl, ⟨dp, rfl, dl, dh⟩, hok4⟩ := zst1 hok3
  obtain ⟨v5, As5, rfl, ⟨n, rfl, nl, nh⟩, hok5⟩ := zst1 hok4
  obtain rfl := zst0 hok5
  dsimp only at sl sh dl dh nl nh
  obtain ⟨e0, w0, c0⟩ := zconf_at hc g1 g2 hk0
  obtain ⟨e1, w1, c1⟩ := zconf_at hc g3 g4 hk1
  have tc : ∀ z : Int32, 0 ≤ z.toInt → (z.toNatClampNeg : Int) = z.toInt := fun z hz => by show ((z.toInt.toNat : Nat) : Int) = z.toInt; omega
  have hsp := tc sp (by omega)
  have hdp := tc dp (by omega)
  have hn := tc n (by omega)
  have nn : ∀ z : Int32, 0 ≤ z.toInt → ¬ z < 0 := fun z hz hlt => by rw [Int32.lt_iff_toInt_lt, Int32.toInt_zero] at hlt; omega
  match e0, c0, w0, e1, c1, w1 with
  | .inl (cA, z0, .inl f), ⟨b1, b2, b3⟩, w0, .inl (cB', z1, .inl g), ⟨b4, b5, b6⟩, w1 =>
    dsimp only at b1 b2 b3 b4 b5 b6
    subst b1
    subst b4
    refine va_copyi (rest := rest) X1.1 X1.2.1 (X1.2.2.1.trans hls.symm) X1.2.2.2.1 (X1.2.2.2.2 _ h1) (X1.2.2.2.2 _ h2) (X1.2.2.2.2 _ h3) (X1.2.2.2.2 _ h4) hk.1 hP hD hS i0 i1 0 0 w0 w1 b2 b5 rfl (nn sp (by omega)) (nn dp (by omega)) (nn n (by omega)) (by omega) (by omega) (fun _ _ => rfl) (by omega) ?_ hdg (fun H1 locs1 p1 p2 p3 => ?_)
    · have : nativeFrameWords "java/lang/System" "arraycopy" 5 + 11 ≤ 50 := by decide
      omega
    · refine kk H1 locs1 _ [] p1 p2 p3 (zconf_set hc g3 w1 hk1 ⟨rfl, b5, b6.1, fun j hj => ?_⟩) (hPs ws i1 k1 a1 (.inl (cB', z1, .inl g)) (.inl (cB', z1, .inl _)) g3 rfl trivial w1 hPsi) (fun k9 f9 _ => zfv_set w1 g3 k9 f9 (fun e9 => by rw [e9, zav_un hta, zav_un hta])) ⟨trivial, fun _ h => (by cases h), fun _ h => (by cases h)⟩
      have hf : ∀ j, j < z0 → q0.2.1 ≤ (f j).toInt ∧ (f j).toInt ≤ q0.2.2 := fun j hj => b3.2 j hj
      have hg : q1.2.1 ≤ (g j).toInt ∧ (g j).toInt ≤ q1.2.2 := b6.2 j hj
      show q1.2.1 ≤ (va_cpy f g _ _ _ j).toInt ∧ (va_cpy f g _ _ _ j).toInt ≤ q1.2.2
      unfold va_cpy
      split
      · rename_i hcc
        have := hf (sp.toNatClampNeg + (j - dp.toNatClampNeg)) (by omega)
        omega
      · exact hg
  | .inl (_, _, .inr (.inl _)), ⟨_, _, b3⟩, _, _, _, _ => dsimp only at b3; exact absurd b3.1 (by decide)
  | .inl (_, _, .inr (.inr (.inr (.inr _)))), ⟨_, _, b3⟩, _, _, _, _ => dsimp only at b3; exact absurd b3.1 (by decide)
  | .inl (_, _, .inr (.inr (.inl _))), ⟨_, _, b3⟩, _, _, _, _ => exact b3.elim
  | .inl (_, _, .inr (.inr (.inr (.inl _)))), ⟨_, _, b3⟩, _, _, _, _ => exact b3.elim
  | .inr _, c0, _, _, _, _ => exact c0.elim
  | .inl (_, _, .inl _), _, _, .inl (_, _, .inr (.inl _)), ⟨_, _, b6⟩, _ => dsimp only at b6; exact absurd b6.1 (by decide)
  | .inl (_, _, .inl _), _, _, .inl (_, _, .inr (.inr (.inr (.inr _)))), ⟨_, _, b6⟩, _ => dsimp only at b6; exact absurd b6.1 (by decide)
  | .inl (_, _, .inl _), _, _, .inl (_, _, .inr (.inr (.inl _))), ⟨_, _, b6⟩, _ => exact b6.elim
  | .inl (_, _, .inl _), _, _, .inl (_, _, .inr (.inr (.inr (.inl _)))), ⟨_, _, b6⟩, _ => exact b6.elim
  | .inl (_, _, .inl _), _, _, .inr _, c1, _ => exact c1.elim
theorem zgF {C : String} {T : u_T} {N ci idx kd f : Nat} (X : zctx p R s m args c cells slots cc nL own D cI cZ cB cJ cR A d ks ad) (hin : ∀ w ∈ u_ws C T N, w ∈ wsL_law) (hc : vwCl[ci]? = some (C, T, N)) (hf : f < N) (hlk : (.fieldLink own idx (T f).1 (T f).2.1 (T f).2.2.1 : Cond) ∈ wsL_law) (hci : ∀ dd : Nat × List zt, KS[kd]? = some (.inr dd) → dd.1 = ci) : zGetP p l e R s m args below meth c cells slots Q cc D vwCl KS (idx, kd, f) := by
  intro dd hd hfl pc ls rest H locs ws a i fs v hP he hv hdg k
  obtain ⟨X1, hk, -⟩ := X
  dsimp only at hd hv hdg
  rw [hci dd hd] at he
  exact va_get X1.1 X1.2.1 X1.2.2.2.2 hin X1.2.2.2.1 hk.1 hP i he hc f hf (X1.2.2.2.2 _ hlk) (fun _ h => h) hv hdg k
theorem zgN {C host : String} {T : u_T} {N ci idx kd f : Nat} (X : zctx p R s m args c cells slots cc nL own D cI cZ cB cJ cR A d ks ad) (hin : ∀ w ∈ u_ws C T N, w ∈ wsL_law) (hc : vwCl[ci]? = some (C, T, N)) (hf : f < N) (hlk : (.fieldLinkNest own idx (T f).1 (T f).2.1 (T f).2.2.1 host : Cond) ∈ zN) (hci : ∀ dd : Nat × List zt, KS[kd]? = some (.inr dd) → dd.1 = ci) : zGetP p l e R s m args below meth c cells slots Q cc D vwCl KS (idx, kd, f) := by
  intro dd hd hfl pc ls rest H locs ws a i fs v hP he hv hdg k
  obtain ⟨X1, hk, -⟩ := X
  dsimp only at hd hv hdg
  rw [hci dd hd] at he
  exact va_getN X1.1 X1.2.1 X1.2.2.2.2 hin X1.2.2.2.1 hk.1 hP i he hc f hf (va_Nw.use rfl (hk.2.1 _ hlk)) (fun _ h => h) hv hdg k
/-- a value of its type fits the field -/
def zfty (ty : FieldType) (t : zt) : Bool := match ty, t.1 with
  | .int, 0 => true
  | .long, 1 => true
  | .boolean, 0 => decide (0 ≤ t.2.1) && decide (t.2.2 ≤ 1)
  | .object _, _ + 2 => true
  | .array _, _ + 2 => true
  | _, _ => false
theorem zfty_ok {ty : FieldType} {t : zt} {v : Value} (h : zfty ty t = true) (hv : zok ks ad t v) : narrow ty v = v ∧ fits ty v = true := by
  obtain ⟨tg, lo, hi⟩ := t
  match ty, tg, h, hv with
  | .int, 0, _, ⟨x, e, _⟩ => rw [e]; exact ⟨rfl, rfl⟩
  | .long, 1, _, ⟨x, e, _⟩ => rw [e]; exact ⟨rfl, rfl⟩
  | .boolean, 0, h, ⟨x, e, h1, h2⟩ =>
    simp only [zfty, Bool.and_eq_true, decide_eq_true_eq] at h
    dsimp only at h1 h2
    have hx : x = 0 ∨ x = 1 := by
      simp only [← Int32.toInt_inj, Int32.reduceToInt]
      omega
    rw [e]
    rcases hx with rfl | rfl <;> exact ⟨rfl, rfl⟩
  | .object _, _ + 2, _, ⟨a, i, e, _⟩ => rw [e]; exact ⟨rfl, rfl⟩
  | .array _, _ + 2, _, ⟨a, i, e, _⟩ => rw [e]; exact ⟨rfl, rfl⟩
theorem zpF {C : String} {T : u_T} {N ci idx kd f : Nat} {ty0 : Nat → FieldType} (X : zctx p R s m args c cells slots cc nL own D cI cZ cB cJ cR A d ks ad) (hin : ∀ w ∈ u_ws C T N, w ∈ wsL_law) (hty : ∀ k, k < N → parseFieldDescriptor (T k).2.2.1 = some (ty0 k)) (hnm : ∀ a, a < N → ∀ b, b < N → a ≠ b → (T a).2.1 ≠ (T b).2.1) (hc : vwCl[ci]? = some (C, T, N)) (hf : f < N) (hlk : (.fieldLink own idx (T f).1 (T f).2.1 (T f).2.2.1 : Cond) ∈ wsL_law) (hfin : (T f).2.2.2 = false) (hci : ∀ dd : Nat × List zt, KS[kd]? = some (.inr dd) → dd.1 = ci ∧ ∀ t, dd.2[f]? = some t → zfty (ty0 f) t = true) : zPutP p l e R s m args below meth c cells slots Q cc D vwCl A ks ad KS (idx, kd, f) := by
  intro dd t hd ht pc ls rest H locs ws a i fs v hP hD hS he hl hv hdg k
  obtain ⟨X1, hk, -⟩ := X
  dsimp only at hd ht hdg k
  obtain ⟨e1, e2⟩ := hci dd hd
  obtain ⟨n1, n2⟩ := zfty_ok (e2 t ht) hv
  rw [e1] at he k
  exact va_put X1.1 X1.2.1 X1.2.2.2.2 hin ty0 hty hnm X1.2.2.2.1 hk.1 hP hD hS i he hc f hf (X1.2.2.2.2 _ hlk) (fun _ h => h) hfin (hty f hf) n1 n2 (by rw [hl]; exact (List.getElem?_eq_some_iff.mp ht).1) hdg k
theorem zpN {C host : String} {T : u_T} {N ci idx kd f : Nat} {ty0 : Nat → FieldType} (X : zctx p R s m args c cells slots cc nL own D cI cZ cB cJ cR A d ks ad) (hin : ∀ w ∈ u_ws C T N, w ∈ wsL_law) (hty : ∀ k, k < N → parseFieldDescriptor (T k).2.2.1 = some (ty0 k)) (hnm : ∀ a, a < N → ∀ b, b < N → a ≠ b → (T a).2.1 ≠ (T b).2.1) (hc : vwCl[ci]? = some (C, T, N)) (hf : f < N) (hlk : (.fieldLinkNest own idx (T f).1 (T f).2.1 (T f).2.2.1 host : Cond) ∈ zN) (hfin : (T f).2.2.2 = false) (hci : ∀ dd : Nat × List zt, KS[kd]? = some (.inr dd) → dd.1 = ci ∧ ∀ t, dd.2[f]? = some t → zfty (ty0 f) t = true) : zPutP p l e R s m args below meth c cells slots Q cc D vwCl A ks ad KS (idx, kd, f) := by
  intro dd t hd ht pc ls rest H locs ws a i fs v hP hD hS he hl hv hdg k
  obtain ⟨X1, hk, -⟩ := X
  dsimp only at hd ht hdg k
  obtain ⟨e1, e2⟩ := hci dd hd
  obtain ⟨n1, n2⟩ := zfty_ok (e2 t ht) hv
  rw [e1] at he k
  exact va_putN X1.1 X1.2.1 X1.2.2.2.2 hin ty0 hty hnm X1.2.2.2.1 hk.1 hP hD hS i he hc f hf (va_Nw.use rfl (hk.2.1 _ hlk)) (fun _ h => h) hfin (hty f hf) n1 n2 (by rw [hl]; exact (List.getElem?_eq_some_iff.mp ht).1) hdg k
theorem zlI {idx : Nat} {v : Int32} {n : Int} (X : zctx p R s m args c cells slots cc nL own D cI cZ cB cJ cR A d ks ad) (h : (.constant own idx v : Cond) ∈ wsL_law) (hv : v.toInt = n) : zLdcP p l e R s m args below meth c cells slots Q cc (idx, n) :=
  ⟨v, hv, fun _ _ _ _ _ => ⟨fun hdg k => lv_ldc X.1.1 X.1.2.1 X.1.2.2.2.1 (X.1.2.2.2.2 _ h) hdg k, fun hdg k => lv_ldcw X.1.1 X.1.2.1 X.1.2.2.2.1 (X.1.2.2.2.2 _ h) hdg k⟩⟩
theorem zlL {idx : Nat} {v : Int64} {n : Int} (X : zctx p R s m args c cells slots cc nL own D cI cZ cB cJ cR A d ks ad) (h : (.constantLong own idx v : Cond) ∈ wsL_law) (hv : v.toInt = n) : zLdLP p l e R s m args below meth c cells slots Q cc (idx, n) :=
  ⟨v, hv, fun _ _ _ _ _ hdg k => lv_ldc2 X.1.1 X.1.2.1 X.1.2.2.2.1 (X.1.2.2.2.2 _ h) hdg k⟩
theorem zst_ok (X : zctx p R s m args c cells slots cc nL own D cI cZ cB cJ cR A d ks ad) : zStP p l e R s m args below meth c cells slots Q cc A ks ad := by
  intro i k a hk h1 h2 pc ls rest H locs y hS y0 y1 hdg kk
  have hn : (y.toNatClampNeg : Int) = y.toInt := by show ((y.toInt.toNat : Nat) : Int) = y.toInt; omega
  have hl : (zSR k).length ≤ 7 := by unfold zSR; split <;> (try split) <;> decide
  refine va_ti X.1.1 X.1.2.1 (X.2.2.2.2.2.2.st.2.2.1 i a k hk h1 h2) hS (vp_in_iff.mpr ⟨by omega, by omega⟩) rfl hdg (kk _ ?_)
  have hg : (zSR k)[y.toInt.toNat]? = some ((zSR k).getD y.toNatClampNeg 0) := by
    have e : y.toInt.toNat = y.toNatClampNeg := rfl
    rw [e, List.getD_eq_getElem?_getD, List.getElem?_eq_getElem (by omega)]
    rfl
  rw [hg]
  congr 1
  have hb : ∀ v ∈ zSR k, 0 ≤ v ∧ v ≤ 99 := by unfold zSR; split <;> (try split) <;> decide
  have := hb _ (List.mem_of_getElem? hg)
  rw [Int32.toInt_ofInt_of_le] <;> omega
theorem zs_ldc {idx : Nat} {tx : String} (X : zctx p R s m args c cells slots cc nL own D cI cZ cB cJ cR A d ks ad) (ho : own = RX4) (h : (idx, tx) ∈ zSL) : zLdSP p l e R s m args below meth c cells slots Q cc A ks ad (idx, 54) := by
  obtain ⟨a, i, g1, g2, g3⟩ := X.2.2.2.2.2.2.st.2.1 _ h
  subst ho
  exact ⟨a, i, g2, g3, fun pc ls rest H locs hS => ⟨fun _ hdg k => va_ldcS X.1.1 X.1.2.1 X.1.2.2.2.1 g1 hdg k, fun h => absurd rfl h⟩⟩
theorem zs_lowN {idx : Nat} {host : String} (X : zctx p R s m args c cells slots cc nL own D cI cZ cB cJ cR A d ks ad) (hlk : (.fieldLinkNest own idx RX5 "LOWEST" "[I" host : Cond) ∈ zN) : zLdSP p l e R s m args below meth c cells slots Q cc A ks ad (idx, 55) := by
  obtain ⟨a, i, g1, g2, g3⟩ := X.2.2.2.2.2.2.st.2.2.2.1
  exact ⟨a, i, g2, g3, fun pc ls rest H locs hS => ⟨fun h => absurd h (show ¬ (55 : Nat) = 54 by decide), fun _ hdg k => va_getsN X.1.1 X.1.2.1 g1 hS X.1.2.2.2.1 (va_Nw.use rfl (X.2.1.2.1 _ hlk)) (fun _ h => h) hdg k⟩⟩
theorem zs_highN {idx : Nat} {host : String} (X : zctx p R s m args c cells slots cc nL own D cI cZ cB cJ cR A d ks ad) (hlk : (.fieldLinkNest own idx RX5 "HIGHEST" "[I" host : Cond) ∈ zN) : zLdSP p l e R s m args below meth c cells slots Q cc A ks ad (idx, 56) := by
  obtain ⟨a, i, g1, g2, g3⟩ := X.2.2.2.2.2.2.st.2.2.2.2.1
  exact ⟨a, i, g2, g3, fun pc ls rest H locs hS => ⟨fun h => absurd h (show ¬ (56 : Nat) = 54 by decide), fun _ hdg k => va_getsN X.1.1 X.1.2.1 g1 hS X.1.2.2.2.1 (va_Nw.use rfl (X.2.1.2.1 _ hlk)) (fun _ h => h) hdg k⟩⟩
theorem zs_low {idx : Nat} (X : zctx p R s m args c cells slots cc nL own D cI cZ cB cJ cR A d ks ad) (hlk : (.fieldLink own idx RX5 "LOWEST" "[I" : Cond) ∈ wsL_law) : zLdSP p l e R s m args below meth c cells slots Q cc A ks ad (idx, 55) := by
  obtain ⟨a, i, g1, g2, g3⟩ := X.2.2.2.2.2.2.st.2.2.2.1
  exact ⟨a, i, g2, g3, fun pc ls rest H locs hS => ⟨fun h => absurd h (show ¬ (55 : Nat) = 54 by decide), fun _ hdg k => va_gets X.1.1 X.1.2.1 g1 hS X.1.2.2.2.1 (X.1.2.2.2.2 _ hlk) (fun _ h => h) hdg k⟩⟩
theorem zs_high {idx : Nat} (X : zctx p R s m args c cells slots cc nL own D cI cZ cB cJ cR A d ks ad) (hlk : (.fieldLink own idx RX5 "HIGHEST" "[I" : Cond) ∈ wsL_law) : zLdSP p l e R s m args below meth c cells slots Q cc A ks ad (idx, 56) := by
  obtain ⟨a, i, g1, g2, g3⟩ := X.2.2.2.2.2.2.st.2.2.2.2.1
  exact ⟨a, i, g2, g3, fun pc ls rest H locs hS => ⟨fun h => absurd h (show ¬ (56 : Nat) = 54 by decide), fun _ hdg k => va_gets X.1.1 X.1.2.1 g1 hS X.1.2.2.2.1 (X.1.2.2.2.2 _ hlk) (fun _ h => h) hdg k⟩⟩
end GL
def zretok (ret : Option FieldType) (o : Option zt) : Bool := match ret, o with
  | none, none => true
  | some ty, some t => zfty ty t
  | _, _ => false
theorem zargw {ks ad : List Nat} : ∀ {ts : List zt} {As : List Value}, zF2 (zok ks ad) ts As → (lg_sl As).length = (ts.map (fun t => if t.1 == 1 then 2 else 1)).sum
  | [], [], _ => rfl
  | t :: ts, w :: As, h => by
    have ih := zargw h.2
    unfold lg_sl at ih ⊢
    rw [List.flatMap_cons, List.length_append, ih, List.map_cons, List.sum_cons]
    congr 1
    obtain ⟨tg, b⟩ := t
    match tg, h.1 with
    | 0, ⟨y, h1, _⟩ => rw [h1]; rfl
    | 1, ⟨y, h1, _⟩ => rw [h1]; rfl
    | kk + 2, ⟨a, j, h1, _⟩ => rw [h1]; rfl
  | [], _ :: _, h => h.elim
  | _ :: _, [], h => h.elim
/-- the world as it is laid out -/
def zworld (ks ad uq NS : List Nat) (Psi : va_W → Prop) : Prop := (∀ k ∈ uq, ∀ i j : Nat, ks[i]? = some k → ks[j]? = some k → i = j) ∧ (∀ k ∈ uq, ∃ i : Nat, ks[i]? = some k) ∧ ks.length = ad.length ∧ (∀ (ws : va_W) (i k a : Nat) (e e' : va_E), ks[i]? = some k → NS.contains k = false → zsim k e e' → ws[i]? = some (a, e) → Psi ws → Psi (ws.set i (a, e')))
theorem zmet_of {l : Launch} {D : va_G} {cI cZ cB cJ cR : ClassId} {KS : List zk} {uq NS ks ad : List Nat} {Psi : va_W → Prop} {y : MethodName} {cc : ByteArray} {nL : Nat} {ret : Option FieldType} {con : zcon} {fl wr : List (Nat × Nat × Nat)} {k1 k2 : List (Nat × Int)} {k3 : List (Nat × Nat)} {cs : List (Nat × Nat × zcon)} {cuts : List zcut} {sp : List (Nat × List (Int × Int))} (hw : zworld ks ad uq NS Psi) (d : Nat) (hy : plainName y.cls = true) (fuel : Nat) (hchk : zmeth KS uq NS (cc, nL, con, (fl, wr), (k1, k2, k3), cs, cuts, sp) fuel = true) (hsl : (con.1.map (fun t => if t.1 == 1 then 2 else 1)).sum ≤ nL) (hret : zretok ret con.2.1 = true)
    (hF : ∀ {p : Program} {e : Env} {R : Room} {s : State} {m : MethodId} {args : Array Value} {below : List Frame} {meth : Method} {c : Code} {Q : State → Prop} {A : Nat → Prop}, zctx p R s m args c 0 0 cc nL y.cls D cI cZ cB cJ cR A d ks ad →
      (∀ q ∈ fl, zGetP p l e R s m args below meth c 0 0 Q cc D vwCl KS q) ∧ (∀ q ∈ wr, zPutP p l e R s m args below meth c 0 0 Q cc D vwCl A ks ad KS q) ∧ (∀ q ∈ k1, zLdcP p l e R s m args below meth c 0 0 Q cc q) ∧ (∀ q ∈ k2, zLdLP p l e R s m args below meth c 0 0 Q cc q) ∧ (∀ q ∈ k3, zLdSP p l e R s m args below meth c 0 0 Q cc A ks ad q) ∧ (∀ q ∈ cs, zCallP p l e R s m args below meth c 0 0 Q cc D vwCl A (tyA cI cZ cB cJ cR) KS ks ad RX0 Psi nL q)) :
    zMet l D cI cZ cB cJ cR KS ks ad Psi y (.code y cc nL ret) d con := by
  intro ws As sz hc hPsi hok hpre
  obtain ⟨hU, hX, hL, hPs⟩ := hw
  refine Met.ofW (cc := cc) (maxL := nL) (ret := ret) hy rfl ?_
  intro p e s m args below meth c s₁ B hml hv
  obtain ⟨rfl, ⟨hsz, hP, hk, hD0⟩, hSx⟩ := hv
  subst hsz
  have hx := B.exec
  have hb := B.bytes
  have hr := B.returns
  have hts := atoms_spec (ws := wA (.code y cc nL ret)) B.pre
  have hlocks := B.notSynchronized
  have hD : va_D (va_A ws s.heap.size) ws := hD0.self
  have hA : ∀ q : Nat, s.heap.size ≤ q → va_A ws s.heap.size q := fun q h => Or.inr h
  have X : zctx p (headSpec (wA (.code y cc nL ret)) (zrm d)).room s m As.toArray c 0 0 cc nL y.cls D cI cZ cB cJ cR (va_A ws s.heap.size) d ks ad := ⟨⟨hx, hb, hml, findClass_of_methodNamed B.named, fun w h => hts w (List.mem_cons_of_mem _ h)⟩, hk, hA, Nat.le_refl _, Nat.le_refl _, ⟨Nat.zero_le _, Nat.zero_le _⟩, hSx.sa⟩
  obtain ⟨f1, f2, f3, f4, f5, f6⟩ := hF X
  rw [lg_entry_eq]
  refine zmeth_ok (RC := RX0) hx hb hk.1 hU hX hL hPs f1 f2 f3 f4 ⟨f5, zst_ok X⟩ f6 ?_ (zF2_len hok).symm hpre fuel hchk hok ⟨hP, hD, va_S.rf, hc, hPsi, fun _ _ _ => rfl⟩ (lv_entry As (by rw [zargw hok]; exact hsl))
  intro pc ls H locs ws1 r hG hpost hdg
  obtain ⟨g1, g2, g3, g4, g5, g6⟩ := hG
  have hp1 := hpost.1
  generalize hcr : con.2.1 = o at hret hdg hp1 ⊢
  match ret, o, hret, hp1, hr with
  | none, none, _, hp1, hr =>
    obtain rfl := zst0 hp1
    exact W.vret hx hb hr (fun t ht _ => ⟨⟨ws1, rfl, ⟨hpost, g4, g5, g6⟩, by rw [ht]; exact g1, g2⟩, g3.F ht⟩) g3.2.2 hdg
  | some ty, some t, hret, hp1, hr =>
    obtain ⟨v, r', rfl, hv, hr'⟩ := zst1 hp1
    obtain rfl := zst0 hr'
    obtain ⟨n1, n2⟩ := zfty_ok hret hv
    obtain ⟨tg, lo, hi⟩ := t
    match ty, tg, hret, hv, hdg, hr, n1 with
    | .int, 0, _, ⟨x, e1, _⟩, hdg, hr, _ =>
      rw [e1] at hpost ⊢
      exact W.iret hx hb hr (fun t ht _ => ⟨⟨x, ws1, rfl, ⟨hpost, g4, g5, g6⟩, by rw [ht]; exact g1, g2⟩, g3.F ht⟩) g3.2.2 hdg
    | .boolean, 0, _, ⟨x, e1, _⟩, hdg, hr, n1 =>
      rw [e1] at hpost n1 ⊢
      exact W.zret hx hb hr n1 (fun t ht _ => ⟨⟨x, ws1, rfl, ⟨hpost, g4, g5, g6⟩, by rw [ht]; exact g1, g2⟩, g3.F ht⟩) g3.2.2 hdg
    | .long, 1, _, ⟨x, e1, _⟩, hdg, hr, _ =>
      rw [e1] at hpost ⊢
      exact W.lret hx hb hr (fun t ht _ => ⟨⟨x, ws1, rfl, ⟨hpost, g4, g5, g6⟩, by rw [ht]; exact g1, g2⟩, g3.F ht⟩) g3.2.2 hdg
    | .object n, k + 2, _, ⟨a, i, e1, _⟩, hdg, hr, _ =>
      rw [e1] at hpost ⊢
      have e2 : zrt (some (k + 2, lo, hi)) = 2 := by show min (k + 2) 2 = 2; omega
      rw [e2] at hdg ⊢
      exact W.aret hx hb hr (Or.inl ⟨n, rfl⟩) (Or.inr ⟨a, rfl⟩) (fun t ht _ => ⟨⟨ws1, a, rfl, trivial, ⟨hpost, g4, g5, g6⟩, by rw [ht]; exact g1, g2⟩, g3.F ht⟩) g3.2.2 hdg
    | .array n, k + 2, _, ⟨a, i, e1, _⟩, hdg, hr, _ =>
      rw [e1] at hpost ⊢
      have e2 : zrt (some (k + 2, lo, hi)) = 2 := by show min (k + 2) 2 = 2; omega
      rw [e2] at hdg ⊢
      exact W.aret hx hb hr (Or.inr ⟨n, rfl⟩) (Or.inr ⟨a, rfl⟩) (fun t ht _ => ⟨⟨ws1, a, rfl, trivial, ⟨hpost, g4, g5, g6⟩, by rw [ht]; exact g1, g2⟩, g3.F ht⟩) g3.2.2 hdg
