theorem znk {ks : List Nat} {i j k k' : Nat} (h1 : ks[i]? = some k) (h2 : ks[j]? = some k') (h : k ≠ k') : i ≠ j := by
  intro e
  subst e
  rw [h1] at h2
  exact h (Option.some.inj h2)
/-- a contract by hand -/
theorem zmet_gen {l : Launch} {D : va_G} {cI cZ cB cJ cR : ClassId} {KS : List zk} {ks ad : List Nat} {Psi : va_W → Prop} {y : MethodName} {cc : ByteArray} {nL : Nat} {ret : Option FieldType} {con : zcon} (d : Nat) (hy : plainName y.cls = true) (hsl : (con.1.map (fun t => if t.1 == 1 then 2 else 1)).sum ≤ nL) (hret : zretok ret con.2.1 = true)
    (hF : ∀ {p : Program} {e : Env} {R : Room} {s : State} {m : MethodId} {args : Array Value} {below : List Frame} {meth : Method} {c : Code} {Q : State → Prop} {A : Nat → Prop} {ws : va_W} {As : List Value} {ls : Array Slot}, zctx p R s m args c 0 0 cc nL y.cls D cI cZ cB cJ cR A d ks ad → zHp D vwCl A s.heap (tyA cI cZ cB cJ cR) KS ks ad RX0 Psi con.2.2.2.2.2.1 ws ws s.heap [] → zF2 (zok ks ad) con.1 As → zfs (0 :: As.map znum ++ con.2.2.1.map (fun z => zfv ks ws z.1 z.2)) con.2.2.2.2.2.2 → zRetP p l e R s m args below meth c 0 0 Q cc (zHp D vwCl A s.heap (tyA cI cZ cB cJ cR) KS ks ad RX0 Psi con.2.2.2.2.2.1 ws) ks ad con As ws → lv_has ls nL (lv_args 0 As) → W p l e R s m args below meth c s.heap [] 0 0 Q (F0 m 0 ls [])) :
    zMet l D cI cZ cB cJ cR KS ks ad Psi y (.code y cc nL ret) d con := by
  intro ws As sz hc hPsi hok hpre
  refine Met.ofW (cc := cc) (maxL := nL) (ret := ret) hy rfl ?_
  intro p e s m args below meth c s₁ B hml hv
  obtain ⟨rfl, ⟨hsz, hP, hk, hD0⟩, hSx⟩ := hv
  subst hsz
  have hx := B.exec
  have hb := B.bytes
  have hr := B.returns
  have hts := atoms_spec (ws := wA (.code y cc nL ret)) B.pre
  have hlocks := B.notSynchronized
  have hD : va_D (va_A ws s.heap.size) ws := hD0.self
  have hA : ∀ q : Nat, s.heap.size ≤ q → va_A ws s.heap.size q := fun q h => Or.inr h
  have X : zctx p (headSpec (wA (.code y cc nL ret)) (zrm d)).room s m As.toArray c 0 0 cc nL y.cls D cI cZ cB cJ cR (va_A ws s.heap.size) d ks ad := ⟨⟨hx, hb, hml, findClass_of_methodNamed B.named, fun w h => hts w (List.mem_cons_of_mem _ h)⟩, hk, hA, Nat.le_refl _, Nat.le_refl _, ⟨Nat.zero_le _, Nat.zero_le _⟩, hSx.sa⟩
  rw [lg_entry_eq]
  refine hF X ⟨hP, hD, va_S.rf, hc, hPsi, fun _ _ _ => rfl⟩ hok hpre ?_ (lv_entry As (by rw [zargw hok]; exact hsl))
  intro pc ls H locs ws1 r hG hpost hdg
  obtain ⟨g1, g2, g3, g4, g5, g6⟩ := hG
  have hp1 := hpost.1
  generalize hcr : con.2.1 = o at hret hdg hp1 ⊢
  match ret, o, hret, hp1, hr with
  | none, none, _, hp1, hr =>
    obtain rfl := zst0 hp1
    exact W.vret hx hb hr (fun t ht _ => ⟨⟨ws1, rfl, ⟨hpost, g4, g5, g6⟩, by rw [ht]; exact g1, g2⟩, g3.F ht⟩) g3.2.2 hdg
  | some ty, some t, hret, hp1, hr =>
    obtain ⟨v, r', rfl, hv, hr'⟩ := zst1 hp1
    obtain rfl := zst0 hr'
    obtain ⟨n1, n2⟩ := zfty_ok hret hv
    obtain ⟨tg, lo, hi⟩ := t
    match ty, tg, hret, hv, hdg, hr, n1 with
    | .int, 0, _, ⟨x, e1, _⟩, hdg, hr, _ =>
      rw [e1] at hpost ⊢
      exact W.iret hx hb hr (fun t ht _ => ⟨⟨x, ws1, rfl, ⟨hpost, g4, g5, g6⟩, by rw [ht]; exact g1, g2⟩, g3.F ht⟩) g3.2.2 hdg
    | .boolean, 0, _, ⟨x, e1, _⟩, hdg, hr, n1 =>
      rw [e1] at hpost n1 ⊢
      exact W.zret hx hb hr n1 (fun t ht _ => ⟨⟨x, ws1, rfl, ⟨hpost, g4, g5, g6⟩, by rw [ht]; exact g1, g2⟩, g3.F ht⟩) g3.2.2 hdg
    | .long, 1, _, ⟨x, e1, _⟩, hdg, hr, _ =>
      rw [e1] at hpost ⊢
      exact W.lret hx hb hr (fun t ht _ => ⟨⟨x, ws1, rfl, ⟨hpost, g4, g5, g6⟩, by rw [ht]; exact g1, g2⟩, g3.F ht⟩) g3.2.2 hdg
    | .object n, k + 2, _, ⟨a, i, e1, _⟩, hdg, hr, _ =>
      rw [e1] at hpost ⊢
      have e2 : zrt (some (k + 2, lo, hi)) = 2 := by show min (k + 2) 2 = 2; omega
      rw [e2] at hdg ⊢
      exact W.aret hx hb hr (Or.inl ⟨n, rfl⟩) (Or.inr ⟨a, rfl⟩) (fun t ht _ => ⟨⟨ws1, a, rfl, trivial, ⟨hpost, g4, g5, g6⟩, by rw [ht]; exact g1, g2⟩, g3.F ht⟩) g3.2.2 hdg
    | .array n, k + 2, _, ⟨a, i, e1, _⟩, hdg, hr, _ =>
      rw [e1] at hpost ⊢
      have e2 : zrt (some (k + 2, lo, hi)) = 2 := by show min (k + 2) 2 = 2; omega
      rw [e2] at hdg ⊢
      exact W.aret hx hb hr (Or.inr ⟨n, rfl⟩) (Or.inr ⟨a, rfl⟩) (fun t ht _ => ⟨⟨ws1, a, rfl, trivial, ⟨hpost, g4, g5, g6⟩, by rw [ht]; exact g1, g2⟩, g3.F ht⟩) g3.2.2 hdg
section HB
variable {D : va_G} {cl : List vw_C} {A : Nat → Prop} {cI cZ cB cJ cR : ClassId} {KS : List zk} {uq NS ks ad : List Nat} {Psi : va_W → Prop} {wq : List (Nat × Nat)} {ws0 w : va_W} {H H0 H1 : Heap} {locs locs1 : List Loc}
theorem zarrI {j k r n : Nat} {el : List zt} (hc : zconf KS ks ad RX0 (tyA cI cZ cB cJ cR) w) (h1 : ks[j]? = some k) (h2 : ad[j]? = some r) (hk : KS[k]? = some (.inl (0, n, el))) : ∃ f : Nat → Int32, w[j]? = some (r, .inl (cI, n, .inl f)) ∧ ∀ q, q < n → (zel el q).2.1 ≤ (f q).toInt ∧ (f q).toInt ≤ (zel el q).2.2 := by
  obtain ⟨e, h3, h4⟩ := zconf_at hc h1 h2 hk
  match e, h4 with
  | .inl (cA, z, .inl f), ⟨b1, b2, b3⟩ =>
    dsimp only at b1 b3
    subst b1
    have b2' : some (cI, FieldType.int) = some (cA, FieldType.int) := b2
    cases b2'
    exact ⟨f, h3, b3.2⟩
  | .inl (_, _, .inr (.inl _)), ⟨_, _, b3⟩ => exact absurd b3.1 (show ¬ (0 : Nat) = 3 by decide)
  | .inl (_, _, .inr (.inr (.inr (.inr _)))), ⟨_, _, b3⟩ => exact absurd b3.1 (show ¬ (0 : Nat) = 4 by decide)
  | .inl (_, _, .inr (.inr (.inl _))), ⟨_, _, b3⟩ => exact b3.elim
  | .inl (_, _, .inr (.inr (.inr (.inl _)))), ⟨_, _, b3⟩ => exact b3.elim
  | .inr _, h4 => exact h4.elim
theorem zarrJ {j k r n : Nat} {el : List zt} (hc : zconf KS ks ad RX0 (tyA cI cZ cB cJ cR) w) (h1 : ks[j]? = some k) (h2 : ad[j]? = some r) (hk : KS[k]? = some (.inl (3, n, el))) : ∃ f : Nat → Int64, w[j]? = some (r, .inl (cJ, n, .inr (.inl f))) ∧ ∀ q, q < n → (zel el q).2.1 ≤ (f q).toInt ∧ (f q).toInt ≤ (zel el q).2.2 := by
  obtain ⟨e, h3, h4⟩ := zconf_at hc h1 h2 hk
  match e, h4 with
  | .inl (cA, z, .inr (.inl f)), ⟨b1, b2, b3⟩ =>
    dsimp only at b1 b3
    subst b1
    have b2' : some (cJ, FieldType.long) = some (cA, FieldType.long) := b2
    cases b2'
    exact ⟨f, h3, b3.2⟩
  | .inl (_, _, .inl _), ⟨_, _, b3⟩ => exact absurd b3.1 (show ¬ (3 : Nat) < 3 by decide)
  | .inl (_, _, .inr (.inr (.inr (.inr _)))), ⟨_, _, b3⟩ => exact absurd b3.1 (show ¬ (3 : Nat) = 4 by decide)
  | .inl (_, _, .inr (.inr (.inl _))), ⟨_, _, b3⟩ => exact b3.elim
  | .inl (_, _, .inr (.inr (.inr (.inl _)))), ⟨_, _, b3⟩ => exact b3.elim
  | .inr _, h4 => exact h4.elim
/-- a number put into a row that isn't kept in mind -/
theorem zHp.sti {j kd r n q : Nat} {el : List zt} {f : Nat → Int32} {y : Int32} (hw : zworld ks ad uq NS Psi) (hG : zHp D cl A H0 (tyA cI cZ cB cJ cR) KS ks ad RX0 Psi wq ws0 w H locs) (h1 : ks[j]? = some kd) (h2 : NS.contains kd = false) (h3 : w[j]? = some (r, .inl (cI, n, .inl f))) (h4 : KS[kd]? = some (.inl (0, n, el))) (hta : zTA.contains kd = false) (hf : ∀ q, q < n → (zel el q).2.1 ≤ (f q).toInt ∧ (f q).toInt ≤ (zel el q).2.2) (hy : (zel el q).2.1 ≤ y.toInt ∧ y.toInt ≤ (zel el q).2.2)
    (a1 : va_P D cl (w.set j (r, .inl (cI, n, .inl (upd f q y)))) H1) (a2 : va_D A (w.set j (r, .inl (cI, n, .inl (upd f q y))))) (a3 : va_S A H0 H1 locs1) : zHp D cl A H0 (tyA cI cZ cB cJ cR) KS ks ad RX0 Psi wq ws0 (w.set j (r, .inl (cI, n, .inl (upd f q y)))) H1 locs1 := by
  refine ⟨a1, a2, a3, zconf_set hG.2.2.2.1 h1 h3 h4 ⟨rfl, rfl, zrowI ⟨(show (0 : Nat) < 3 by decide), hf⟩ (fun _ => hy)⟩, hw.2.2.2 _ _ kd _ (.inl (cI, n, .inl f)) _ h1 h2 trivial h3 hG.2.2.2.2.1, fun k f hf => (zfv_set h3 h1 k f (fun e9 => by subst e9; rw [zav_un hta, zav_un hta])).trans (hG.2.2.2.2.2 k f hf)⟩
/-- a field of an object -/
theorem zHp.putf {i kd a f : Nat} {dd : Nat × List zt} {t : zt} {fs : List Value} {v : Value} (hw : zworld ks ad uq NS Psi) (hG : zHp D cl A H0 (tyA cI cZ cB cJ cR) KS ks ad RX0 Psi wq ws0 w H locs) (g1 : ks[i]? = some kd) (hns : NS.contains kd = false) (g2 : KS[kd]? = some (.inr dd)) (g3 : dd.2[f]? = some t) (g4 : w[i]? = some (a, .inr (dd.1, fs))) (hrf : (Nat.blt t.1 2 || kd == 5) = true) (hv : zok ks ad t v) (hwq : (kd, f) ∈ wq)
    (b1 : va_P D cl (w.set i (a, .inr (dd.1, fs.set f v))) H1) (b2 : va_D A (w.set i (a, .inr (dd.1, fs.set f v)))) (b3 : va_S A H0 H1 locs1) : zHp D cl A H0 (tyA cI cZ cB cJ cR) KS ks ad RX0 Psi wq ws0 (w.set i (a, .inr (dd.1, fs.set f v))) H1 locs1 := by
  obtain ⟨q, hq, hcell⟩ := hG.2.2.2.1.2 i kd _ g1 g2
  rw [g4] at hq
  cases hq
  have g5 : zF2 (zok ks ad) dd.2 fs := hcell.2
  refine ⟨b1, b2, b3, zconf_set hG.2.2.2.1 g1 g4 g2 ⟨rfl, zF2_set g5 g3 hv⟩, hw.2.2.2 _ _ _ _ (.inr (dd.1, fs)) (.inr (dd.1, fs.set f v)) g1 hns ⟨rfl, List.length_set, zput_refs g5 g3 hrf⟩ g4 hG.2.2.2.2.1, fun k' f' hf' => ?_⟩
  rw [zfv_obj g4 g1 k' f' (fun e9 => hf' (by rw [e9.1, e9.2]; exact hwq))]
  exact hG.2.2.2.2.2 k' f' hf'
end HB
abbrev zCf (r0 : Nat) (n1 n2 n3 : Int32) (r4 r5 r6 r7 r8 : Nat) (n9 : Int32) (r10 r11 r12 r13 : Nat) : List Value := [.ref r0, .int n1, .int n2, .int n3, .ref r4, .ref r5, .ref r6, .ref r7, .ref r8, .int n9, .ref r10, .ref r11, .ref r12, .ref r13]
theorem zcity {cI cZ cB cJ cR : ClassId} {ks ad : List Nat} {w : va_W} {i a : Nat} (hc : zconf zKS ks ad RX0 (tyA cI cZ cB cJ cR) w) (h1 : ks[i]? = some 0) (h2 : ad[i]? = some a) : ∃ (r0 : Nat) (n1 n2 n3 : Int32) (r4 r5 r6 r7 r8 : Nat) (n9 : Int32) (r10 r11 r12 r13 : Nat), w[i]? = some (a, .inr (0, zCf r0 n1 n2 n3 r4 r5 r6 r7 r8 n9 r10 r11 r12 r13)) ∧ (0 ≤ n2.toInt ∧ n2.toInt ≤ 7) ∧ (0 ≤ n9.toInt ∧ n9.toInt ≤ 40) ∧
    (∃ j : Nat, ks[j]? = some 7 ∧ ad[j]? = some r0) ∧ (∃ j : Nat, ks[j]? = some 8 ∧ ad[j]? = some r4) ∧ (∃ j : Nat, ks[j]? = some 9 ∧ ad[j]? = some r5) ∧ (∃ j : Nat, ks[j]? = some 10 ∧ ad[j]? = some r6) ∧ (∃ j : Nat, ks[j]? = some 11 ∧ ad[j]? = some r7) ∧ (∃ j : Nat, ks[j]? = some 12 ∧ ad[j]? = some r8) ∧ (∃ j : Nat, ks[j]? = some 13 ∧ ad[j]? = some r10) ∧ (∃ j : Nat, ks[j]? = some 14 ∧ ad[j]? = some r11) ∧ (∃ j : Nat, ks[j]? = some 15 ∧ ad[j]? = some r12) ∧ (∃ j : Nat, ks[j]? = some 16 ∧ ad[j]? = some r13) := by
  obtain ⟨e, h3, h4⟩ := zconf_at hc h1 h2 zks_0
  match e, h4 with
  | .inr (ci, fs), ⟨e1, e2⟩ =>
    dsimp only at e1 e2
    subst e1
    obtain ⟨_, _, rfl, ⟨r0, j0, rfl, k0, d0⟩, e21⟩ := zst1 e2
    obtain ⟨_, _, rfl, ⟨n1, rfl, l1⟩, e22⟩ := zst1 e21
    obtain ⟨_, _, rfl, ⟨n2, rfl, l2⟩, e23⟩ := zst1 e22
    obtain ⟨_, _, rfl, ⟨n3, rfl, l3⟩, e24⟩ := zst1 e23
    obtain ⟨_, _, rfl, ⟨r4, j4, rfl, k4, d4⟩, e25⟩ := zst1 e24
    obtain ⟨_, _, rfl, ⟨r5, j5, rfl, k5, d5⟩, e26⟩ := zst1 e25
    obtain ⟨_, _, rfl, ⟨r6, j6, rfl, k6, d6⟩, e27⟩ := zst1 e26
    obtain ⟨_, _, rfl, ⟨r7, j7, rfl, k7, d7⟩, e28⟩ := zst1 e27
    obtain ⟨_, _, rfl, ⟨r8, j8, rfl, k8, d8⟩, e29⟩ := zst1 e28
    obtain ⟨_, _, rfl, ⟨n9, rfl, l9⟩, e210⟩ := zst1 e29
    obtain ⟨_, _, rfl, ⟨r10, j10, rfl, k10, d10⟩, e211⟩ := zst1 e210
    obtain ⟨_, _, rfl, ⟨r11, j11, rfl, k11, d11⟩, e212⟩ := zst1 e211
    obtain ⟨_, _, rfl, ⟨r12, j12, rfl, k12, d12⟩, e213⟩ := zst1 e212
    obtain ⟨_, _, rfl, ⟨r13, j13, rfl, k13, d13⟩, e214⟩ := zst1 e213
    obtain rfl := zst0 e214
    exact ⟨r0, n1, n2, n3, r4, r5, r6, r7, r8, n9, r10, r11, r12, r13, h3, l2, l9, ⟨j0, k0, d0⟩, ⟨j4, k4, d4⟩, ⟨j5, k5, d5⟩, ⟨j6, k6, d6⟩, ⟨j7, k7, d7⟩, ⟨j8, k8, d8⟩, ⟨j10, k10, d10⟩, ⟨j11, k11, d11⟩, ⟨j12, k12, d12⟩, ⟨j13, k13, d13⟩⟩
  | .inl _, h4 => exact h4.elim
theorem zhk1 {D : va_G} {cl : List vw_C} {A : Nat → Prop} {tys : List (ClassId × FieldType)} {KS : List zk} {ks ad : List Nat} {RC : String} {Psi : va_W → Prop} {wq : List (Nat × Nat)} {ws0 w : va_W} {H H0 : Heap} {locs : List Loc} {i j : Nat} {x y : Nat × va_E} (_ : zHp D cl A H0 tys KS ks ad RC Psi wq ws0 (w.set j x) H locs) (hne : j ≠ i) (h : w[i]? = some y) : (w.set j x)[i]? = some y := (List.getElem?_set_ne hne).trans h
theorem zhk2 {D : va_G} {cl : List vw_C} {A : Nat → Prop} {tys : List (ClassId × FieldType)} {KS : List zk} {ks ad : List Nat} {RC : String} {Psi : va_W → Prop} {wq : List (Nat × Nat)} {ws0 w : va_W} {H H0 : Heap} {locs : List Loc} {i j j' : Nat} {x x' y : Nat × va_E} (_ : zHp D cl A H0 tys KS ks ad RC Psi wq ws0 ((w.set j x).set j' x') H locs) (hne' : j' ≠ i) (hne : j ≠ i) (h : w[i]? = some y) : ((w.set j x).set j' x')[i]? = some y := (List.getElem?_set_ne hne').trans ((List.getElem?_set_ne hne).trans h)
theorem zhkp {D : va_G} {cl : List vw_C} {w : va_W} {H : Heap} {i j : Nat} {x y : Nat × va_E} (_ : va_P D cl (w.set j x) H) (hne : j ≠ i) (h : w[i]? = some y) : (w.set j x)[i]? = some y := (List.getElem?_set_ne hne).trans h
theorem zhkz {D : va_G} {cl : List vw_C} {A : Nat → Prop} {tys : List (ClassId × FieldType)} {KS : List zk} {ks ad : List Nat} {RC : String} {Psi : va_W → Prop} {wq : List (Nat × Nat)} {ws0 w : va_W} {H H0 : Heap} {locs : List Loc} {i : Nat} {x y : Nat × va_E} (_ : zHp D cl A H0 tys KS ks ad RC Psi wq ws0 (w.set i x) H locs) (h : w[i]? = some y) : (w.set i x)[i]? = some x := List.getElem?_set_self (List.getElem?_eq_some_iff.mp h).1
