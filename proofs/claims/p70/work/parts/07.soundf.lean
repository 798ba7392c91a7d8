section ZC
variable {p : Program} {l : Launch} {e : Env} {R : Room} {s : State} {m : MethodId} {args : Array Value} {below : List Frame} {meth : Method} {c : Code} {cells slots : Nat} {Q : State → Prop}
variable {D : va_G} {cl : List vw_C} {A : Nat → Prop} {tys : List (ClassId × FieldType)} {KS : List zk} {uq NS : List Nat} {RC : String} {Psi : va_W → Prop} {wq : List (Nat × Nat)} {ws0 : va_W}
variable {cc : ByteArray} {pc : Nat} {ks ad : List Nat} {nL : Nat} {rs : List Int} {k : zK} {x : zs}
theorem zret_num {t : Option zt} {r : List Value} (h : zF2 (zok ks ad) t.toList r) : zF2 (fun (z : Int) (b : Int × Int) => b.1 ≤ z ∧ z ≤ b.2) (r.map znum) (zrenv t) := by
  match t, r, h with
  | none, [], _ => trivial
  | some t, [w], h =>
    unfold zrenv
    dsimp only
    by_cases hb : 2 ≤ t.1
    · rw [if_pos (Nat.ble_eq_true_of_le hb)]
      obtain ⟨tg, b⟩ := t
      match tg, hb, h with
      | q + 2, _, ⟨⟨a, i, h1, _⟩, _⟩ => rw [h1]; exact ⟨⟨Int.le_refl _, Int.le_refl _⟩, trivial⟩
    · rw [if_neg (fun h9 => hb (Nat.le_of_ble_eq_true h9))]
      exact ⟨zok_num h.1 (by omega), trivial⟩
  | none, _ :: _, h => exact h.elim
  | some _, [], h => exact h.elim
  | some _, _ :: _ :: _, h => exact h.2.elim
theorem zret_den {t : Option zt} {r : List Value} {r1 : List Int} (h : zF2 (zok ks ad) t.toList r) : zF2 (zden ks ad (r1 ++ r.map znum)) (ztag t r1.length) r := by
  match t, r, h with
  | none, [], _ => trivial
  | some t, [w], h =>
    unfold ztag
    dsimp only
    by_cases hb : 2 ≤ t.1
    · rw [if_pos (Nat.ble_eq_true_of_le hb)]
      exact ⟨zden_of (r := 0) h.1 rfl (fun h9 => absurd hb (by omega)), trivial⟩
    · rw [if_neg (fun h9 => hb (Nat.le_of_ble_eq_true h9))]
      exact ⟨zden_of h.1 rfl (fun _ => ⟨zg_new, (Int.add_zero _).symm⟩), trivial⟩
  | none, _ :: _, h => exact h.elim
  | some _, [], h => exact h.elim
  | some _, _ :: _ :: _, h => exact h.2.elim
theorem zret_vr {t : Option zt} {r : List Value} {r1 : List Int} (h0 : (r1 ++ r.map znum)[0]? = some 0) (h : zF2 (zok ks ad) t.toList r) : zF2 (zvr (r1 ++ r.map znum)) (ztag t r1.length) (r.map znum) := by
  refine zrz_num h0 (zret_den h) ?_
  unfold zrz ztag
  match t with
  | none => rfl
  | some t =>
    dsimp only
    by_cases hb : 2 ≤ t.1
    · rw [if_pos (Nat.ble_eq_true_of_le hb)]
      simp
    · rw [if_neg (fun h9 => hb (Nat.le_of_ble_eq_true h9))]
      have : Nat.blt t.1 2 = true := Nat.ble_eq_true_of_le (by omega)
      simp [this]
theorem zi_call (hk : ∀ pc x, k pc x = true → zW p l e R s m args below meth c cells slots Q (zHp D cl A s.heap tys KS ks ad RC Psi wq ws0) ks ad nL rs pc x) (hU : ∀ k ∈ uq, ∀ i j : Nat, ks[i]? = some k → ks[j]? = some k → i = j) (hX : ∀ k ∈ uq, ∃ i : Nat, ks[i]? = some k) (hL : ks.length = ad.length) {cs : List (Nat × Nat × zcon)} (hcall : ∀ q ∈ cs, zCallP p l e R s m args below meth c cells slots Q cc D cl A tys KS ks ad RC Psi nL q) {kd i : Nat} (hdg : decode cc pc = .ok (zinv kd i, 3)) (h : zCall KS uq wq cs k (pc + 3) kd i x = true) : zW p l e R s m args below meth c cells slots Q (zHp D cl A s.heap tys KS ks ad RC Psi wq ws0) ks ad nL rs pc x := by
  intro rho ws H locs ls sv hG hA
  obtain ⟨en, lo, st, me, fa⟩ := x
  unfold zCall at h
  split at h
  case h_2 => exact absurd h (by decide)
  rename_i q hq
  have hmem := List.mem_of_find?_eq_some hq
  have hq2 := List.find?_some hq
  simp only [Bool.and_eq_true, beq_iff_eq] at hq2
  obtain ⟨kd', idx', con⟩ := q
  obtain ⟨rfl, rfl, -⟩ := hq2
  dsimp only at h hA
  unfold zCall1 at h
  rw [Bool.and_eq_true, Bool.and_eq_true, Bool.and_eq_true, Bool.and_eq_true] at h
  obtain ⟨h1, hz, h2, h3, h⟩ := h
  split at h
  case h_2 => exact absurd h (by decide)
  rename_i em hem
  split at h
  case h_2 => exact absurd h (by decide)
  rename_i fv hfv
  dsimp only at h1 hz h2 h3 hem h
  rw [Bool.and_eq_true] at h
  obtain ⟨hpr, h⟩ := h
  have hst := hA.2.2.2.1
  have hAs := zF2_rev (zF2_take (n := con.1.length) hst)
  have hrest := zF2_drop (n := con.1.length) hst
  have hok := zfit2_ok hA.1 hAs h2
  obtain ⟨r2, hB⟩ := zfin_ok hG.2.2.2.1 hU hX hL hem (hA.stack hrest)
  have hBf := zvals_ok hB.2.2.2.2.1 hfv
  have hsv : sv = ((sv.take con.1.length).reverse).reverse ++ sv.drop con.1.length := by rw [List.reverse_reverse, List.take_append_drop]
  have hnumA := zrz_num hA.1.2.1 hAs (zrz_rev hz)
  have hpr2 : zfs (0 :: ((sv.take con.1.length).reverse).map znum ++ con.2.2.1.map (fun q => zfv ks ws q.1 q.2)) con.2.2.2.2.2.2 := by
    have hq1 : zF2 (zvr (rho ++ r2)) ((0, 0, 0) :: ((List.take con.1.length st).reverse) ++ fv) (0 :: ((sv.take con.1.length).reverse).map znum ++ con.2.2.1.map (fun q => zfv ks ws q.1 q.2)) := by
      refine zF2_app ?_ hBf
      exact ⟨⟨0, hB.1.2.1, rfl⟩, zF2_mono (fun _ _ g => zvr_app g) hnumA⟩
    exact zfall_ok hB.1 hB.2.2.2.2.2 hq1 (fun _ h => h) hpr
  rw [hsv]
  refine hcall _ hmem pc ls (sv.drop con.1.length) H locs ws (sv.take con.1.length).reverse hG.1 hG.2.1 hG.2.2.1 hG.2.2.2.1 hG.2.2.2.2.1 hok (zroom_ok hrest h1) hA.2.2.1.choose_spec.1.1 hpr2 hdg (fun H1 locs1 ws1 r b1 b2 b3 b4 b5 b6 b7 => ?_)
  obtain ⟨p1, p2, p3⟩ := b7
  have hlen : (rho ++ r2).length = em.1.length := hB.1.1
  have hE1 : zF2 (fun (z : Int) (b : Int × Int) => b.1 ≤ z ∧ z ≤ b.2) (con.2.2.2.1.map (fun q => zfv ks ws1 q.1 q.2.1)) (con.2.2.2.1.map (fun q => q.2.2)) := by
    clear p3 hBf hfv h hB hem
    generalize con.2.2.2.1 = L at p2
    induction L with
    | nil => trivial
    | cons z L ih => exact ⟨p2 z List.mem_cons_self, ih (fun q hq => p2 q (List.mem_cons_of_mem _ hq))⟩
  have hin1 := zin_app hB.1 hE1
  have hin2 := zin_app hin1 (zret_num p1)
  have hl1 : ((rho ++ r2) ++ con.2.2.2.1.map (fun q => zfv ks ws1 q.1 q.2.1)).length = em.1.length + con.2.2.2.1.length := by rw [List.length_append, hlen, List.length_map]
  have hden := zret_den (r1 := (rho ++ r2) ++ con.2.2.2.1.map (fun q => zfv ks ws1 q.1 q.2.1)) p1
  have hvr := zret_vr (r1 := (rho ++ r2) ++ con.2.2.2.1.map (fun q => zfv ks ws1 q.1 q.2.1)) hin2.2.1 p1
  rw [hl1] at hden hvr
  have hall : zF2 (zvr ((rho ++ r2) ++ con.2.2.2.1.map (fun q => zfv ks ws1 q.1 q.2.1) ++ r.map znum)) ((0, 0, 0) :: ((List.take con.1.length st).reverse) ++ fv ++ zids em.1.length con.2.2.2.1 ++ ztag con.2.1 (em.1.length + con.2.2.2.1.length)) (0 :: ((sv.take con.1.length).reverse).map znum ++ con.2.2.1.map (fun q => zfv ks ws q.1 q.2) ++ con.2.2.2.1.map (fun q => zfv ks ws1 q.1 q.2.1) ++ r.map znum) := by
    refine zF2_app (zF2_app (zF2_app ⟨⟨0, hin2.2.1, rfl⟩, zF2_mono (fun _ _ g => ?_) hnumA⟩ (zF2_mono (fun _ _ g => ?_) hBf)) ?_) hvr
    · rw [List.append_assoc, List.append_assoc]; exact zvr_app g
    · rw [List.append_assoc]; exact zvr_app g
    · have := zids_ok (l := con.2.2.2.1) (l' := con.2.2.2.1.map (fun q => zfv ks ws1 q.1 q.2.1)) (r1 := rho ++ r2) (r3 := r.map znum) (by rw [List.length_map])
      rw [hlen] at this
      exact this
  have hH : zHp D cl A s.heap tys KS ks ad RC Psi wq ws0 ws1 H1 locs1 := by
    refine ⟨b1, b2, b3, b4, b5, fun k' f' hf' => ?_⟩
    rw [b6 k' f' (fun h9 => hf' (by simpa using List.all_eq_true.mp h3 _ h9))]
    exact hG.2.2.2.2.2 k' f' hf'
  unfold zCall2 at h
  dsimp only at h
  refine hk _ _ h ((rho ++ r2) ++ con.2.2.2.1.map (fun q => zfv ks ws1 q.1 q.2.1) ++ r.map znum) ws1 H1 locs1 ls _ hH ⟨zprop_ok hin2 (zfmaps_ok hall p3), ?_, ?_, zF2_app hden (zF2_mono (fun _ _ g => ?_) hB.2.2.2.1), ?_, ?_⟩
  · obtain ⟨r3, e3⟩ := hB.2.1
    exact ⟨r3 ++ (con.2.2.2.1.map (fun q => zfv ks ws1 q.1 q.2.1) ++ r.map znum), by rw [e3, List.append_assoc, List.append_assoc]⟩
  · obtain ⟨lv, c1, c2⟩ := hB.2.2.1
    exact ⟨lv, c1, zF2_mono (fun _ _ g => ⟨g.1, by rw [List.append_assoc]; exact zden_app g.2⟩) c2⟩
  · rw [List.append_assoc]; exact zden_app g
  · intro z hz9
    rcases List.mem_append.mp hz9 with hz9 | hz9
    · have := zfout_ok (KS := KS) (ks := ks) (ws := ws1) (q := con.2.2.2.1) (r1 := rho ++ r2) (r3 := r.map znum)
      rw [hlen] at this
      exact this z hz9
    · rw [List.mem_filter] at hz9
      obtain ⟨r9, d1, d2⟩ := hB.2.2.2.2.1 z hz9.1
      refine ⟨r9, by rw [List.append_assoc]; exact zg_app d1, ?_⟩
      rw [b6 z.1 z.2.1 (fun h9 => by have := hz9.2; simp [h9] at this)]
      exact d2
  · intro f hf
    rcases List.mem_append.mp hf with hf | hf
    · exact zfmaps_ok hall p3 f hf
    have hfa : zfs ((rho ++ r2) ++ con.2.2.2.1.map (fun q => zfv ks ws1 q.1 q.2.1) ++ r.map znum) fa := fun f hf => by
      have := hB.2.2.2.2.2 f hf
      rw [List.append_assoc]
      exact zfh_app this
    rcases List.mem_append.mp hf with hf | hf
    · exact ztr_ok (zfmaps_ok hall p3) hfa f hf
    · exact hfa f hf
theorem zfo_ok {rho : List Int} {en : zenv} {me : zmem} {ws : va_W} (hi : zin rho en) (hm : zmh ks rho ws me) : ∀ {q : List (Nat × Nat × Int × Int)} {fv : List zv}, zvals me (q.map (fun q => (q.1, q.2.1))) = some fv → (fv.zip q).all (fun q => zsubI (zr en q.1) q.2.2.2) = true → ∀ z ∈ q, z.2.2.1 ≤ zfv ks ws z.1 z.2.1 ∧ zfv ks ws z.1 z.2.1 ≤ z.2.2.2
  | [], _, _, _, z, hz => by cases hz
  | y :: q, fv, h, ha, z, hz => by
    rw [List.map_cons] at h
    unfold zvals at h
    split at h
    case h_2 => cases h
    rename_i v fl hv hl
    cases h
    rw [List.zip_cons_cons, List.all_cons, Bool.and_eq_true] at ha
    rcases List.mem_cons.mp hz with rfl | hz
    · obtain ⟨r, h1, h2⟩ := hm _ (zlook_some hv)
      have h3 := zr_ok hi h1
      have h4 := ha.1
      simp only [zsubI, Bool.and_eq_true, decide_eq_true_eq] at h4
      dsimp only at h2 h3
      omega
    · exact zfo_ok hi hm hl ha.2 z hz
theorem zi_ret {con : zcon} {As0 : List Value} (hR : zRetP p l e R s m args below meth c cells slots Q cc (zHp D cl A s.heap tys KS ks ad RC Psi wq ws0) ks ad con As0 ws0) (hpe : zpre (0 :: As0.map znum ++ con.2.2.1.map (fun q => zfv ks ws0 q.1 q.2)) rs) (hlA : As0.length = con.1.length) (hdg : decode cc pc = .ok (zrins (zrt con.2.1), 1)) (h : zRet con x = true) : zW p l e R s m args below meth c cells slots Q (zHp D cl A s.heap tys KS ks ad RC Psi wq ws0) ks ad nL rs pc x := by
  intro rho ws H locs ls sv hG hA
  obtain ⟨en, lo, st, me, fa⟩ := x
  unfold zRet at h
  rw [Bool.and_eq_true, Bool.and_eq_true] at h
  obtain ⟨h1, hz, h⟩ := h
  split at h
  case h_2 => exact absurd h (by decide)
  rename_i fv hfv
  rw [Bool.and_eq_true] at h
  dsimp only at h1 hz hfv h hA
  refine hR pc ls H locs ws sv hG ⟨zfit2_ok hA.1 hA.2.2.2.1 h1, zfo_ok hA.1 hA.2.2.2.2.1 hfv h.1, fun f hf => ?_⟩ hdg
  have hv := zvals_ok hA.2.2.2.2.1 hfv
  rw [List.map_map] at hv
  obtain ⟨q1, e1⟩ := hpe
  obtain ⟨q2, e2⟩ := hA.2.1
  have hp : zF2 (zvr rho) (zpers (1 + con.1.length + con.2.2.1.length)) (0 :: As0.map znum ++ con.2.2.1.map (fun q => zfv ks ws0 q.1 q.2)) := by
    rw [e2, e1, List.append_assoc]
    refine zpers_ok ?_
    rw [List.length_append, List.length_cons, List.length_map, List.length_map, hlA]
    omega
  exact zfall_ok hA.1 hA.2.2.2.2.2 (zF2_app (zF2_app hp hv) (zrz_num hA.1.2.1 hA.2.2.2.1 hz)) (fun _ h => h) h.2 f hf
/-! cuts -/
theorem zmv_ok {np : Nat} {tv cv : zv} {acc acc1 : List zv} {rho : List Int} (h : zmv np tv cv acc = some acc1) : (∃ more, acc1 = acc ++ more) ∧ (∀ {w : Value}, zden ks ad rho cv w → ∀ (sub : List zv) (nu : List Int), (∃ tl, sub = acc1 ++ tl) → zF2 (zvr rho) (zpers np ++ sub) nu → zden ks ad nu tv w) ∧ (tv.1 < 2 → ∀ {z : Int}, zvr rho cv z → ∀ (sub : List zv) (nu : List Int), (∃ tl, sub = acc1 ++ tl) → zF2 (zvr rho) (zpers np ++ sub) nu → zvr nu tv z) ∧ (∀ {w : Value}, zden ks ad rho cv w → (∀ v ∈ acc, ∃ z, zvr rho v z) → ∀ v ∈ acc1, ∃ z, zvr rho v z) ∧ (∀ {z : Int}, zvr rho cv z → (∀ v ∈ acc, ∃ z, zvr rho v z) → ∀ v ∈ acc1, ∃ z, zvr rho v z) := by
  have hplen : ∀ n : Nat, (zpers n).length = n := by
    intro n
    unfold zpers
    have : ∀ (l : List Unit) (j : Nat), (zids j l).length = l.length := by
      intro l
      induction l with
      | nil => intro j; rfl
      | cons a l ih => intro j; show (zids (j + 1) l).length + 1 = l.length + 1; rw [ih]
    rw [this, List.length_replicate]
  have hpget : ∀ n j : Nat, j < n → (zpers n)[j]? = some (0, j, 0) := by
    intro n
    unfold zpers
    have : ∀ (l : List Unit) (j0 j : Nat), j < l.length → (zids j0 l)[j]? = some (0, j0 + j, 0) := by
      intro l
      induction l with
      | nil => intro j0 j hj; simp at hj
      | cons a l ih =>
        intro j0 j hj
        cases j with
        | zero => rfl
        | succ j => show (zids (j0 + 1) l)[j]? = _; rw [ih (j0 + 1) j (by simpa using hj)]; rw [show j0 + 1 + j = j0 + (j + 1) by omega]
    intro j hj
    have := this (List.replicate n ()) 0 j (by simpa using hj)
    rw [Nat.zero_add] at this
    exact this
  unfold zmv at h
  by_cases hb : 2 ≤ tv.1
  · rw [if_pos (Nat.ble_eq_true_of_le hb)] at h
    split at h
    case isFalse => cases h
    rename_i he
    rw [beq_iff_eq] at he
    cases h
    refine ⟨⟨[], (List.append_nil _).symm⟩, fun hd sub nu _ _ => ?_, fun h9 => absurd hb (by omega), fun _ ha => ha, fun _ ha => ha⟩
    obtain ⟨a, i, h1, h2, h3⟩ := zden_ref hd (by omega)
    obtain ⟨tt, tq⟩ := tv
    dsimp only at he hb
    match tt, hb, he with
    | kk + 2, _, he =>
      have : cv.1 - 2 = kk := by omega
      rw [this] at h2
      exact ⟨a, i, h1, h2, h3⟩
  · rw [if_neg (fun h9 => hb (Nat.le_of_ble_eq_true h9))] at h
    split at h
    case isFalse => cases h
    rename_i he
    rw [beq_iff_eq] at he
    have key : (∀ {z : Int}, zvr rho cv z → ∀ (sub : List zv) (nu : List Int), (∃ tl, sub = acc1 ++ tl) → zF2 (zvr rho) (zpers np ++ sub) nu → zvr nu tv z) ∧ (∃ more, acc1 = acc ++ more) ∧ ((∃ z, zvr rho cv z) → (∀ v ∈ acc, ∃ z, zvr rho v z) → ∀ v ∈ acc1, ∃ z, zvr rho v z) := by
      split at h
      · rename_i hlt
        have hlt : tv.2.1 < np := Nat.le_of_ble_eq_true hlt
        split at h
        case isFalse => cases h
        rename_i hc
        rw [Bool.and_eq_true, beq_iff_eq, beq_iff_eq] at hc
        cases h
        refine ⟨fun hz sub nu _ hF => ?_, ⟨[], (List.append_nil _).symm⟩, fun _ ha => ha⟩
        obtain ⟨a, h1, h2⟩ := hz
        have hg : (zpers np ++ sub)[tv.2.1]? = some (0, tv.2.1, 0) := by rw [List.getElem?_append_left (by rw [hplen]; exact hlt)]; exact hpget np _ hlt
        obtain ⟨r, g1, a', g2, g3⟩ := zF2_get hF hg
        dsimp only at g2 g3
        rw [hc.1, h1] at g2
        cases g2
        exact ⟨r, g1, by omega⟩
      · split at h
        case isFalse => cases h
        rename_i hc
        rw [Bool.and_eq_true, beq_iff_eq, beq_iff_eq] at hc
        cases h
        refine ⟨fun hz sub nu hs hF => ?_, ⟨[cv], rfl⟩, fun hz ha v hv => ?_⟩
        · obtain ⟨tl, rfl⟩ := hs
          have hg : (zpers np ++ (acc ++ [cv] ++ tl))[tv.2.1]? = some cv := by
            rw [hc.1, List.getElem?_append_right (by rw [hplen]; omega), hplen, List.append_assoc, List.getElem?_append_right (by omega), show np + acc.length - np - acc.length = 0 by omega]
            rfl
          obtain ⟨r, g1, a', g2, g3⟩ := zF2_get hF hg
          obtain ⟨a, h1, h2⟩ := hz
          rw [h1] at g2; cases g2
          exact ⟨r, g1, by omega⟩
        · rcases List.mem_append.mp hv with hv | hv
          · exact ha v hv
          · rw [List.mem_singleton] at hv; subst hv; exact hz
    refine ⟨key.2.1, fun hd sub nu hs hF => ?_, fun _ z hz => key.1 hz, fun hd => key.2.2 ?_, fun hz => key.2.2 ⟨_, hz⟩⟩
    · obtain ⟨r, e1, e2⟩ := zden_num hd (by omega)
      obtain ⟨r', e3, e4⟩ := key.1 ⟨r, e1, e2⟩ sub nu hs hF
      obtain ⟨tt, ti, tof⟩ := tv
      dsimp only at he hb e3 e4
      obtain ⟨ct, ci, cof⟩ := cv
      dsimp only at he e1 e2
      subst he
      match tt, hb, hd with
      | 0, _, ⟨y, ry, f1, f2, f3⟩ => rw [f1] at e4; exact ⟨y, r', f1, e3, e4⟩
      | 1, _, ⟨y, ry, f1, f2, f3⟩ => rw [f1] at e4; exact ⟨y, r', f1, e3, e4⟩
      | kk + 2, hb, _ => exact absurd (by omega) hb
    · obtain ⟨r, e1, e2⟩ := zden_num hd (by omega)
      exact ⟨_, r, e1, e2⟩
theorem zml_ok {np : Nat} {en : zenv} {lo : List (Nat × zv)} {st : List zv} {me : zmem} {fa : List zfact} {rho : List Int} {ws : va_W} {ls : Array Slot} {sv : List Value} (hA : zAb ks ad nL rs en lo st me fa rho ws ls sv) : ∀ {tl : List (Nat × zv)} {acc acc1 : List zv}, zml np lo tl acc = some acc1 → (∀ v ∈ acc, ∃ z, zvr rho v z) → (∃ more, acc1 = acc ++ more) ∧ (∀ v ∈ acc1, ∃ z, zvr rho v z) ∧ (∀ (sub : List zv) (nu : List Int), (∃ t, sub = acc1 ++ t) → zF2 (zvr rho) (zpers np ++ sub) nu → ∃ lv : List (Nat × Value), (∀ q ∈ lv, ls[q.1]? = some (.val q.2)) ∧ zF2 (fun a b => a.1 = b.1 ∧ zden ks ad nu a.2 b.2) tl lv)
  | [], acc, acc1, h, ha => by
    unfold zml at h
    cases h
    exact ⟨⟨[], (List.append_nil _).symm⟩, ha, fun _ _ _ _ => ⟨[], fun q hq => (by cases hq), trivial⟩⟩
  | q :: tl, acc, acc1, h, ha => by
    unfold zml at h
    split at h
    case h_2 => cases h
    rename_i z hz
    split at h
    case h_2 => cases h
    rename_i acc2 hm
    obtain ⟨w, lv, j, c1, c2, c3, c4⟩ := hA.loc hz
    obtain ⟨⟨m1, e1⟩, d1, -, d3, -⟩ := zmv_ok (ks := ks) (ad := ad) (rho := rho) hm
    obtain ⟨⟨m2, e2⟩, f1, f2⟩ := zml_ok hA h (d3 c4 ha)
    refine ⟨⟨m1 ++ m2, by rw [e2, e1, List.append_assoc]⟩, f1, fun sub nu hs hF => ?_⟩
    obtain ⟨lv2, g1, g2⟩ := f2 sub nu hs hF
    refine ⟨(q.1, w) :: lv2, fun y hy => ?_, ⟨rfl, d1 c4 sub nu ?_ hF⟩, g2⟩
    · rcases List.mem_cons.mp hy with rfl | hy
      · exact c3
      · exact g1 y hy
    · obtain ⟨t, rfl⟩ := hs
      exact ⟨m2 ++ t, by rw [e2, List.append_assoc]⟩
theorem zms_ok {np : Nat} {rho : List Int} : ∀ {ts st : List zv} {sv : List Value} {acc acc1 : List zv}, zms np ts st acc = some acc1 → zF2 (zden ks ad rho) st sv → (∀ v ∈ acc, ∃ z, zvr rho v z) → (∃ more, acc1 = acc ++ more) ∧ (∀ v ∈ acc1, ∃ z, zvr rho v z) ∧ (∀ (sub : List zv) (nu : List Int), (∃ t, sub = acc1 ++ t) → zF2 (zvr rho) (zpers np ++ sub) nu → zF2 (zden ks ad nu) ts sv)
  | [], [], [], acc, acc1, h, _, ha => by
    unfold zms at h
    cases h
    exact ⟨⟨[], (List.append_nil _).symm⟩, ha, fun _ _ _ _ => trivial⟩
  | t :: ts, c :: st, w :: sv, acc, acc1, h, hd, ha => by
    unfold zms at h
    split at h
    case h_2 => cases h
    rename_i acc2 hm
    obtain ⟨⟨m1, e1⟩, d1, -, d3, -⟩ := zmv_ok (ks := ks) (ad := ad) (rho := rho) hm
    obtain ⟨⟨m2, e2⟩, f1, f2⟩ := zms_ok h hd.2 (d3 hd.1 ha)
    refine ⟨⟨m1 ++ m2, by rw [e2, e1, List.append_assoc]⟩, f1, fun sub nu hs hF => ⟨d1 hd.1 sub nu ?_ hF, f2 sub nu hs hF⟩⟩
    obtain ⟨t, rfl⟩ := hs
    exact ⟨m2 ++ t, by rw [e2, List.append_assoc]⟩
  | [], _ :: _, _, _, _, h, _, _ => by simp [zms] at h
  | _ :: _, [], _, _, _, h, _, _ => by simp [zms] at h
  | [], [], _ :: _, _, _, _, hd, _ => hd.elim
  | _ :: _, _ :: _, [], _, _, _, hd, _ => hd.elim
theorem zmm_ok {np : Nat} {rho : List Int} {ws : va_W} {me : zmem} (hM : zmh ks rho ws me) : ∀ {tm : zmem} {acc acc1 : List zv}, zmm np me tm acc = some acc1 → (∀ v ∈ acc, ∃ z, zvr rho v z) → (∃ more, acc1 = acc ++ more) ∧ (∀ v ∈ acc1, ∃ z, zvr rho v z) ∧ (∀ (sub : List zv) (nu : List Int), (∃ t, sub = acc1 ++ t) → zF2 (zvr rho) (zpers np ++ sub) nu → zmh ks nu ws tm)
  | [], acc, acc1, h, ha => by
    unfold zmm at h
    cases h
    exact ⟨⟨[], (List.append_nil _).symm⟩, ha, fun _ _ _ _ q hq => by cases hq⟩
  | q :: tm, acc, acc1, h, ha => by
    unfold zmm at h
    split at h
    case h_2 => cases h
    rename_i v hv
    split at h
    case h_2 => cases h
    rename_i acc2 hm
    split at hm
    case isFalse => cases hm
    rename_i ht
    have ht : q.2.2.1 < 2 := Nat.le_of_ble_eq_true ht
    obtain ⟨⟨m1, e1⟩, -, d2, -, d4⟩ := zmv_ok (ks := ks) (ad := []) (rho := rho) hm
    obtain ⟨r, g1, g2⟩ := hM _ (zlook_some hv)
    obtain ⟨⟨m2, e2⟩, f1, f2⟩ := zmm_ok hM h (d4 ⟨r, g1, g2⟩ ha)
    refine ⟨⟨m1 ++ m2, by rw [e2, e1, List.append_assoc]⟩, f1, fun sub nu hs hF y hy => ?_⟩
    rcases List.mem_cons.mp hy with rfl | hy
    · obtain ⟨t, rfl⟩ := hs
      exact d2 ht ⟨r, g1, g2⟩ _ nu ⟨m2 ++ t, by rw [e2, List.append_assoc]⟩ hF
    · exact f2 sub nu hs hF y hy
theorem zvr_ex {rho : List Int} : ∀ {vs : List zv}, (∀ v ∈ vs, ∃ z, zvr rho v z) → ∃ nu, zF2 (zvr rho) vs nu
  | [], _ => ⟨[], trivial⟩
  | v :: vs, h => by
    obtain ⟨z, hz⟩ := h v List.mem_cons_self
    obtain ⟨nu, hn⟩ := zvr_ex (fun u hu => h u (List.mem_cons_of_mem _ hu))
    exact ⟨z :: nu, hz, hn⟩
theorem zsubE_ok {rho : List Int} {en : zenv} (hi : zin rho en) : ∀ {vs : List zv} {te : zenv} {nu : List Int}, zF2 (zvr rho) vs nu → zsubE en vs te = true → vs.length = te.length → ∀ (i : Nat) (r : Int) (q : Int × Int), nu[i]? = some r → te[i]? = some q → q.1 ≤ r ∧ r ≤ q.2
  | [], _, [], _, _, _, i, r, q, hr, _ => by simp at hr
  | v :: vs, b :: te, n :: nu, h, hs, hl, i, r, q, hr, hq => by
    unfold zsubE at hs
    rw [List.zip_cons_cons, List.all_cons, Bool.and_eq_true] at hs
    cases i with
    | zero =>
      cases hr; cases hq
      obtain ⟨a, h1, h2⟩ := h.1
      have := zr_ok hi h1
      have h4 := hs.1
      simp only [zsubI, Bool.and_eq_true, decide_eq_true_eq] at h4
      omega
    | succ i => exact zsubE_ok hi h.2 hs.2 (by simpa using hl) i r q hr hq
  | _ :: _, [], _, _, _, hl, _, _, _, _, _ => by simp at hl
  | [], _, _ :: _, h, _, _, _, _, _, _, _ => h.elim
  | _ :: _, _ :: _, [], h, _, _, _, _, _, _, _ => h.elim
/-! ranks -/
def zlin : List Int → List Int → Int
  | c :: cs, r :: rs => c * r + zlin cs rs
  | _, _ => 0
theorem zadd1_ok : ∀ {cs rho : List Int} {i : Nat} {c a : Int}, rho[i]? = some a → i < cs.length → zlin (zadd1 cs i c) rho = zlin cs rho + c * a
  | d :: cs, r :: rho, 0, c, a, h, _ => by
    have e : r = a := by simpa using h
    subst e
    show (d + c) * r + zlin cs rho = d * r + zlin cs rho + c * r
    rw [Int.add_mul]; omega
  | d :: cs, r :: rho, i + 1, c, a, h, hl => by
    have hl' : i < cs.length := by simpa using hl
    have ih := zadd1_ok (cs := cs) (rho := rho) (i := i) (c := c) (a := a) (by simpa using h) hl'
    have e : zadd1 (d :: cs) (i + 1) c = d :: zadd1 cs i c := by
      unfold zadd1
      rw [List.getElem?_cons_succ, List.getElem?_eq_getElem hl']
      rfl
    rw [e]
    show d * r + zlin (zadd1 cs i c) rho = d * r + zlin cs rho + c * a
    rw [ih]; omega
  | [], _, _, _, _, _, hl => by simp at hl
  | _ :: _, [], _, _, _, h, _ => by simp at h
theorem zadd1_len {cs : List Int} {i : Nat} {c : Int} : (zadd1 cs i c).length = cs.length := by
  unfold zadd1
  split
  · rw [List.length_set]
  · rfl
theorem zaddl_ok {rho : List Int} : ∀ {rk : List Int} {vs : List zv} {nu : List Int} {acc : List Int} {k0 : Int}, zF2 (zvr rho) vs nu → rho.length ≤ acc.length → (zaddl rk vs acc k0).1.length = acc.length ∧ zlin (zaddl rk vs acc k0).1 rho + (zaddl rk vs acc k0).2 = zlin acc rho + k0 + zlin rk nu
  | c :: rk, v :: vs, n :: nu, acc, k0, h, hl => by
    obtain ⟨a, h1, h2⟩ := h.1
    have hi := (List.getElem?_eq_some_iff.mp h1).1
    obtain ⟨i1, i2⟩ := zaddl_ok (rk := rk) (vs := vs) (nu := nu) (acc := zadd1 acc v.2.1 c) (k0 := k0 + c * v.2.2) h.2 (by rw [zadd1_len]; exact hl)
    unfold zaddl
    refine ⟨by rw [i1, zadd1_len], ?_⟩
    rw [i2, zadd1_ok h1 (by omega)]
    show _ = _ + k0 + (c * n + zlin rk nu)
    rw [h2, Int.mul_add]; omega
  | [], vs, nu, acc, k0, _, _ => by
    have : zlin [] nu = 0 := by cases nu <;> rfl
    rw [this]
    refine ⟨rfl, ?_⟩
    show zlin acc rho + k0 = zlin acc rho + k0 + 0
    omega
  | _ :: _, [], [], acc, k0, _, _ => ⟨rfl, by show zlin acc rho + k0 = zlin acc rho + k0 + 0; omega⟩
  | _ :: _, [], _ :: _, _, _, h, _ => h.elim
  | _ :: _, _ :: _, [], _, _, h, _ => h.elim
theorem zset0_ok : ∀ {cs rho : List Int} {i : Nat} {t a : Int}, rho[i]? = some a → cs[i]? = some t → zlin (cs.set i 0) rho = zlin cs rho - t * a
  | d :: cs, r :: rho, 0, t, a, h, hc => by
    have e : r = a := by simpa using h
    have e2 : d = t := by simpa using hc
    subst e; subst e2
    show 0 * r + zlin cs rho = d * r + zlin cs rho - d * r
    rw [Int.zero_mul]; omega
  | d :: cs, r :: rho, i + 1, t, a, h, hc => by
    have ih := zset0_ok (cs := cs) (rho := rho) (i := i) (t := t) (a := a) (by simpa using h) (by simpa using hc)
    show d * r + zlin (cs.set i 0) rho = d * r + zlin cs rho - t * a
    rw [ih]; omega
  | [], _, _, _, _, _, hc => by simp at hc
  | _ :: _, [], _, _, _, h, _ => by simp at h
theorem zelim_ok {rho : List Int} {en : zenv} (hi : zin rho en) : ∀ {fa : List zfact} {q : List Int × Int}, zfs rho fa → rho.length ≤ q.1.length → zlin q.1 rho + q.2 ≤ zlin (zelim en fa q).1 rho + (zelim en fa q).2
  | [], q, _, _ => Int.le_refl _
  | f :: fa, q, hf, hl => by
    have hf' : zfs rho fa := fun g hg => hf g (List.mem_cons_of_mem _ hg)
    have step : ∀ q1 : List Int × Int, rho.length ≤ q1.1.length → zlin q.1 rho + q.2 ≤ zlin q1.1 rho + q1.2 → zelim en (f :: fa) q = zelim en fa q1 → zlin q.1 rho + q.2 ≤ zlin (zelim en (f :: fa) q).1 rho + (zelim en (f :: fa) q).2 := by
      intro q1 h1 h2 h3
      rw [h3]
      exact Int.le_trans h2 (zelim_ok hi hf' h1)
    cases hq : q.1[f.2.1]? with
    | none => exact step q hl (Int.le_refl _) (by unfold zelim; rw [List.foldl_cons, hq])
    | some t =>
      by_cases hc : (decide (t < 0) && f.1.all (zsure en) && !(f.2.1 == f.2.2.1)) = true
      · refine step (zadd1 (q.1.set f.2.1 0) f.2.2.1 t, q.2 + t * f.2.2.2) ?_ ?_ (by unfold zelim; rw [List.foldl_cons, hq]; dsimp only; rw [if_pos hc])
        · show _ ≤ (zadd1 (q.1.set f.2.1 0) f.2.2.1 t).length
          rw [zadd1_len, List.length_set]; exact hl
        · rw [Bool.and_eq_true, Bool.and_eq_true, decide_eq_true_eq] at hc
          obtain ⟨a, b, h1, h2, h3⟩ := hf f List.mem_cons_self (fun z hz r hr => zsure_ok hi (List.all_eq_true.mp hc.1.2 z hz) hr)
          have hbl := (List.getElem?_eq_some_iff.mp h2).1
          show zlin q.1 rho + q.2 ≤ zlin (zadd1 (q.1.set f.2.1 0) f.2.2.1 t) rho + (q.2 + t * f.2.2.2)
          rw [zadd1_ok h2 (by rw [List.length_set]; omega), zset0_ok h1 hq]
          have h4 : t * a ≤ t * (b + f.2.2.2) := Int.mul_le_mul_of_nonpos_left (by omega) h3
          rw [Int.mul_add] at h4
          omega
      · exact step q hl (Int.le_refl _) (by unfold zelim; rw [List.foldl_cons, hq]; dsimp only; rw [if_neg hc])
theorem zub_ok : ∀ {cs : List Int} {rho : List Int} {en : zenv}, zF2 (fun (r : Int) (b : Int × Int) => b.1 ≤ r ∧ r ≤ b.2) rho en → zlin cs rho ≤ zub cs en
  | c :: cs, r :: rho, b :: en, h => by
    have ih := zub_ok (cs := cs) h.2
    show c * r + zlin cs rho ≤ (if decide (0 ≤ c) then c * b.2 else c * b.1) + zub cs en
    by_cases hc : 0 ≤ c
    · rw [if_pos (by simpa using hc)]
      have := Int.mul_le_mul_of_nonneg_left h.1.2 hc
      omega
    · rw [if_neg (by simpa using hc)]
      have := Int.mul_le_mul_of_nonpos_left (a := c) (by omega) h.1.1
      omega
  | [], rho, en, _ => by
    have e1 : zlin [] rho = 0 := by cases rho <;> rfl
    have e2 : zub [] en = 0 := by cases en <;> rfl
    rw [e1, e2]; exact Int.le_refl _
  | _ :: _, [], [], _ => Int.le_refl _
  | _ :: _, [], _ :: _, h => h.elim
  | _ :: _, _ :: _, [], h => h.elim
theorem zlb_ok : ∀ {cs : List Int} {rho : List Int} {en : zenv}, zF2 (fun (r : Int) (b : Int × Int) => b.1 ≤ r ∧ r ≤ b.2) rho en → zlb cs en ≤ zlin cs rho
  | c :: cs, r :: rho, b :: en, h => by
    have ih := zlb_ok (cs := cs) h.2
    show (if decide (0 ≤ c) then c * b.1 else c * b.2) + zlb cs en ≤ c * r + zlin cs rho
    by_cases hc : 0 ≤ c
    · rw [if_pos (by simpa using hc)]
      have := Int.mul_le_mul_of_nonneg_left h.1.1 hc
      omega
    · rw [if_neg (by simpa using hc)]
      have := Int.mul_le_mul_of_nonpos_left (a := c) (by omega) h.1.2
      omega
  | [], rho, en, _ => by
    have e1 : zlin [] rho = 0 := by cases rho <;> rfl
    have e2 : zlb [] en = 0 := by cases en <;> rfl
    rw [e1, e2]; exact Int.le_refl _
  | _ :: _, [], [], _ => Int.le_refl _
  | _ :: _, [], _ :: _, h => h.elim
  | _ :: _, _ :: _, [], h => h.elim
theorem zin_F2 : ∀ {rho : List Int} {en : zenv}, rho.length = en.length → (∀ (i : Nat) (r : Int) (q : Int × Int), rho[i]? = some r → en[i]? = some q → q.1 ≤ r ∧ r ≤ q.2) → zF2 (fun (r : Int) (b : Int × Int) => b.1 ≤ r ∧ r ≤ b.2) rho en
  | [], [], _, _ => trivial
  | _ :: rho, _ :: en, hl, h => ⟨h 0 _ _ rfl rfl, zin_F2 (by simpa using hl) (fun i r q h1 h2 => h (i + 1) r q h1 h2)⟩
  | [], _ :: _, hl, _ => by simp at hl
  | _ :: _, [], hl, _ => by simp at hl
theorem zneg_ok : ∀ {rk rho : List Int} {n : Nat}, rk.length ≤ rho.length → rho.length ≤ n → zlin (zneg n rk) rho = - zlin rk rho ∧ (zneg n rk).length = n := by
  intro rk rho n h1 h2
  unfold zneg
  refine ⟨?_, by rw [List.length_append, List.length_map, List.length_replicate]; omega⟩
  have hz : ∀ (j : Nat) (rho : List Int), zlin (List.replicate j 0) rho = 0 := by
    intro j
    induction j with
    | zero => intro rho; cases rho <;> rfl
    | succ j ih =>
      intro rho
      cases rho with
      | nil => rfl
      | cons r rho => show 0 * r + zlin (List.replicate j 0) rho = 0; rw [ih, Int.zero_mul]; rfl
  clear h2
  generalize n - rk.length = j
  induction rk generalizing rho with
  | nil =>
    have e1 : zlin [] rho = 0 := by cases rho <;> rfl
    rw [e1]; exact hz j rho
  | cons c rk ih =>
    cases rho with
    | nil => simp at h1
    | cons r rho =>
      show -c * r + zlin (rk.map (fun c => -c) ++ List.replicate j 0) rho = -(c * r + zlin rk rho)
      rw [ih (by simpa using h1), Int.neg_mul]; omega
theorem zlin_app : ∀ {rk rs r2 : List Int}, rk.length ≤ rs.length → zlin rk (rs ++ r2) = zlin rk rs
  | [], rs, r2, _ => by
    have e1 : ∀ l : List Int, zlin [] l = 0 := by intro l; cases l <;> rfl
    rw [e1, e1]
  | c :: rk, r :: rs, r2, h => by
    show c * r + zlin rk (rs ++ r2) = c * r + zlin rk rs
    rw [zlin_app (by simpa using h)]
  | _ :: _, [], _, h => by simp at h
theorem zF2_len' {rho : List Int} {vs : List zv} {nu : List Int} (h : zF2 (zvr rho) vs nu) : nu.length = vs.length := (zF2_len h).symm
theorem zi_cut (hU : ∀ k ∈ uq, ∀ i j : Nat, ks[i]? = some k → ks[j]? = some k → i = j) (hX : ∀ k ∈ uq, ∃ i : Nat, ks[i]? = some k) (hL : ks.length = ad.length) {np : Nat} {pe : List Int} (hpl : pe.length = np) (hnp : 0 < np) (hpe : zpre pe rs) {src : Option (Int × List Int)} (hsrc : ∀ q, src = some q → q.2.length ≤ rs.length) {T : zcut} {rho : List Int} {ws : va_W} {ls : Array Slot} {sv : List Value} (hc : zconf KS ks ad RC tys ws) (hA : zAb ks ad nL rs x.1 x.2.1 x.2.2.1 x.2.2.2.1 x.2.2.2.2 rho ws ls sv) (h : zCut KS uq np src T x = true) :
    ∃ nu : List Int, zpre pe nu ∧ zAb ks ad nL nu T.2.1.1 T.2.1.2.1 T.2.1.2.2.1 T.2.1.2.2.2.1 T.2.1.2.2.2.2 nu ws ls sv ∧ (∀ q, src = some q → T.2.2.1 + zlin T.2.2.2 nu < q.1 + zlin q.2 rs) := by
  unfold zCut at h
  rw [Bool.and_eq_true] at h
  replace h := h.2
  split at h
  case h_2 => exact absurd h (by decide)
  rename_i em hem
  split at h
  case h_2 => exact absurd h (by decide)
  rename_i a1 h1
  split at h
  case h_2 => exact absurd h (by decide)
  rename_i a2 h2
  split at h
  case h_2 => exact absurd h (by decide)
  rename_i sub h3
  dsimp only at h
  rw [Bool.and_eq_true, Bool.and_eq_true, Bool.and_eq_true, Bool.and_eq_true, beq_iff_eq] at h
  obtain ⟨h4, h5, h6, h7, h8⟩ := h
  obtain ⟨r2, hB⟩ := zfin_ok hc hU hX hL hem hA
  obtain ⟨⟨m1, e1⟩, f1, g1⟩ := zml_ok hB h1 (fun v hv => by cases hv)
  obtain ⟨⟨m2, e2⟩, f2, g2⟩ := zms_ok h2 hB.2.2.2.1 f1
  obtain ⟨⟨m3, e3⟩, f3, g3⟩ := zmm_ok hB.2.2.2.2.1 h3 f2
  obtain ⟨q1, d1⟩ := hpe
  obtain ⟨q2, d2⟩ := hB.2.1
  have hpers : zF2 (zvr (rho ++ r2)) (zpers np) pe := by rw [d2, d1, List.append_assoc]; exact zpers_ok hpl
  obtain ⟨nu2, hn2⟩ := zvr_ex f3
  have hF : zF2 (zvr (rho ++ r2)) (zpers np ++ sub) (pe ++ nu2) := zF2_app hpers hn2
  have hvl : (zpers np ++ sub).length = T.2.1.1.length := by rw [zF2_len hF, List.length_append, hpl, h5, zF2_len hn2]
  have hnl : (pe ++ nu2).length = T.2.1.1.length := by rw [← zF2_len hF]; exact hvl
  have hb := zsubE_ok hB.1 hF h6 hvl
  have hp0 : (pe ++ nu2)[0]? = some 0 := by
    have h0 := hB.1.2.1
    rw [d2, d1, List.append_assoc, List.getElem?_append_left (by omega)] at h0
    rw [List.getElem?_append_left (by omega)]; exact h0
  refine ⟨pe ++ nu2, ⟨nu2, rfl⟩, ⟨⟨hnl, hp0, hb⟩, ⟨[], (List.append_nil _).symm⟩, ?_, g2 sub _ ⟨m3, e3⟩ hF, g3 sub _ ⟨[], (List.append_nil _).symm⟩ hF, fun f hf => ?_⟩, fun q hq => ?_⟩
  · obtain ⟨lv, l1, l2⟩ := g1 sub (pe ++ nu2) ⟨m2 ++ m3, by rw [e3, e2, List.append_assoc]⟩ hF
    obtain ⟨lv0, k1, -⟩ := hB.2.2.1
    exact ⟨lv, ⟨k1.1, k1.2.1, l1⟩, l2⟩
  · exact zfall_ok hB.1 hB.2.2.2.2.2 hF (fun _ h => h) h7 f hf
  · subst hq
    obtain ⟨c0, rk0⟩ := q
    dsimp only at h8 ⊢
    rw [Bool.and_eq_true, Bool.or_eq_true, decide_eq_true_eq, decide_eq_true_eq] at h8
    obtain ⟨h9, h10⟩ := h8
    have hrs : rk0.length ≤ rs.length := hsrc _ rfl
    have hrl : rk0.length ≤ (rho ++ r2).length := by rw [hB.1.1]; exact Nat.le_of_ble_eq_true h9
    obtain ⟨z1, z2⟩ := zneg_ok (n := em.1.length) hrl (by rw [hB.1.1]; exact Nat.le_refl _)
    obtain ⟨y1, y2⟩ := zaddl_ok (rk := T.2.2.2) (acc := zneg em.1.length rk0) (k0 := T.2.2.1 - c0) hF (by rw [z2, hB.1.1]; exact Nat.le_refl _)
    have y3 := zelim_ok hB.1 hB.2.2.2.2.2 (q := zaddl T.2.2.2 (zpers np ++ sub) (zneg em.1.length rk0) (T.2.2.1 - c0)) (by rw [y1, z2, hB.1.1]; exact Nat.le_refl _)
    have y4 := zub_ok (cs := (zelim em.1 x.2.2.2.2 (zaddl T.2.2.2 (zpers np ++ sub) (zneg em.1.length rk0) (T.2.2.1 - c0))).1) (zin_F2 hB.1.1 hB.1.2.2)
    have y5 : zlin rk0 (rho ++ r2) = zlin rk0 rs := by rw [d2]; exact zlin_app hrs
    have y6 := zub_ok (cs := (zaddl T.2.2.2 (zpers np ++ sub) (zneg em.1.length rk0) (T.2.2.1 - c0)).1) (zin_F2 hB.1.1 hB.1.2.2)
    rw [z1, y5] at y2
    rcases h10 with h10 | h10
    · omega
    · omega
end ZC
