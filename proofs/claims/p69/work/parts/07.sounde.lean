/-! ### lists of values -/
def zvr (rho : List Int) (v : zv) (r : Int) : Prop := ∃ a : Int, rho[v.2.1]? = some a ∧ r = a + v.2.2
theorem zin_app : ∀ {r2 : List Int} {e2 : zenv} {rho : List Int} {en : zenv}, zin rho en → zF2 (fun (r : Int) (b : Int × Int) => b.1 ≤ r ∧ r ≤ b.2) r2 e2 → zin (rho ++ r2) (en ++ e2)
  | [], [], _, _, h, _ => by rw [List.append_nil, List.append_nil]; exact h
  | r :: r2, b :: e2, rho, en, h, hb => by
    have := zin_app (zin_push h hb.1.1 hb.1.2) hb.2
    rw [List.append_assoc, List.append_assoc] at this
    exact this
  | [], _ :: _, _, _, _, h => h.elim
  | _ :: _, [], _, _, _, h => h.elim
theorem zvr_app {rho r2 : List Int} {v : zv} {r : Int} (h : zvr rho v r) : zvr (rho ++ r2) v r := by
  obtain ⟨a, h1, h2⟩ := h
  exact ⟨a, zg_app h1, h2⟩
theorem zids_ok {α : Type} : ∀ {l : List α} {l' r1 r3 : List Int}, l.length = l'.length → zF2 (zvr (r1 ++ l' ++ r3)) (zids r1.length l) l'
  | [], [], _, _, _ => trivial
  | _ :: l, y :: l', r1, r3, h => by
    refine ⟨⟨y, ?_, (Int.add_zero _).symm⟩, ?_⟩
    · show (r1 ++ y :: l' ++ r3)[r1.length]? = some y
      rw [List.append_assoc, List.getElem?_append_right (Nat.le_refl _), Nat.sub_self]
      rfl
    · have := zids_ok (l := l) (l' := l') (r1 := r1 ++ [y]) (r3 := r3) (by simpa using h)
      rw [List.length_append, List.append_assoc r1 [y] l'] at this
      exact this
  | [], _ :: _, _, _, h => by simp at h
  | _ :: _, [], _, _, h => by simp at h
theorem zpers_ok {l r2 : List Int} {n : Nat} (h : l.length = n) : zF2 (zvr (l ++ r2)) (zpers n) l := by
  have := zids_ok (l := List.replicate n ()) (l' := l) (r1 := []) (r3 := r2) (by rw [List.length_replicate]; exact h.symm)
  exact this
theorem zvals_ok {ks : List Nat} {rho : List Int} {ws : va_W} {me : zmem} (hm : zmh ks rho ws me) : ∀ {q : List (Nat × Nat)} {fv : List zv}, zvals me q = some fv → zF2 (zvr rho) fv (q.map (fun q => zfv ks ws q.1 q.2))
  | [], fv, h => by
    unfold zvals at h
    cases h; trivial
  | q :: r, fv, h => by
    unfold zvals at h
    split at h
    · rename_i v l hv hl
      cases h
      obtain ⟨a, h1, h2⟩ := hm _ (zlook_some hv)
      exact ⟨⟨a, h1, h2⟩, zvals_ok hm hl⟩
    · cases h
theorem zrz_num {ks ad : List Nat} {rho : List Int} (h0 : rho[0]? = some 0) : ∀ {vs : List zv} {As : List Value}, zF2 (zden ks ad rho) vs As → zrz vs = true → zF2 (zvr rho) vs (As.map znum)
  | [], [], _, _ => trivial
  | v :: vs, w :: As, h, hz => by
    unfold zrz at hz
    rw [List.all_cons, Bool.and_eq_true] at hz
    refine ⟨?_, zrz_num h0 h.2 hz.2⟩
    by_cases hv : v.1 < 2
    · exact zden_num h.1 hv
    · have hz1 := hz.1
      have : Nat.blt v.1 2 = false := by
        rcases hb : Nat.blt v.1 2 with _ | _
        · rfl
        · exact absurd (Nat.le_of_ble_eq_true hb) (by omega)
      rw [this, Bool.false_or, Bool.and_eq_true, beq_iff_eq, beq_iff_eq] at hz1
      obtain ⟨a, i, rfl, -⟩ := zden_ref h.1 (by omega)
      exact ⟨0, by rw [hz1.1]; exact h0, by rw [hz1.2]; rfl⟩
  | [], _ :: _, h, _ => h.elim
  | _ :: _, [], h, _ => h.elim
theorem zrz_rev {vs : List zv} (h : zrz vs = true) : zrz vs.reverse = true := by
  unfold zrz at h ⊢
  rw [List.all_reverse]; exact h
theorem zfit2_ok {ks ad : List Nat} {rho : List Int} {en : zenv} (hi : zin rho en) : ∀ {vs : List zv} {As : List Value} {ts : List zt}, zF2 (zden ks ad rho) vs As → zfit2 en vs ts = true → zF2 (zok ks ad) ts As
  | [], [], [], _, _ => trivial
  | v :: vs, w :: As, t :: ts, h, hf => by
    unfold zfit2 at hf
    rw [Bool.and_eq_true] at hf
    exact ⟨zfitT_ok hi h.1 hf.1, zfit2_ok hi h.2 hf.2⟩
  | [], _ :: _, _, h, _ => h.elim
  | _ :: _, [], _, h, _ => h.elim
  | [], [], _ :: _, _, hf => by simp [zfit2] at hf
  | _ :: _, _ :: _, [], _, hf => by simp [zfit2] at hf
theorem zroom_sum {ks ad : List Nat} {rho : List Int} : ∀ {vs : List zv} {As : List Value}, zF2 (zden ks ad rho) vs As → (As.map fun v => v.category).sum = (vs.map (fun v => if v.1 == 1 then 2 else 1)).sum
  | [], [], _ => rfl
  | v :: vs, w :: As, h => by
    rw [List.map_cons, List.map_cons, List.sum_cons, List.sum_cons, zroom_sum h.2]
    have hc := zden_cat h.1
    rcases lv_cat w with e1 | e1
    · rw [e1] at hc ⊢; rw [hc]; rfl
    · rw [e1] at hc ⊢; rw [hc]; rfl
  | [], _ :: _, h => h.elim
  | _ :: _, [], h => h.elim
theorem zroom_ok {ks ad : List Nat} {rho : List Int} {vs : List zv} {As : List Value} (h : zF2 (zden ks ad rho) vs As) (hr : zroom vs = true) : (As.map fun v => v.category).sum ≤ 8 := by
  rw [zroom_sum h]
  exact Nat.le_of_ble_eq_true hr
theorem zfv_typed {KS : List zk} {uq ks ad : List Nat} {RC : String} {tys : List (ClassId × FieldType)} {ws : va_W} (hc : zconf KS ks ad RC tys ws) (hU : ∀ k ∈ uq, ∀ i j : Nat, ks[i]? = some k → ks[j]? = some k → i = j) (hX : ∀ k ∈ uq, ∃ i : Nat, ks[i]? = some k) (hL : ks.length = ad.length) {kd f : Nat} {t : zt} (hk : kd ∈ uq) (hf : zfl2 KS kd f = some t) (ht : t.1 < 2) : t.2.1 ≤ zfv ks ws kd f ∧ zfv ks ws kd f ≤ t.2.2 := by
  obtain ⟨i, hi⟩ := hX kd hk
  have hlt := (List.getElem?_eq_some_iff.mp hi).1
  rw [hL] at hlt
  unfold zfl2 at hf
  split at hf
  · rename_i d' hd'
    obtain ⟨e, h1, h3⟩ := zconf_at hc hi (List.getElem?_eq_getElem hlt) hd'
    match e, h3, h1 with
    | .inr (ci, fs), ⟨_, h3⟩, h1 =>
      obtain ⟨u, hu, hv⟩ := zF2_get h3 hf
      rw [zfv_at hU hk hi h1 hu]
      exact zok_num hv ht
    | .inl _, h3, _ => exact h3.elim
  · rename_i d' hd'
    split at hf
    case isFalse => cases hf
    rename_i hcnd
    rw [Bool.and_eq_true, Bool.and_eq_true, Bool.and_eq_true, Bool.or_eq_true, Bool.or_eq_true, beq_iff_eq, beq_iff_eq, beq_iff_eq] at hcnd
    obtain ⟨c1, c2, c3, c4⟩ := hcnd
    have c2 := Nat.le_of_ble_eq_true c2
    have c3 : f - 1000 < d'.2.1 := Nat.le_of_ble_eq_true c3
    cases hf
    dsimp only
    obtain ⟨e, h1, h3⟩ := zconf_at hc hi (List.getElem?_eq_getElem hlt) hd'
    match e, h3, h1 with
    | .inl (cA, n, .inl g), ⟨e1, e2, e3⟩, h1 =>
      rw [zfv_cell hU hk hi h1, zav_in c1 c2]
      exact e3.2 _ c3
    | .inl (cA, n, .inr (.inl g)), ⟨e1, e2, e3⟩, h1 =>
      rw [zfv_cell hU hk hi h1, zav_inL c1 c2]
      exact e3.2 _ c3
    | .inl (cA, n, .inr (.inr (.inr (.inr g)))), ⟨e1, e2, e3⟩, _ => have := e3.1; omega
    | .inl (cA, n, .inr (.inr (.inl g))), ⟨e1, e2, e3⟩, _ => exact e3.elim
    | .inl (cA, n, .inr (.inr (.inr (.inl g)))), ⟨e1, e2, e3⟩, _ => exact e3.elim
    | .inr _, h3, _ => exact h3.elim
  · cases hf
theorem zfin_ok {KS : List zk} {uq ks ad : List Nat} {RC : String} {tys : List (ClassId × FieldType)} {ws : va_W} {nL : Nat} {rs : List Int} {lo : List (Nat × zv)} {st : List zv} {fa : List zfact} {ls : Array Slot} {sv : List Value} (hc : zconf KS ks ad RC tys ws) (hU : ∀ k ∈ uq, ∀ i j : Nat, ks[i]? = some k → ks[j]? = some k → i = j) (hX : ∀ k ∈ uq, ∃ i : Nat, ks[i]? = some k) (hL : ks.length = ad.length) : ∀ {q : List (Nat × Nat)} {en : zenv} {me : zmem} {em : zenv × zmem} {rho : List Int}, zfin KS uq q en me = some em → zAb ks ad nL rs en lo st me fa rho ws ls sv → ∃ r2, zAb ks ad nL rs em.1 lo st em.2 fa (rho ++ r2) ws ls sv
  | [], en, me, em, rho, h, hA => by
    unfold zfin at h
    cases h
    exact ⟨[], by rw [List.append_nil]; exact hA⟩
  | q :: r, en, me, em, rho, h, hA => by
    unfold zfin at h
    split at h
    · exact zfin_ok hc hU hX hL h hA
    split at h
    case isFalse => cases h
    rename_i hu
    split at h
    case h_2 => cases h
    rename_i t ht
    split at h
    case isTrue => cases h
    rename_i hb
    have ht2 : t.1 < 2 := by
      have : ¬ 2 ≤ t.1 := fun h9 => hb (Nat.ble_eq_true_of_le h9)
      omega
    have hty := zfv_typed hc hU hX hL (by simpa using hu) ht ht2
    have hg := hA.grow (b := t.2) hty.1 hty.2
    have hA2 : zAb ks ad nL rs (en ++ [t.2]) lo st ((q.1, q.2, (t.1, en.length, 0)) :: me) fa (rho ++ [zfv ks ws q.1 q.2]) ws ls sv := by
      refine ⟨hg.1, hg.2.1, hg.2.2.1, hg.2.2.2.1, fun z hz => ?_, hg.2.2.2.2.2⟩
      rcases List.mem_cons.mp hz with rfl | hz
      · exact ⟨zfv ks ws q.1 q.2, by rw [← hA.1.1]; exact zg_new, (Int.add_zero _).symm⟩
      · exact hg.2.2.2.2.1 z hz
    obtain ⟨r2, hr2⟩ := zfin_ok hc hU hX hL h hA2
    exact ⟨[zfv ks ws q.1 q.2] ++ r2, by rw [← List.append_assoc]; exact hr2⟩
theorem zfmap_ok {rho nu : List Int} {vs : List zv} (hv : zF2 (zvr rho) vs nu) {f g : zfact} (h : zfmap vs f = some g) (hf : zfh nu f) : zfh rho g := by
  unfold zfmap at h
  split at h
  case h_2 => cases h
  rename_i a b ha hb
  split at h
  case isFalse => cases h
  rename_i hall
  cases h
  intro hc
  obtain ⟨ra, rb, h1, h2, h3⟩ := hf (fun q hq r hr => by
    obtain ⟨v, hv1, a', e1, e2⟩ := zF2_get' hv hr
    have hz := List.all_eq_true.mp hall q hq
    rw [hv1] at hz
    dsimp only at hz
    rw [beq_iff_eq] at hz
    have := hc (v.2.1, q.2) (List.mem_map.mpr ⟨q, hq, by rw [hv1]⟩) a' e1
    rw [e2, hz, Int.add_zero]
    exact this)
  obtain ⟨na, e1, a1, a2, a3⟩ := zF2_get hv ha
  obtain ⟨nb, e2, b1, b2, b3⟩ := zF2_get hv hb
  rw [h1] at e1; cases e1
  rw [h2] at e2; cases e2
  exact ⟨a1, b1, a2, b2, by dsimp only; omega⟩
theorem zfmaps_ok {rho nu : List Int} {vs : List zv} (hv : zF2 (zvr rho) vs nu) {fs : List zfact} (hf : zfs nu fs) : zfs rho (fs.filterMap (zfmap vs)) := by
  intro g hg
  obtain ⟨f, h1, h2⟩ := List.mem_filterMap.mp hg
  exact zfmap_ok hv h2 (hf f h1)
theorem zfout_ok {KS : List zk} {ks : List Nat} {ws : va_W} : ∀ {q : List (Nat × Nat × Int × Int)} {r1 r3 : List Int}, zmh ks (r1 ++ q.map (fun q => zfv ks ws q.1 q.2.1) ++ r3) ws (zfout KS r1.length q)
  | [], _, _ => by intro z hz; unfold zfout at hz; cases hz
  | q :: r, r1, r3 => by
    have ih := zfout_ok (KS := KS) (ks := ks) (ws := ws) (q := r) (r1 := r1 ++ [zfv ks ws q.1 q.2.1]) (r3 := r3)
    rw [List.length_append, List.append_assoc r1] at ih
    intro z hz
    unfold zfout at hz
    split at hz
    · rename_i t ht
      rcases List.mem_cons.mp hz with rfl | hz
      · refine ⟨zfv ks ws q.1 q.2.1, ?_, (Int.add_zero _).symm⟩
        show (r1 ++ (zfv ks ws q.1 q.2.1 :: r.map (fun q => zfv ks ws q.1 q.2.1)) ++ r3)[r1.length]? = _
        rw [List.append_assoc, List.getElem?_append_right (Nat.le_refl _), Nat.sub_self]
        rfl
      · exact ih z hz
    · exact ih z hz
/-! ### facts -/
theorem zkind_ok {kd : Nat} {r : Int} (h : zch kd r) : zrel (zkind kd) r (zkc kd) := by
  match kd, h with
  | 0, h => exact h
  | 1, h => exact h
  | 2, h => exact h
  | 3, h => exact h
  | 4, h => exact h
  | 5, h => exact h
  | n + 6, h =>
    have h : ((n + 6 : Nat) : Int) < r + 100 := h
    have e : zkc (n + 6) = ((n + 6 : Nat) : Int) - 100 := by
      unfold zkc
      have hb : Nat.ble (n + 6) 5 = false := by
        rcases hb : Nat.ble (n + 6) 5 with _ | _
        · rfl
        · exact absurd (Nat.le_of_ble_eq_true hb) (by omega)
      rw [hb]; rfl
    show zkc (n + 6) < r
    rw [e]; omega
theorem zass_ok {rho nu : List Int} {vs : List zv} (hv : zF2 (zvr rho) vs nu) : ∀ {cs : List (Nat × Nat)} {en : zenv}, zin rho en → (∀ q ∈ cs, ∀ r, nu[q.1]? = some r → zch q.2 r) → zin rho (zass vs cs en)
  | [], en, h, _ => h
  | q :: cs, en, h, hc => by
    unfold zass
    refine zass_ok hv ?_ (fun z hz => hc z (List.mem_cons_of_mem _ hz))
    split
    · rename_i v hv1
      obtain ⟨r, e1, a, e2, e3⟩ := zF2_get hv hv1
      have := zkind_ok (hc q List.mem_cons_self r e1)
      rw [e3] at this
      exact zcond_ok (b := (0, 0, zkc q.2)) h e2 h.2.1 (by rw [Int.zero_add]; exact this)
    · exact h
theorem zdlo_ok {rho : List Int} {en : zenv} {fa : List zfact} (hi : zin rho en) (hf : zfs rho fa) {a b : zv} {c ra rb : Int} (ha : rho[a.2.1]? = some ra) (hb : rho[b.2.1]? = some rb) (h : zdlo en fa a b c = true) : rb + b.2.2 + c ≤ ra + a.2.2 := by
  unfold zdlo at h
  rw [Bool.or_eq_true, Bool.or_eq_true] at h
  rcases h with h | h | h
  · rw [Bool.and_eq_true, beq_iff_eq, decide_eq_true_eq] at h
    rw [h.1, hb] at ha
    cases ha
    omega
  · rw [decide_eq_true_eq] at h
    have h1 := zr_ok hi ha
    have h2 := zr_ok hi hb
    omega
  · obtain ⟨f, hf1, hf2⟩ := List.any_eq_true.mp h
    rw [Bool.and_eq_true, Bool.and_eq_true, Bool.and_eq_true, beq_iff_eq, beq_iff_eq, decide_eq_true_eq] at hf2
    obtain ⟨e1, e2, e3, e4⟩ := hf2
    obtain ⟨a', b', g1, g2, g3⟩ := hf f hf1 (fun q hq r hr => zsure_ok hi (List.all_eq_true.mp e4 q hq) hr)
    rw [e1, ha] at g1; cases g1
    rw [e2, hb] at g2; cases g2
    omega
theorem zdl2_ok {rho : List Int} {en : zenv} {fa : List zfact} (hi : zin rho en) (hf : zfs rho fa) {a b : zv} {c ra rb : Int} (ha : rho[a.2.1]? = some ra) (hb : rho[b.2.1]? = some rb) (h : zdl2 en fa a b c = true) : rb + b.2.2 + c ≤ ra + a.2.2 := by
  unfold zdl2 at h
  obtain ⟨f, hf1, hf2⟩ := List.any_eq_true.mp h
  rw [Bool.and_eq_true, Bool.and_eq_true, beq_iff_eq] at hf2
  obtain ⟨e1, e4, e5⟩ := hf2
  obtain ⟨a', b', g1, g2, g3⟩ := hf f hf1 (fun q hq r hr => zsure_ok hi (List.all_eq_true.mp e4 q hq) hr)
  rw [e1, ha] at g1; cases g1
  have := zdlo_ok (a := (0, f.2.2.1, 0)) hi hf g2 hb e5
  dsimp only at this
  omega
theorem zno_ok {rho : List Int} {en : zenv} {v : zv} {k : Nat} {a : Int} (hi : zin rho en) (ha : rho[v.2.1]? = some a) (h : zno en v k = true) : ¬ zch k (a + v.2.2) := by
  intro hz
  obtain ⟨b, hb, h1, h2⟩ := zin_at hi ha
  unfold zno at h
  rw [hb] at h
  dsimp only at h
  rcases h6 : Nat.ble 6 k with _ | _
  case true =>
    rw [h6] at h
    simp only [decide_eq_true_eq] at h
    have h7 := Nat.le_of_ble_eq_true h6
    obtain ⟨n, rfl⟩ : ∃ n, k = n + 6 := ⟨k - 6, by omega⟩
    have hz : ((n + 6 : Nat) : Int) < a + v.2.2 + 100 := hz
    omega
  rw [h6] at h
  dsimp only at h
  match k, h, hz with
  | 0, h, hz => simp only [Bool.or_eq_true, decide_eq_true_eq] at h; have hz : a + v.2.2 = 0 := hz; omega
  | 1, h, hz => exact absurd h Bool.false_ne_true
  | 2, h, hz => simp only [decide_eq_true_eq] at h; have hz : a + v.2.2 < 0 := hz; omega
  | 3, h, hz => simp only [decide_eq_true_eq] at h; have hz : 0 ≤ a + v.2.2 := hz; omega
  | 4, h, hz => simp only [decide_eq_true_eq] at h; have hz : 0 < a + v.2.2 := hz; omega
  | n + 5, h, hz => exact absurd h Bool.false_ne_true
theorem znov_ok {rho nu : List Int} {vs : List zv} {en : zenv} (hi : zin rho en) (hv : zF2 (zvr rho) vs nu) {f : zfact} (h : f.1.any (znov vs en) = true) : zfh nu f := by
  intro hc
  obtain ⟨q, hq1, hq2⟩ := List.any_eq_true.mp h
  unfold znov at hq2
  split at hq2
  · rename_i v hv1
    obtain ⟨r, e1, a, e2, e3⟩ := zF2_get hv hv1
    have := hc q hq1 r e1
    rw [e3] at this
    exact absurd this (zno_ok hi e2 hq2)
  · cases hq2
theorem zfok_ok {rho nu : List Int} {vs : List zv} {en : zenv} {fa : List zfact} (hi : zin rho en) (hf : zfs rho fa) (hv : zF2 (zvr rho) vs nu) {f : zfact} (h : zfok vs en fa f = true) : zfh nu f := by
  unfold zfok at h
  split at h
  case h_2 => exact absurd h (by decide)
  rename_i a b ha hb
  dsimp only at h
  intro hc
  have h0 := zass_ok hv hi hc
  obtain ⟨na, e1, a1, a2, a3⟩ := zF2_get hv ha
  obtain ⟨nb, e2, b1, b2, b3⟩ := zF2_get hv hb
  rw [Bool.or_eq_true] at h
  rcases h with h | h
  · have := zdlo_ok hi (fun f hf => by cases hf) a2 b2 h
    exact ⟨na, nb, e1, e2, by omega⟩
  rw [zbad_ok h0, Bool.false_or, Bool.or_eq_true] at h
  rcases h with h | h
  · have := zdlo_ok h0 (fun f hf => by cases hf) a2 b2 h
    exact ⟨na, nb, e1, e2, by omega⟩
  have h1 := zprop_ok h0 hf
  rw [zbad_ok h1, Bool.false_or, Bool.or_eq_true] at h
  rcases h with h | h
  · have := zdlo_ok h1 hf a2 b2 h
    exact ⟨na, nb, e1, e2, by omega⟩
  · have := zdl2_ok h1 hf a2 b2 h
    exact ⟨na, nb, e1, e2, by omega⟩
theorem zsame_ok {rho nu : List Int} {vs : List zv} {en : zenv} (hi : zin rho en) (hv : zF2 (zvr rho) vs nu) {f g : zfact} {a b : zv} (ha : vs[f.2.1]? = some a) (hb : vs[f.2.2.1]? = some b) (hg : zfh rho g) (h : zsame vs en f.1 a b f.2.2.2 g = true) : zfh nu f := by
  intro hc
  unfold zsame at h
  split at h
  case h_2 => cases h
  rename_i h1
  have h1 := Nat.eq_of_beq_eq_true h1
  rw [Bool.and_eq_true, Bool.and_eq_true, decide_eq_true_eq] at h
  obtain ⟨h2, h3, h4⟩ := h
  have h2 := Nat.eq_of_beq_eq_true h2
  obtain ⟨na, e1, a1, a2, a3⟩ := zF2_get hv ha
  obtain ⟨nb, e2, b1, b2, b3⟩ := zF2_get hv hb
  obtain ⟨x, y, c1, c2, c3⟩ := hg (fun z hz r hr => by
    have h5 := List.all_eq_true.mp h4 z hz
    rw [Bool.or_eq_true] at h5
    rcases h5 with h5 | h5
    · exact zsure_ok hi h5 hr
    obtain ⟨q, hq1, hq2⟩ := List.any_eq_true.mp h5
    unfold zsamec at hq2
    split at hq2
    case h_2 => cases hq2
    rename_i hk
    have hk := Nat.eq_of_beq_eq_true hk
    split at hq2
    case h_2 => cases hq2
    rename_i v hv1
    rw [Bool.and_eq_true, decide_eq_true_eq] at hq2
    have hq3 := Nat.eq_of_beq_eq_true hq2.1
    obtain ⟨w, d1, d2, d3, d4⟩ := zF2_get hv hv1
    have := hc q hq1 w d1
    rw [hq3, hr] at d3
    cases d3
    rw [d4, hq2.2, Int.add_zero, hk] at this
    exact this)
  rw [h1, a2] at c1; cases c1
  rw [h2, b2] at c2; cases c2
  exact ⟨na, nb, e1, e2, by omega⟩
theorem zskip_ok {p : zfact → Bool} : ∀ {s s1 : List zfact}, zskip p s = some s1 → (∃ g ∈ s, p g = true) ∧ ∀ x ∈ s1, x ∈ s
  | [], _, h => by cases h
  | g :: s, s1, h => by
    unfold zskip at h
    split at h
    · rename_i hp
      cases h
      exact ⟨⟨g, List.mem_cons_self, hp⟩, fun x hx => List.mem_cons_of_mem _ hx⟩
    · obtain ⟨⟨z, z1, z2⟩, z3⟩ := zskip_ok h
      exact ⟨⟨z, List.mem_cons_of_mem _ z1, z2⟩, fun x hx => List.mem_cons_of_mem _ (z3 x hx)⟩
theorem zfall_ok {rho nu : List Int} {vs : List zv} {en : zenv} {fa : List zfact} (hi : zin rho en) (hf : zfs rho fa) (hv : zF2 (zvr rho) vs nu) : ∀ {fs s : List zfact}, (∀ g ∈ s, g ∈ fa) → zfall vs en fa fs s = true → ∀ f ∈ fs, zfh nu f
  | [], _, _, _, f, hm => by cases hm
  | f0 :: r, s, hs, h, f, hm => by
    unfold zfall at h
    split at h
    · rename_i hn
      rcases List.mem_cons.mp hm with rfl | hm
      · exact znov_ok hi hv hn
      · exact zfall_ok hi hf hv hs h f hm
    split at h
    case h_2 => cases h
    rename_i a b ha hb
    split at h
    · rename_i s1 hk
      obtain ⟨⟨g, g1, g2⟩, g3⟩ := zskip_ok hk
      rcases List.mem_cons.mp hm with rfl | hm
      · exact zsame_ok hi hv ha hb (hf g (hs g g1)) g2
      · exact zfall_ok hi hf hv (fun x hx => hs x (g3 x hx)) h f hm
    · rw [Bool.and_eq_true] at h
      rcases List.mem_cons.mp hm with rfl | hm
      · exact zfok_ok hi hf hv h.1
      · exact zfall_ok hi hf hv hs h.2 f hm
theorem ztr_ok {rho : List Int} {nf fa : List zfact} (h1 : zfs rho nf) (h2 : zfs rho fa) : zfs rho (ztr nf fa) := by
  intro f hf
  obtain ⟨a, ha, hb⟩ := List.mem_flatMap.mp hf
  obtain ⟨g, hg, hc⟩ := List.mem_filterMap.mp hb
  split at hc
  case isFalse => cases hc
  rename_i hcc
  rw [Bool.and_eq_true, Bool.and_eq_true, beq_iff_eq] at hcc
  cases hc
  intro hq
  obtain ⟨x, y, e1, e2, e3⟩ := h1 a ha (fun q h9 => hq q (List.mem_append_left _ h9))
  obtain ⟨u, v, e4, e5, e6⟩ := h2 g hg (fun q h9 => hq q (List.mem_append_right _ h9))
  rw [hcc.2.1, e2] at e4
  cases e4
  exact ⟨x, v, e1, e5, by dsimp only; omega⟩
