def zStP (p : Program) (l : Launch) (e : Env) (R : Room) (s : State) (m : MethodId) (args : Array Value) (below : List Frame) (meth : Method) (c : Code) (cells slots : Nat) (Q : State → Prop) (cc : ByteArray) (A : Nat → Prop) (ks ad : List Nat) : Prop :=
  ∀ (i k a : Nat), 55 ≤ k → ks[i]? = some k → ad[i]? = some a → ∀ (pc : Nat) (ls : Array Slot) (rest : List Value) (H : Heap) (locs : List Loc) (y : Int32), va_S A s.heap H locs → 0 ≤ y.toInt → y.toInt < ((zSR k).length : Int) → decode cc pc = .ok (.iaload, 1) →
    (∀ v : Int32, (zSR k)[y.toInt.toNat]? = some v.toInt → W p l e R s m args below meth c H locs cells slots Q (F0 m (pc + 1) ls (.int v :: rest))) → W p l e R s m args below meth c H locs cells slots Q (F0 m pc ls (.int y :: .ref a :: rest))
/-! ### the heap -/
theorem zpl_some {k : Nat} : ∀ {l : List Nat} {i : Nat}, zpl k l = some i → l[i]? = some k
  | [], _, h => by simp [zpl] at h
  | j :: r, i, h => by
    unfold zpl at h
    by_cases e : (j == k) = true
    · rw [if_pos e] at h; rw [beq_iff_eq] at e; cases h; rw [e]; rfl
    · rw [if_neg e] at h
      split at h
      · rename_i i' hi; cases h; exact zpl_some (l := r) hi
      · cases h
theorem zpl_ex {k : Nat} : ∀ {l : List Nat} {i : Nat}, l[i]? = some k → ∃ i', zpl k l = some i'
  | [], _, h => by simp at h
  | j :: r, i, h => by
    unfold zpl
    by_cases e : (j == k) = true
    · rw [if_pos e]; exact ⟨0, rfl⟩
    · rw [if_neg e]
      cases i with
      | zero => simp at h; exact absurd (by rw [h]; simp) e
      | succ i =>
        obtain ⟨i', hi⟩ := zpl_ex (l := r) (i := i) h
        rw [hi]; exact ⟨i' + 1, rfl⟩
theorem zfv_set {ks : List Nat} {ws : va_W} {i a kd : Nat} {e e' : va_E} (h : ws[i]? = some (a, e)) (hk : ks[i]? = some kd) (k f : Nat) (hz : k = kd → zav k f e' = zav k f e) : zfv ks (ws.set i (a, e')) k f = zfv ks ws k f := by
  unfold zfv
  split
  · rename_i i' hi'
    by_cases hi : i = i'
    · subst hi
      have := zpl_some hi'
      rw [hk] at this
      cases this
      rw [List.getElem?_set_self (List.getElem?_eq_some_iff.mp h).1, h]
      exact hz rfl
    · rw [List.getElem?_set_ne hi]
  · rfl
theorem zfv_obj {ks : List Nat} {ws : va_W} {i a ci kd f0 : Nat} {fs : List Value} {v : Value} (h : ws[i]? = some (a, .inr (ci, fs))) (hk : ks[i]? = some kd) (k f : Nat) (hne : ¬ (k = kd ∧ f = f0)) : zfv ks (ws.set i (a, .inr (ci, fs.set f0 v))) k f = zfv ks ws k f := by
  refine zfv_set h hk k f (fun e => ?_)
  show (match (fs.set f0 v)[f]? with
    | some w => znum w
    | none => 0) = _
  rw [List.getElem?_set_ne (fun e9 => hne ⟨e, e9.symm⟩)]
  rfl
theorem zfv_cell {ks uq : List Nat} {ws : va_W} {i a k f : Nat} {e : va_E} (hU : ∀ k ∈ uq, ∀ i j : Nat, ks[i]? = some k → ks[j]? = some k → i = j) (hk : k ∈ uq) (hi : ks[i]? = some k) (h : ws[i]? = some (a, e)) : zfv ks ws k f = zav k f e := by
  unfold zfv
  obtain ⟨i', hi'⟩ := zpl_ex hi
  have := hU k hk _ _ (zpl_some hi') hi
  subst this
  rw [hi']
  dsimp only
  rw [h]
theorem zfv_at {ks uq : List Nat} {ws : va_W} {i a ci k f : Nat} {fs : List Value} {v : Value} (hU : ∀ k ∈ uq, ∀ i j : Nat, ks[i]? = some k → ks[j]? = some k → i = j) (hk : k ∈ uq) (hi : ks[i]? = some k) (h : ws[i]? = some (a, .inr (ci, fs))) (hv : fs[f]? = some v) : zfv ks ws k f = znum v := by
  rw [zfv_cell hU hk hi h]
  show (match fs[f]? with
    | some w => znum w
    | none => 0) = _
  rw [hv]
theorem zav_un {k f : Nat} {e : ClassId × vp_A} (h : zTA.contains k = false) : zav k f (.inl e) = 0 := by
  obtain ⟨c, n, x⟩ := e
  match x with
  | .inl g => show (if zTA.contains k && Nat.ble 1000 f then _ else (0 : Int)) = 0; rw [h]; rfl
  | .inr (.inl g) => show (if zTA.contains k && Nat.ble 1000 f then _ else (0 : Int)) = 0; rw [h]; rfl
  | .inr (.inr _) => rfl
theorem zav_in {k f : Nat} {cA : ClassId} {n : Nat} {g : Nat → Int32} (h : zTA.contains k = true) (hf : 1000 ≤ f) : zav k f (.inl (cA, n, .inl g)) = (g (f - 1000)).toInt := by
  show (if zTA.contains k && Nat.ble 1000 f then _ else (0 : Int)) = _
  rw [h, Nat.ble_eq_true_of_le hf]; rfl
theorem zav_upd {k f : Nat} {cA : ClassId} {n j : Nat} {g : Nat → Int32} {y : Int32} (h : f ≠ 1000 + j) : zav k f (.inl (cA, n, .inl (upd g j y))) = zav k f (.inl (cA, n, .inl g)) := by
  show (if zTA.contains k && Nat.ble 1000 f then (upd g j y (f - 1000)).toInt else (0 : Int)) = (if zTA.contains k && Nat.ble 1000 f then (g (f - 1000)).toInt else (0 : Int))
  by_cases c : (zTA.contains k && Nat.ble 1000 f) = true
  · rw [if_pos c, if_pos c]
    rw [Bool.and_eq_true] at c
    have := Nat.le_of_ble_eq_true c.2
    unfold upd
    rw [if_neg (by omega)]
  · rw [if_neg c, if_neg c]
theorem zav_inL {k f : Nat} {cA : ClassId} {n : Nat} {g : Nat → Int64} (h : zTA.contains k = true) (hf : 1000 ≤ f) : zav k f (.inl (cA, n, .inr (.inl g))) = (g (f - 1000)).toInt := by
  show (if zTA.contains k && Nat.ble 1000 f then _ else (0 : Int)) = _
  rw [h, Nat.ble_eq_true_of_le hf]; rfl
theorem zav_updL {k f : Nat} {cA : ClassId} {n j : Nat} {g : Nat → Int64} {y : Int64} (h : f ≠ 1000 + j) : zav k f (.inl (cA, n, .inr (.inl (vp_updL g j y)))) = zav k f (.inl (cA, n, .inr (.inl g))) := by
  show (if zTA.contains k && Nat.ble 1000 f then (vp_updL g j y (f - 1000)).toInt else (0 : Int)) = (if zTA.contains k && Nat.ble 1000 f then (g (f - 1000)).toInt else (0 : Int))
  by_cases c : (zTA.contains k && Nat.ble 1000 f) = true
  · rw [if_pos c, if_pos c]
    rw [Bool.and_eq_true] at c
    have := Nat.le_of_ble_eq_true c.2
    unfold vp_updL
    rw [if_neg (by omega)]
  · rw [if_neg c, if_neg c]
theorem zconf_at {KS : List zk} {ks ad : List Nat} {RC : String} {tys : List (ClassId × FieldType)} {ws : va_W} (h : zconf KS ks ad RC tys ws) {i k a : Nat} {d : zk} (hk : ks[i]? = some k) (ha : ad[i]? = some a) (hd : KS[k]? = some d) : ∃ e, ws[i]? = some (a, e) ∧ zcell ks ad RC tys d e := by
  obtain ⟨q, hq, hc⟩ := h.2 i k d hk hd
  obtain ⟨ex, he⟩ := h.1
  have hlt := (List.getElem?_eq_some_iff.mp hq).1
  rw [he, List.getElem?_append_left (by rw [List.length_map]; exact hlt), List.getElem?_map, hq] at ha
  have e : q.1 = a := by simpa using ha
  exact ⟨q.2, by rw [← e]; exact hq, hc⟩
theorem zconf_set {KS : List zk} {ks ad : List Nat} {RC : String} {tys : List (ClassId × FieldType)} {ws : va_W} (h : zconf KS ks ad RC tys ws) {i k a : Nat} {e e' : va_E} {d : zk} (hk : ks[i]? = some k) (hw : ws[i]? = some (a, e)) (hd : KS[k]? = some d) (hc : zcell ks ad RC tys d e') : zconf KS ks ad RC tys (ws.set i (a, e')) := by
  have hlt := (List.getElem?_eq_some_iff.mp hw).1
  refine ⟨?_, fun j k' d' hj hd' => ?_⟩
  · obtain ⟨ex, he⟩ := h.1
    refine ⟨ex, ?_⟩
    rw [he]
    congr 1
    apply List.ext_getElem?
    intro j
    rw [List.getElem?_map, List.getElem?_map]
    by_cases e9 : i = j
    · subst e9; rw [List.getElem?_set_self hlt, hw]; rfl
    · rw [List.getElem?_set_ne e9]
  · by_cases e9 : i = j
    · subst e9
      rw [hk] at hj; cases hj
      rw [hd] at hd'; cases hd'
      exact ⟨(a, e'), List.getElem?_set_self hlt, hc⟩
    · rw [List.getElem?_set_ne e9]
      exact h.2 j k' d' hj hd'
theorem zArr_some {KS : List zk} {v : zv} {d : Nat × Nat × List zt} (h : zArr KS v = some d) : 2 ≤ v.1 ∧ KS[v.1 - 2]? = some (.inl d) := by
  obtain ⟨t, q⟩ := v
  match t with
  | 0 => simp [zArr] at h
  | 1 => simp [zArr] at h
  | k + 2 =>
    unfold zArr at h
    dsimp only at h
    split at h
    · rename_i d' hd; cases h; exact ⟨by dsimp only; omega, by simpa using hd⟩
    · cases h
theorem zjn_ok : ∀ {l : List zt} {q : zt}, q ∈ l → (zjn l).1 ≤ q.2.1 ∧ q.2.2 ≤ (zjn l).2
  | [], _, h => by cases h
  | [a], q, h => by rw [List.mem_singleton] at h; subst h; exact ⟨Int.le_refl _, Int.le_refl _⟩
  | a :: b :: r, q, h => by
    unfold zjn
    dsimp only
    rcases List.mem_cons.mp h with e | h'
    · subst e; constructor <;> omega
    · have := zjn_ok h'
      constructor <;> omega
theorem zel_mem {el : List zt} {n j : Nat} {lo hi : Int} (hl : el.length = 1 ∨ el.length = n) (hj : j < n) (h1 : 0 ≤ lo) (h2 : lo ≤ (j : Int)) (h3 : (j : Int) ≤ hi) : zel el j ∈ zsl el lo hi := by
  match el, hl with
  | [q], _ => exact List.mem_singleton.mpr rfl
  | [], hl => simp at hl; omega
  | a :: b :: r, hl =>
    have hl : (a :: b :: r).length = n := by
      rcases hl with h | h
      · simp at h
      · exact h
    show (a :: b :: r).getD j (0, 0, 0) ∈ ((a :: b :: r).drop lo.toNat).take (hi - lo + 1).toNat
    have e : (a :: b :: r)[j]? = some ((a :: b :: r).getD j (0, 0, 0)) := by
      rw [List.getD_eq_getElem?_getD, List.getElem?_eq_getElem (by omega)]; rfl
    generalize (a :: b :: r).getD j (0, 0, 0) = q at e ⊢
    refine List.mem_of_getElem? (i := j - lo.toNat) ?_
    rw [List.getElem?_take_of_lt (by omega), List.getElem?_drop, show lo.toNat + (j - lo.toNat) = j by omega]
    exact e
theorem zix_ok {n : Nat} {b : Int × Int} (h : zix n b = true) {i : Int32} (h1 : b.1 ≤ i.toInt) (h2 : i.toInt ≤ b.2) : vp_in i n ∧ i.toNatClampNeg < n ∧ (i.toNatClampNeg : Int) = i.toInt ∧ 0 ≤ b.1 := by
  unfold zix at h
  simp only [Bool.and_eq_true, decide_eq_true_eq] at h
  have hn : vp_in i n := vp_in_iff.mpr ⟨by omega, by omega⟩
  have e : (i.toNatClampNeg : Int) = i.toInt := by
    show ((i.toInt.toNat : Nat) : Int) = i.toInt
    omega
  exact ⟨hn, by omega, e, h.1⟩
theorem zlook_some {me : zmem} {kd f : Nat} {v : zv} (h : zlook me kd f = some v) : (kd, f, v) ∈ me := by
  unfold zlook at h
  split at h
  · rename_i q hq
    cases h
    have h1 := List.mem_of_find?_eq_some hq
    have h2 := List.find?_some hq
    obtain ⟨q1, q2, q3⟩ := q
    dsimp only at h2
    split at h2
    · rename_i h3
      obtain rfl := Nat.eq_of_beq_eq_true h3
      obtain rfl := Nat.eq_of_beq_eq_true h2
      exact h1
    · cases h2
  · cases h
def zHp (D : va_G) (cl : List vw_C) (A : Nat → Prop) (H0 : Heap) (tys : List (ClassId × FieldType)) (KS : List zk) (ks ad : List Nat) (RC : String) (Psi : va_W → Prop) (wq : List (Nat × Nat)) (ws0 : va_W) (ws : va_W) (H : Heap) (locs : List Loc) : Prop :=
  va_P D cl ws H ∧ va_D A ws ∧ va_S A H0 H locs ∧ zconf KS ks ad RC tys ws ∧ Psi ws ∧ zkeep ks wq ws0 ws
section ZH
variable {p : Program} {l : Launch} {e : Env} {R : Room} {s : State} {m : MethodId} {args : Array Value} {below : List Frame} {meth : Method} {c : Code} {cells slots : Nat} {Q : State → Prop}
variable {D : va_G} {cl : List vw_C} {A : Nat → Prop} {tys : List (ClassId × FieldType)} {KS : List zk} {uq NS : List Nat} {RC : String} {Psi : va_W → Prop} {wq : List (Nat × Nat)} {ws0 : va_W}
variable {cc : ByteArray} {pc : Nat} {ks ad : List Nat} {nL : Nat} {rs : List Int} {k : zK} {x : zs}
theorem zHp.arr {ws : va_W} {H : Heap} {locs : List Loc} {rho : List Int} {v : zv} {w : Value} {d : Nat × Nat × List zt} (hG : zHp D cl A s.heap tys KS ks ad RC Psi wq ws0 ws H locs) (hd : zden ks ad rho v w) (ha : zArr KS v = some d) : ∃ (a i : Nat) (cA : ClassId) (x : (Nat → Int32) ⊕ (Nat → Int64) ⊕ (Nat → UInt32) ⊕ (Nat → UInt64) ⊕ (Nat → Option Nat)), w = .ref a ∧ ks[i]? = some (v.1 - 2) ∧ ws[i]? = some (a, .inl (cA, d.2.1, x)) ∧ tys[d.1]? = some (cA, zty RC d.1) ∧ zrow ks ad d.1 d.2.1 d.2.2 x := by
  obtain ⟨h2, hK⟩ := zArr_some ha
  obtain ⟨a, i, rfl, h3, h4⟩ := zden_ref hd h2
  obtain ⟨e, h5, h7⟩ := zconf_at hG.2.2.2.1 h3 h4 hK
  match e, h7 with
  | .inl (cA, n, x), ⟨e1, e2, e3⟩ =>
    dsimp only at e1 e2 e3
    subst e1
    exact ⟨a, i, cA, x, rfl, h3, h5, e2, e3⟩
  | .inr _, h7 => exact h7.elim
theorem zlen_ok {el : List zt} {n : Nat} (h : (decide (el.length = 1) || decide (el.length = n)) = true) : el.length = 1 ∨ el.length = n := by
  simpa using h
theorem zi_iaload (hx : p.tables.exec = Jvm.exec) (hb : c.code = cc) (hK : va_K D cl tys s) (hk : ∀ pc x, k pc x = true → zW p l e R s m args below meth c cells slots Q (zHp D cl A s.heap tys KS ks ad RC Psi wq ws0) ks ad nL rs pc x) (hU : ∀ k ∈ uq, ∀ i j : Nat, ks[i]? = some k → ks[j]? = some k → i = j) (hdg : decode cc pc = .ok (.iaload, 1)) (h : zALd KS uq k (pc + 1) 0 [0] x = true) : zW p l e R s m args below meth c cells slots Q (zHp D cl A s.heap tys KS ks ad RC Psi wq ws0) ks ad nL rs pc x := by
  intro rho ws H locs ls sv hG hA
  obtain ⟨en, lo, st, me, fa⟩ := x
  unfold zALd at h
  split at h
  case h_2 => exact absurd h (by decide)
  rename_i i a st' he
  dsimp only at he hA
  subst he
  obtain ⟨wi, vs1, rfl, hdi, hr1⟩ := zst1 hA.2.2.2.1
  obtain ⟨wa, vs, rfl, hda, hr⟩ := zst1 hr1
  rw [Bool.and_eq_true, beq_iff_eq] at h
  obtain ⟨h1, h⟩ := h
  split at h
  case h_2 => exact absurd h (by decide)
  rename_i d hd
  rw [Bool.and_eq_true, Bool.and_eq_true, Bool.and_eq_true] at h
  obtain ⟨h2, ⟨h3, h4⟩, h5⟩ := h
  obtain ⟨yi, ri, rfl, gi1, gi2⟩ := zden_int hdi h1
  have hI := zr_ok hA.1 gi1
  rw [← gi2] at hI
  obtain ⟨n1, n2, n3, n4⟩ := zix_ok h3 hI.1 hI.2
  obtain ⟨ar, q0, cA, y, rfl, g1, g2, g3, g4⟩ := hG.arr hda hd
  have hm := zjn_ok (zel_mem (zlen_ok h4) n2 n4 (by rw [n3]; exact hI.1) (by rw [n3]; exact hI.2))
  split at h5
  · rename_i hta
    rw [Bool.and_eq_true, Bool.and_eq_true, Bool.and_eq_true, beq_iff_eq] at hta
    obtain ⟨t1, t2, t3, t4⟩ := hta
    have t2 : a.1 - 2 ∈ uq := by simpa using t2
    obtain ⟨t, n, el⟩ := d
    dsimp only at h2 h3 h4 h5 n1 n2 n4 g2 g3 g4 hm t3 t4
    have t5 : t = 0 := by simpa using h2
    subst t5
    match y, g4 with
    | .inl f, g4 =>
      have hj : 1000 + (zr en i).1.toNat = 1000 + yi.toNatClampNeg := by omega
      have hval : zfv ks ws (a.1 - 2) (1000 + (zr en i).1.toNat) = (f yi.toNatClampNeg).toInt := by
        rw [zfv_cell hU t2 g1 g2, hj, zav_in t1 (by omega), Nat.add_sub_cancel_left]
      refine va_iald hx hb hK hG.1 q0 0 g2 g3 n1 hdg ?_
      split at h5
      · rename_i v hv
        rw [Bool.and_eq_true, beq_iff_eq] at h5
        obtain ⟨r, r1, r2⟩ := hA.2.2.2.2.1 _ (zlook_some hv)
        dsimp only at r1 r2
        rw [hval] at r2
        obtain ⟨vt, vi, vo⟩ := v
        dsimp only at h5 r1 r2
        obtain ⟨rfl, h6⟩ := h5
        exact hk _ _ h6 rho ws H locs ls _ hG (hA.stack ⟨⟨_, r, rfl, r1, r2⟩, hr⟩)
      · have hgr := (hA.stack hr).grow (b := zjn (zsl el (zr en i).1 (zr en i).2)) (r := (f yi.toNatClampNeg).toInt) (Int.le_trans hm.1 (g4.2 _ n2).1) (Int.le_trans (g4.2 _ n2).2 hm.2)
        have hnew : (rho ++ [(f yi.toNatClampNeg).toInt])[en.length]? = some (f yi.toNatClampNeg).toInt := by rw [← hA.1.1]; exact zg_new
        refine hk _ _ h5 _ ws H locs ls _ hG ⟨hgr.1, hgr.2.1, hgr.2.2.1, ⟨⟨_, _, rfl, hnew, (Int.add_zero _).symm⟩, hgr.2.2.2.1⟩, fun z hz => ?_, hgr.2.2.2.2.2⟩
        rcases List.mem_cons.mp hz with rfl | hz
        · exact ⟨_, hnew, by rw [hval]; exact (Int.add_zero _).symm⟩
        · exact hgr.2.2.2.2.1 z hz
    | .inr (.inl f), g4 => exact absurd g4.1 (by decide)
    | .inr (.inr (.inr (.inr f))), g4 => exact absurd g4.1 (by decide)
    | .inr (.inr (.inl f)), g4 => exact g4.elim
    | .inr (.inr (.inr (.inl f))), g4 => exact g4.elim
  obtain ⟨t, n, el⟩ := d
  dsimp only at h2 h3 h4 h5 n1 n2 g2 g3 g4 hm
  have ht : t = 0 := by simpa using h2
  subst ht
  match y, g4 with
  | .inl f, g4 => exact va_iald hx hb hK hG.1 q0 0 g2 g3 n1 hdg (zi_resI hk h5 hG (hA.stack hr) ⟨Int.le_trans hm.1 (g4.2 _ n2).1, Int.le_trans (g4.2 _ n2).2 hm.2⟩)
  | .inr (.inl f), g4 => exact absurd g4.1 (by decide)
  | .inr (.inr (.inr (.inr f))), g4 => exact absurd g4.1 (by decide)
  | .inr (.inr (.inl f)), g4 => exact g4.elim
  | .inr (.inr (.inr (.inl f))), g4 => exact g4.elim
theorem zmm1_ok : ∀ {l : List Int} {v : Int}, v ∈ l → (zmm1 l).1 ≤ v ∧ v ≤ (zmm1 l).2
  | [], _, h => by cases h
  | [a], v, h => by
    rw [List.mem_singleton] at h
    subst h
    exact ⟨Int.le_refl _, Int.le_refl _⟩
  | a :: b :: r, v, h => by
    show min a (zmm1 (b :: r)).1 ≤ v ∧ v ≤ max a (zmm1 (b :: r)).2
    rcases List.mem_cons.mp h with h | h
    · subst h; omega
    · have := zmm1_ok h
      omega
theorem zi_iald (hx : p.tables.exec = Jvm.exec) (hb : c.code = cc) (hK : va_K D cl tys s) (hk : ∀ pc x, k pc x = true → zW p l e R s m args below meth c cells slots Q (zHp D cl A s.heap tys KS ks ad RC Psi wq ws0) ks ad nL rs pc x) (hU : ∀ k ∈ uq, ∀ i j : Nat, ks[i]? = some k → ks[j]? = some k → i = j) (hst : zStP p l e R s m args below meth c cells slots Q cc A ks ad) (hdg : decode cc pc = .ok (.iaload, 1)) (h : zIald KS uq k (pc + 1) x = true) : zW p l e R s m args below meth c cells slots Q (zHp D cl A s.heap tys KS ks ad RC Psi wq ws0) ks ad nL rs pc x := by
  by_cases hs : ∃ i a st, x.2.2.1 = i :: a :: st ∧ Nat.ble 57 a.1 = true
  · intro rho ws H locs ls sv hG hA
    obtain ⟨en, lo, st0, me, fa⟩ := x
    obtain ⟨i, a, st, rfl, h57⟩ := hs
    unfold zIald at h
    dsimp only at h hA
    rw [if_pos h57, Bool.and_eq_true, Bool.and_eq_true, beq_iff_eq] at h
    obtain ⟨h1, h3, h5⟩ := h
    obtain ⟨wi, vs1, rfl, hdi, hr1⟩ := zst1 hA.2.2.2.1
    obtain ⟨wa, vs, rfl, hda, hr⟩ := zst1 hr1
    obtain ⟨yi, ri, rfl, gi1, gi2⟩ := zden_int hdi h1
    have hI := zr_ok hA.1 gi1
    rw [← gi2] at hI
    obtain ⟨n1, n2, n3, n4⟩ := zix_ok h3 hI.1 hI.2
    obtain ⟨tg, ia, oa⟩ := a
    have h57 : 57 ≤ tg := Nat.le_of_ble_eq_true h57
    obtain ⟨kk, rfl⟩ : ∃ kk, tg = kk + 2 := ⟨tg - 2, by omega⟩
    obtain ⟨ar, q0, rfl, g1, g2⟩ := hda
    dsimp only at h3 h5 n1 n2
    rw [Nat.add_sub_cancel] at h3 h5 n1 n2
    refine hst q0 kk ar (by omega) g1 g2 pc ls vs H locs yi hG.2.2.1 (by omega) (by omega) hdg (fun v hv => ?_)
    have hm := zmm1_ok (l := ((zSR kk).drop (zr en i).1.toNat).take ((zr en i).2 - (zr en i).1 + 1).toNat) (v := v.toInt) (by
      refine List.mem_of_getElem? (i := yi.toInt.toNat - (zr en i).1.toNat) ?_
      rw [List.getElem?_take_of_lt (by omega), List.getElem?_drop]
      rw [show (zr en i).1.toNat + (yi.toInt.toNat - (zr en i).1.toNat) = yi.toInt.toNat by omega]
      exact hv)
    exact zi_resI hk h5 hG (hA.stack hr) hm
  · refine zi_iaload hx hb hK hk hU hdg ?_
    obtain ⟨en, lo, st0, me, fa⟩ := x
    unfold zIald at h
    split at h
    case h_2 => exact absurd h (by decide)
    rename_i i a st he
    split at h
    · rename_i h57
      exact absurd ⟨i, a, st, he, h57⟩ hs
    · exact h
theorem zi_baload (hx : p.tables.exec = Jvm.exec) (hb : c.code = cc) (hK : va_K D cl tys s) (hk : ∀ pc x, k pc x = true → zW p l e R s m args below meth c cells slots Q (zHp D cl A s.heap tys KS ks ad RC Psi wq ws0) ks ad nL rs pc x) (hU : ∀ k ∈ uq, ∀ i j : Nat, ks[i]? = some k → ks[j]? = some k → i = j) (hdg : decode cc pc = .ok (.baload, 1)) (h : zALd KS uq k (pc + 1) 0 [1, 2] x = true) : zW p l e R s m args below meth c cells slots Q (zHp D cl A s.heap tys KS ks ad RC Psi wq ws0) ks ad nL rs pc x := by
  intro rho ws H locs ls sv hG hA
  obtain ⟨en, lo, st, me, fa⟩ := x
  unfold zALd at h
  split at h
  case h_2 => exact absurd h (by decide)
  rename_i i a st' he
  dsimp only at he hA
  subst he
  obtain ⟨wi, vs1, rfl, hdi, hr1⟩ := zst1 hA.2.2.2.1
  obtain ⟨wa, vs, rfl, hda, hr⟩ := zst1 hr1
  rw [Bool.and_eq_true, beq_iff_eq] at h
  obtain ⟨h1, h⟩ := h
  split at h
  case h_2 => exact absurd h (by decide)
  rename_i d hd
  rw [Bool.and_eq_true, Bool.and_eq_true, Bool.and_eq_true] at h
  obtain ⟨h2, ⟨h3, h4⟩, h5⟩ := h
  obtain ⟨yi, ri, rfl, gi1, gi2⟩ := zden_int hdi h1
  have hI := zr_ok hA.1 gi1
  rw [← gi2] at hI
  obtain ⟨n1, n2, n3, n4⟩ := zix_ok h3 hI.1 hI.2
  obtain ⟨ar, q0, cA, y, rfl, g1, g2, g3, g4⟩ := hG.arr hda hd
  have hm := zjn_ok (zel_mem (zlen_ok h4) n2 n4 (by rw [n3]; exact hI.1) (by rw [n3]; exact hI.2))
  split at h5
  · rename_i hta
    rw [Bool.and_eq_true, Bool.and_eq_true, Bool.and_eq_true, Bool.or_eq_true, Bool.or_eq_true, beq_iff_eq, beq_iff_eq, beq_iff_eq, beq_iff_eq] at hta
    obtain ⟨t1, t2, t3, t4⟩ := hta
    have t2 : a.1 - 2 ∈ uq := by simpa using t2
    obtain ⟨t, n, el⟩ := d
    dsimp only at h2 h3 h4 h5 n1 n2 n4 g2 g3 g4 hm t3 t4
    have t5 : t = 1 := by
      rcases t4 with e9 | e9 | e9
      · rw [e9] at h2; exact absurd h2 (by decide)
      · exact e9
      · rw [e9] at h2; exact absurd h2 (by decide)
    subst t5
    match y, g4 with
    | .inl f, g4 =>
      have hj : 1000 + (zr en i).1.toNat = 1000 + yi.toNatClampNeg := by omega
      have hval : zfv ks ws (a.1 - 2) (1000 + (zr en i).1.toNat) = (f yi.toNatClampNeg).toInt := by
        rw [zfv_cell hU t2 g1 g2, hj, zav_in t1 (by omega), Nat.add_sub_cancel_left]
      refine va_zald hx hb hK hG.1 q0 1 g2 g3 n1 hdg ?_
      split at h5
      · rename_i v hv
        rw [Bool.and_eq_true, beq_iff_eq] at h5
        obtain ⟨r, r1, r2⟩ := hA.2.2.2.2.1 _ (zlook_some hv)
        dsimp only at r1 r2
        rw [hval] at r2
        obtain ⟨vt, vi, vo⟩ := v
        dsimp only at h5 r1 r2
        obtain ⟨rfl, h6⟩ := h5
        exact hk _ _ h6 rho ws H locs ls _ hG (hA.stack ⟨⟨_, r, rfl, r1, r2⟩, hr⟩)
      · have hgr := (hA.stack hr).grow (b := zjn (zsl el (zr en i).1 (zr en i).2)) (r := (f yi.toNatClampNeg).toInt) (Int.le_trans hm.1 (g4.2 _ n2).1) (Int.le_trans (g4.2 _ n2).2 hm.2)
        have hnew : (rho ++ [(f yi.toNatClampNeg).toInt])[en.length]? = some (f yi.toNatClampNeg).toInt := by rw [← hA.1.1]; exact zg_new
        refine hk _ _ h5 _ ws H locs ls _ hG ⟨hgr.1, hgr.2.1, hgr.2.2.1, ⟨⟨_, _, rfl, hnew, (Int.add_zero _).symm⟩, hgr.2.2.2.1⟩, fun z hz => ?_, hgr.2.2.2.2.2⟩
        rcases List.mem_cons.mp hz with rfl | hz
        · exact ⟨_, hnew, by rw [hval]; exact (Int.add_zero _).symm⟩
        · exact hgr.2.2.2.2.1 z hz
    | .inr (.inl f), g4 => exact absurd g4.1 (by decide)
    | .inr (.inr (.inr (.inr f))), g4 => exact absurd g4.1 (by decide)
    | .inr (.inr (.inl f)), g4 => exact g4.elim
    | .inr (.inr (.inr (.inl f))), g4 => exact g4.elim
  obtain ⟨t, n, el⟩ := d
  dsimp only at h2 h3 h4 h5 n1 n2 g2 g3 g4 hm
  have ht : t = 1 ∨ t = 2 := by simpa using h2
  rcases ht with rfl | rfl
  · match y, g4 with
    | .inl f, g4 => exact va_zald hx hb hK hG.1 q0 1 g2 g3 n1 hdg (zi_resI hk h5 hG (hA.stack hr) ⟨Int.le_trans hm.1 (g4.2 _ n2).1, Int.le_trans (g4.2 _ n2).2 hm.2⟩)
    | .inr (.inl f), g4 => exact absurd g4.1 (by decide)
    | .inr (.inr (.inr (.inr f))), g4 => exact absurd g4.1 (by decide)
    | .inr (.inr (.inl f)), g4 => exact g4.elim
    | .inr (.inr (.inr (.inl f))), g4 => exact g4.elim
  · match y, g4 with
    | .inl f, g4 => exact va_bald hx hb hK hG.1 q0 2 g2 g3 n1 hdg (zi_resI hk h5 hG (hA.stack hr) ⟨Int.le_trans hm.1 (g4.2 _ n2).1, Int.le_trans (g4.2 _ n2).2 hm.2⟩)
    | .inr (.inl f), g4 => exact absurd g4.1 (by decide)
    | .inr (.inr (.inr (.inr f))), g4 => exact absurd g4.1 (by decide)
    | .inr (.inr (.inl f)), g4 => exact g4.elim
    | .inr (.inr (.inr (.inl f))), g4 => exact g4.elim
theorem zi_laload (hx : p.tables.exec = Jvm.exec) (hb : c.code = cc) (hK : va_K D cl tys s) (hk : ∀ pc x, k pc x = true → zW p l e R s m args below meth c cells slots Q (zHp D cl A s.heap tys KS ks ad RC Psi wq ws0) ks ad nL rs pc x) (hU : ∀ k ∈ uq, ∀ i j : Nat, ks[i]? = some k → ks[j]? = some k → i = j) (hdg : decode cc pc = .ok (.laload, 1)) (h : zALd KS uq k (pc + 1) 1 [3] x = true) : zW p l e R s m args below meth c cells slots Q (zHp D cl A s.heap tys KS ks ad RC Psi wq ws0) ks ad nL rs pc x := by
  intro rho ws H locs ls sv hG hA
  obtain ⟨en, lo, st, me, fa⟩ := x
  unfold zALd at h
  split at h
  case h_2 => exact absurd h (by decide)
  rename_i i a st' he
  dsimp only at he hA
  subst he
  obtain ⟨wi, vs1, rfl, hdi, hr1⟩ := zst1 hA.2.2.2.1
  obtain ⟨wa, vs, rfl, hda, hr⟩ := zst1 hr1
  rw [Bool.and_eq_true, beq_iff_eq] at h
  obtain ⟨h1, h⟩ := h
  split at h
  case h_2 => exact absurd h (by decide)
  rename_i d hd
  rw [Bool.and_eq_true, Bool.and_eq_true, Bool.and_eq_true] at h
  obtain ⟨h2, ⟨h3, h4⟩, h5⟩ := h
  obtain ⟨yi, ri, rfl, gi1, gi2⟩ := zden_int hdi h1
  have hI := zr_ok hA.1 gi1
  rw [← gi2] at hI
  obtain ⟨n1, n2, n3, n4⟩ := zix_ok h3 hI.1 hI.2
  obtain ⟨ar, q0, cA, y, rfl, g1, g2, g3, g4⟩ := hG.arr hda hd
  have hm := zjn_ok (zel_mem (zlen_ok h4) n2 n4 (by rw [n3]; exact hI.1) (by rw [n3]; exact hI.2))
  split at h5
  · rename_i hta
    rw [Bool.and_eq_true, Bool.and_eq_true, Bool.and_eq_true, beq_iff_eq] at hta
    obtain ⟨t1, t2, t3, t4⟩ := hta
    have t2 : a.1 - 2 ∈ uq := by simpa using t2
    obtain ⟨t, n, el⟩ := d
    dsimp only at h2 h3 h4 h5 n1 n2 n4 g2 g3 g4 hm t3 t4
    have t5 : t = 3 := by simpa using h2
    subst t5
    match y, g4 with
    | .inr (.inl f), g4 =>
      have hj : 1000 + (zr en i).1.toNat = 1000 + yi.toNatClampNeg := by omega
      have hval : zfv ks ws (a.1 - 2) (1000 + (zr en i).1.toNat) = (f yi.toNatClampNeg).toInt := by
        rw [zfv_cell hU t2 g1 g2, hj, zav_inL t1 (by omega), Nat.add_sub_cancel_left]
      refine va_lald hx hb hK hG.1 q0 3 g2 g3 n1 hdg ?_
      split at h5
      · rename_i v hv
        rw [Bool.and_eq_true, beq_iff_eq] at h5
        obtain ⟨r, r1, r2⟩ := hA.2.2.2.2.1 _ (zlook_some hv)
        dsimp only at r1 r2
        rw [hval] at r2
        obtain ⟨vt, vi, vo⟩ := v
        dsimp only at h5 r1 r2
        obtain ⟨rfl, h6⟩ := h5
        exact hk _ _ h6 rho ws H locs ls _ hG (hA.stack ⟨⟨_, r, rfl, r1, r2⟩, hr⟩)
      · have hgr := (hA.stack hr).grow (b := zjn (zsl el (zr en i).1 (zr en i).2)) (r := (f yi.toNatClampNeg).toInt) (Int.le_trans hm.1 (g4.2 _ n2).1) (Int.le_trans (g4.2 _ n2).2 hm.2)
        have hnew : (rho ++ [(f yi.toNatClampNeg).toInt])[en.length]? = some (f yi.toNatClampNeg).toInt := by rw [← hA.1.1]; exact zg_new
        refine hk _ _ h5 _ ws H locs ls _ hG ⟨hgr.1, hgr.2.1, hgr.2.2.1, ⟨⟨_, _, rfl, hnew, (Int.add_zero _).symm⟩, hgr.2.2.2.1⟩, fun z hz => ?_, hgr.2.2.2.2.2⟩
        rcases List.mem_cons.mp hz with rfl | hz
        · exact ⟨_, hnew, by rw [hval]; exact (Int.add_zero _).symm⟩
        · exact hgr.2.2.2.2.1 z hz
    | .inl f, g4 => exact absurd g4.1 (by decide)
    | .inr (.inr (.inr (.inr f))), g4 => exact absurd g4.1 (by decide)
    | .inr (.inr (.inl f)), g4 => exact g4.elim
    | .inr (.inr (.inr (.inl f))), g4 => exact g4.elim
  obtain ⟨t, n, el⟩ := d
  dsimp only at h2 h3 h4 h5 n1 n2 g2 g3 g4 hm
  have ht : t = 3 := by simpa using h2
  subst ht
  match y, g4 with
  | .inr (.inl f), g4 => exact va_lald hx hb hK hG.1 q0 3 g2 g3 n1 hdg (zi_resL hk h5 hG (hA.stack hr) ⟨Int.le_trans hm.1 (g4.2 _ n2).1, Int.le_trans (g4.2 _ n2).2 hm.2⟩)
  | .inl f, g4 => exact absurd g4.1 (by decide)
  | .inr (.inr (.inr (.inr f))), g4 => exact absurd g4.1 (by decide)
  | .inr (.inr (.inl f)), g4 => exact g4.elim
  | .inr (.inr (.inr (.inl f))), g4 => exact g4.elim
theorem zi_aaload (hx : p.tables.exec = Jvm.exec) (hb : c.code = cc) (hK : va_K D cl tys s) (hk : ∀ pc x, k pc x = true → zW p l e R s m args below meth c cells slots Q (zHp D cl A s.heap tys KS ks ad RC Psi wq ws0) ks ad nL rs pc x) (hdg : decode cc pc = .ok (.aaload, 1)) (h : zALdR KS k (pc + 1) x = true) : zW p l e R s m args below meth c cells slots Q (zHp D cl A s.heap tys KS ks ad RC Psi wq ws0) ks ad nL rs pc x := by
  intro rho ws H locs ls sv hG hA
  obtain ⟨en, lo, st, me, fa⟩ := x
  unfold zALdR at h
  split at h
  case h_2 => exact absurd h (by decide)
  rename_i i a st' he
  dsimp only at he hA
  subst he
  obtain ⟨wi, vs1, rfl, hdi, hr1⟩ := zst1 hA.2.2.2.1
  obtain ⟨wa, vs, rfl, hda, hr⟩ := zst1 hr1
  rw [Bool.and_eq_true, beq_iff_eq] at h
  obtain ⟨h1, h⟩ := h
  split at h
  case h_2 => exact absurd h (by decide)
  rename_i n q hd
  rw [Bool.and_eq_true, Bool.and_eq_true] at h
  obtain ⟨h3, h4, h5⟩ := h
  obtain ⟨yi, ri, rfl, gi1, gi2⟩ := zden_int hdi h1
  have hI := zr_ok hA.1 gi1
  rw [← gi2] at hI
  obtain ⟨n1, n2, n3, n4⟩ := zix_ok h3 hI.1 hI.2
  obtain ⟨ar, q0, cA, y, rfl, g1, g2, g3, g4⟩ := hG.arr hda hd
  dsimp only at g2 g3 g4
  match y, g4 with
  | .inr (.inr (.inr (.inr f))), g4 =>
    obtain ⟨b, j, e1, e2, e3⟩ := g4.2 _ n2
    refine va_aldq hx hb hK hG.1 q0 4 g2 g3 n1 hdg ?_
    rw [e1]
    refine hk _ _ h5 rho ws H locs ls _ hG (hA.stack ⟨?_, hr⟩)
    obtain ⟨tq, bq⟩ := q
    have h6 := Nat.le_of_ble_eq_true h4
    match tq, h6, e2 with
    | kq + 2, _, e2 => exact ⟨b, j, rfl, e2, e3⟩
  | .inl f, g4 => exact absurd g4.1 (by decide)
  | .inr (.inl f), g4 => exact absurd g4.1 (by decide)
  | .inr (.inr (.inl f)), g4 => exact g4.elim
  | .inr (.inr (.inr (.inl f))), g4 => exact g4.elim
theorem zHp.put {ws : va_W} {H : Heap} {locs : List Loc} (hPs : ∀ (ws : va_W) (i k a : Nat) (e e' : va_E), ks[i]? = some k → NS.contains k = false → zsim k e e' → ws[i]? = some (a, e) → Psi ws → Psi (ws.set i (a, e'))) (hG : zHp D cl A s.heap tys KS ks ad RC Psi wq ws0 ws H locs) {a i kd : Nat} {E E' : ClassId × vp_A} {d : Nat × Nat × List zt} (h1 : ks[i]? = some kd) (h2 : NS.contains kd = false) (h3 : ws[i]? = some (a, .inl E)) (h4 : KS[kd]? = some (.inl d)) (h5 : zcell ks ad RC tys (.inl d) (.inl E')) (hz : ∀ f, (kd, f) ∉ wq → zav kd f (.inl E') = zav kd f (.inl E)) {H1 : Heap} {locs1 : List Loc} (a1 : va_P D cl (ws.set i (a, .inl E')) H1) (a2 : va_D A (ws.set i (a, .inl E'))) (a3 : va_S A s.heap H1 locs1) : zHp D cl A s.heap tys KS ks ad RC Psi wq ws0 (ws.set i (a, .inl E')) H1 locs1 :=
  ⟨a1, a2, a3, zconf_set hG.2.2.2.1 h1 h3 h4 h5, hPs ws i kd a (.inl E) (.inl E') h1 h2 trivial h3 hG.2.2.2.2.1, fun k f hf => (zfv_set h3 h1 k f (fun e9 => by subst e9; exact hz f hf)).trans (hG.2.2.2.2.2 k f hf)⟩
theorem zAb.arr {en : zenv} {lo : List (Nat × zv)} {st : List zv} {me : zmem} {fa : List zfact} {rho : List Int} {ws : va_W} {ls : Array Slot} {sv : List Value} (h : zAb ks ad nL rs en lo st me fa rho ws ls sv) {i a kd : Nat} {E E' : ClassId × vp_A} (h1 : ks[i]? = some kd) (h3 : ws[i]? = some (a, .inl E)) (hz : ∀ q ∈ me, q.1 = kd → zav kd q.2.1 (.inl E') = zav kd q.2.1 (.inl E)) : zAb ks ad nL rs en lo st me fa rho (ws.set i (a, .inl E')) ls sv :=
  ⟨h.1, h.2.1, h.2.2.1, h.2.2.2.1, fun q hq => by rw [zfv_set h3 h1 q.1 q.2.1 (fun e9 => by rw [e9]; exact hz q hq e9)]; exact h.2.2.2.2.1 q hq, h.2.2.2.2.2⟩
theorem zrowI {t n : Nat} {el : List zt} {f : Nat → Int32} (h : zrow ks ad t n el (.inl f)) {j : Nat} {y : Int32} (hy : j < n → (zel el j).2.1 ≤ y.toInt ∧ y.toInt ≤ (zel el j).2.2) : zrow ks ad t n el (.inl (upd f j y)) := by
  refine ⟨h.1, fun i hi => ?_⟩
  unfold upd
  by_cases e : i = j
  · rw [if_pos e]; subst e; exact hy hi
  · rw [if_neg e]; exact h.2 i hi
theorem zrowL {t n : Nat} {el : List zt} {f : Nat → Int64} (h : zrow ks ad t n el (.inr (.inl f))) {j : Nat} {y : Int64} (hy : j < n → (zel el j).2.1 ≤ y.toInt ∧ y.toInt ≤ (zel el j).2.2) : zrow ks ad t n el (.inr (.inl (vp_updL f j y))) := by
  refine ⟨h.1, fun i hi => ?_⟩
  unfold vp_updL
  by_cases e : i = j
  · rw [if_pos e]; subst e; exact hy hi
  · rw [if_neg e]; exact h.2 i hi
theorem narB (x : Int32) : -128 ≤ (vp_nar .byte x).toInt ∧ (vp_nar .byte x).toInt ≤ 127 := i2B x
theorem narZ (x : Int32) (h : 0 ≤ x.toInt ∧ x.toInt ≤ 1) : vp_nar .boolean x = x := by
  have h1 : x = 0 ∨ x = 1 := by
    simp only [← Int32.toInt_inj, Int32.reduceToInt]
    omega
  rcases h1 with rfl | rfl <;> rfl
theorem zi_iastore (hx : p.tables.exec = Jvm.exec) (hb : c.code = cc) (hK : va_K D cl tys s) (hk : ∀ pc x, k pc x = true → zW p l e R s m args below meth c cells slots Q (zHp D cl A s.heap tys KS ks ad RC Psi wq ws0) ks ad nL rs pc x) (hPs : ∀ (ws : va_W) (i k a : Nat) (e e' : va_E), ks[i]? = some k → NS.contains k = false → zsim k e e' → ws[i]? = some (a, e) → Psi ws → Psi (ws.set i (a, e'))) (hU : ∀ k ∈ uq, ∀ i j : Nat, ks[i]? = some k → ks[j]? = some k → i = j) (hdg : decode cc pc = .ok (.iastore, 1)) (h : zASt KS uq NS wq k (pc + 1) 0 [0] x = true) : zW p l e R s m args below meth c cells slots Q (zHp D cl A s.heap tys KS ks ad RC Psi wq ws0) ks ad nL rs pc x := by
  intro rho ws H locs ls sv hG hA
  obtain ⟨en, lo, st, me, fa⟩ := x
  unfold zASt at h
  split at h
  case h_2 => exact absurd h (by decide)
  rename_i v i a st' he
  dsimp only at he hA
  subst he
  obtain ⟨wv, vs1, rfl, hdv, hr1⟩ := zst1 hA.2.2.2.1
  obtain ⟨wi, vs2, rfl, hdi, hr2⟩ := zst1 hr1
  obtain ⟨wa, vs, rfl, hda, hr⟩ := zst1 hr2
  rw [Bool.and_eq_true, Bool.and_eq_true, Bool.and_eq_true, beq_iff_eq, beq_iff_eq] at h
  obtain ⟨h1, hv, hns, h⟩ := h
  split at h
  case h_2 => exact absurd h (by decide)
  rename_i d hd
  rw [Bool.and_eq_true, Bool.and_eq_true, Bool.and_eq_true] at h
  obtain ⟨h2, h3, h4, h5⟩ := h
  obtain ⟨yi, ri, rfl, gi1, gi2⟩ := zden_int hdi h1
  have hI := zr_ok hA.1 gi1
  rw [← gi2] at hI
  obtain ⟨n1, n2, n3, n4⟩ := zix_ok h3 hI.1 hI.2
  have hns : NS.contains (a.1 - 2) = false := by simpa using hns
  have hKS := (zArr_some hd).2
  obtain ⟨ar, q0, cA, y, rfl, g1, g2, g3, g4⟩ := hG.arr hda hd
  have hel := zel_mem (zlen_ok h4) n2 n4 (by rw [n3]; exact hI.1) (by rw [n3]; exact hI.2)
  dsimp only at h5
  rw [Bool.and_eq_true, Bool.and_eq_true] at h5
  obtain ⟨h6, h7, h8⟩ := h5
  have h7 := List.all_eq_true.mp h7 _ hel
  rw [Bool.and_eq_true, decide_eq_true_eq, decide_eq_true_eq] at h7
  obtain ⟨yv, rv, rfl, gv1, gv2⟩ := zden_int hdv hv
  have hV := zr_ok hA.1 gv1
  rw [← gv2] at hV
  unfold zASt2 at h8
  split at h8
  · rename_i hta
    rw [Bool.and_eq_true, Bool.and_eq_true, Bool.and_eq_true] at h8
    obtain ⟨-, t2, h9, h8⟩ := h8
    have t2 : a.1 - 2 ∈ uq := by simpa using t2
    obtain ⟨t, n, el⟩ := d
    dsimp only at h2 h3 h4 h6 h7 h8 n1 n2 g2 g3 g4 hel hKS
    have t5 : t = 0 := by simpa using h2
    subst t5
    simp only [show ((0 : Nat) == 2) = false from rfl, Bool.false_eq_true, if_false] at h7
    have hin : (a.1 - 2, 1000 + yi.toNatClampNeg) ∈ wq := by
      have := List.all_eq_true.mp h9 (yi.toNatClampNeg - (zr en i).1.toNat) (List.mem_range.mpr (by omega))
      rw [show (zr en i).1.toNat + (yi.toNatClampNeg - (zr en i).1.toNat) = yi.toNatClampNeg by omega] at this
      simpa using this
    match y, g4 with
    | .inl f, g4 =>
      refine va_iast hx hb hK hG.1 hG.2.1 hG.2.2.1 q0 0 g2 g3 n1 hdg (fun H1 locs1 b1 b2 b3 => ?_)
      have hH := hG.put hPs g1 hns g2 hKS ⟨rfl, g3, zrowI g4 (fun _ => ⟨Int.le_trans h7.1 hV.1, Int.le_trans hV.2 h7.2⟩)⟩ (fun f9 hf9 => zav_upd (fun e9 => hf9 (by rw [e9]; exact hin))) b1 b2 b3
      refine hk _ _ h8 rho _ H1 locs1 ls _ hH ⟨hA.1, hA.2.1, hA.2.2.1, hr, fun z hz => ?_, hA.2.2.2.2.2⟩
      rcases List.mem_append.mp hz with hz | hz
      · split at hz
        · rename_i hc
          rw [beq_iff_eq] at hc
          rw [List.mem_singleton] at hz
          subst hz
          refine ⟨rv, gv1, ?_⟩
          rw [zfv_cell hU t2 g1 (List.getElem?_set_self (List.getElem?_eq_some_iff.mp g2).1)]
          dsimp only
          rw [zav_in hta (by omega)]
          unfold upd
          rw [if_pos (by omega)]
          exact gv2
        · cases hz
      · rw [List.mem_filter] at hz
        rw [zfv_set g2 g1 z.1 z.2.1 (fun e9 => zav_upd (fun e8 => ?_))]
        · exact hA.2.2.2.2.1 z hz.1
        · have h10 := hz.2
          rw [e9] at h10
          simp only [BEq.rfl, Bool.not_true, Bool.false_or, Bool.and_eq_true, beq_iff_eq] at h10
          have h11 := h10.2
          rw [e8, show 1000 + yi.toNatClampNeg = 1000 + (zr en i).1.toNat by omega] at h11
          simp at h11
    | .inr (.inl f), g4 => exact absurd g4.1 (by decide)
    | .inr (.inr (.inr (.inr f))), g4 => exact absurd g4.1 (by decide)
    | .inr (.inr (.inl f)), g4 => exact g4.elim
    | .inr (.inr (.inr (.inl f))), g4 => exact g4.elim
  rename_i hta
  have hta : zTA.contains (a.1 - 2) = false := by simpa using hta
  obtain ⟨t, n, el⟩ := d
  dsimp only at h2 h3 h4 h6 h7 h8 n1 n2 g2 g3 g4 hel
  have ht : t = 0 := by simpa using h2
  subst ht
  simp only [show ((0 : Nat) == 2) = false from rfl, Bool.false_eq_true, if_false] at h7
  match y, g4 with
  | .inl f, g4 => exact va_iast hx hb hK hG.1 hG.2.1 hG.2.2.1 q0 0 g2 g3 n1 hdg (fun H1 locs1 b1 b2 b3 => hk _ _ h8 rho _ H1 locs1 ls _ (hG.put hPs g1 hns g2 hKS ⟨rfl, g3, zrowI g4 (fun _ => ⟨Int.le_trans h7.1 hV.1, Int.le_trans hV.2 h7.2⟩)⟩ (fun f9 _ => by rw [zav_un hta, zav_un hta]) b1 b2 b3) ((hA.stack hr).arr g1 g2 (fun z _ _ => by rw [zav_un hta, zav_un hta])))
  | .inr (.inl f), g4 => exact absurd g4.1 (by decide)
  | .inr (.inr (.inr (.inr f))), g4 => exact absurd g4.1 (by decide)
  | .inr (.inr (.inl f)), g4 => exact g4.elim
  | .inr (.inr (.inr (.inl f))), g4 => exact g4.elim
theorem zi_bastore (hx : p.tables.exec = Jvm.exec) (hb : c.code = cc) (hK : va_K D cl tys s) (hk : ∀ pc x, k pc x = true → zW p l e R s m args below meth c cells slots Q (zHp D cl A s.heap tys KS ks ad RC Psi wq ws0) ks ad nL rs pc x) (hPs : ∀ (ws : va_W) (i k a : Nat) (e e' : va_E), ks[i]? = some k → NS.contains k = false → zsim k e e' → ws[i]? = some (a, e) → Psi ws → Psi (ws.set i (a, e'))) (hU : ∀ k ∈ uq, ∀ i j : Nat, ks[i]? = some k → ks[j]? = some k → i = j) (hdg : decode cc pc = .ok (.bastore, 1)) (h : zASt KS uq NS wq k (pc + 1) 0 [1, 2] x = true) : zW p l e R s m args below meth c cells slots Q (zHp D cl A s.heap tys KS ks ad RC Psi wq ws0) ks ad nL rs pc x := by
  intro rho ws H locs ls sv hG hA
  obtain ⟨en, lo, st, me, fa⟩ := x
  unfold zASt at h
  split at h
  case h_2 => exact absurd h (by decide)
  rename_i v i a st' he
  dsimp only at he hA
  subst he
  obtain ⟨wv, vs1, rfl, hdv, hr1⟩ := zst1 hA.2.2.2.1
  obtain ⟨wi, vs2, rfl, hdi, hr2⟩ := zst1 hr1
  obtain ⟨wa, vs, rfl, hda, hr⟩ := zst1 hr2
  rw [Bool.and_eq_true, Bool.and_eq_true, Bool.and_eq_true, beq_iff_eq, beq_iff_eq] at h
  obtain ⟨h1, hv, hns, h⟩ := h
  split at h
  case h_2 => exact absurd h (by decide)
  rename_i d hd
  rw [Bool.and_eq_true, Bool.and_eq_true, Bool.and_eq_true] at h
  obtain ⟨h2, h3, h4, h5⟩ := h
  obtain ⟨yi, ri, rfl, gi1, gi2⟩ := zden_int hdi h1
  have hI := zr_ok hA.1 gi1
  rw [← gi2] at hI
  obtain ⟨n1, n2, n3, n4⟩ := zix_ok h3 hI.1 hI.2
  have hns : NS.contains (a.1 - 2) = false := by simpa using hns
  have hKS := (zArr_some hd).2
  obtain ⟨ar, q0, cA, y, rfl, g1, g2, g3, g4⟩ := hG.arr hda hd
  have hel := zel_mem (zlen_ok h4) n2 n4 (by rw [n3]; exact hI.1) (by rw [n3]; exact hI.2)
  dsimp only at h5
  rw [Bool.and_eq_true, Bool.and_eq_true] at h5
  obtain ⟨h6, h7, h8⟩ := h5
  have h7 := List.all_eq_true.mp h7 _ hel
  rw [Bool.and_eq_true, decide_eq_true_eq, decide_eq_true_eq] at h7
  obtain ⟨yv, rv, rfl, gv1, gv2⟩ := zden_int hdv hv
  have hV := zr_ok hA.1 gv1
  rw [← gv2] at hV
  unfold zASt2 at h8
  split at h8
  · rename_i hta
    rw [Bool.and_eq_true, Bool.and_eq_true, Bool.and_eq_true, Bool.or_eq_true, Bool.or_eq_true, beq_iff_eq, beq_iff_eq, beq_iff_eq] at h8
    obtain ⟨t4, t2, h9, h8⟩ := h8
    have t2 : a.1 - 2 ∈ uq := by simpa using t2
    obtain ⟨t, n, el⟩ := d
    dsimp only at h2 h3 h4 h6 h7 h8 n1 n2 g2 g3 g4 hel hKS t4
    have t5 : t = 1 := by
      rcases t4 with e9 | e9 | e9
      · rw [e9] at h2; exact absurd h2 (by decide)
      · exact e9
      · rw [e9] at h2; exact absurd h2 (by decide)
    subst t5
    simp only [show ((1 : Nat) == 2) = false from rfl, show ((1 : Nat) == 1) = true from rfl, Bool.false_eq_true, if_false, Bool.not_true, Bool.false_or, Bool.and_eq_true, decide_eq_true_eq] at h6 h7
    have hin : (a.1 - 2, 1000 + yi.toNatClampNeg) ∈ wq := by
      have := List.all_eq_true.mp h9 (yi.toNatClampNeg - (zr en i).1.toNat) (List.mem_range.mpr (by omega))
      rw [show (zr en i).1.toNat + (yi.toNatClampNeg - (zr en i).1.toNat) = yi.toNatClampNeg by omega] at this
      simpa using this
    match y, g4 with
    | .inl f, g4 =>
      refine va_zast hx hb hK hG.1 hG.2.1 hG.2.2.1 q0 1 g2 g3 n1 hdg (fun H1 locs1 b1 b2 b3 => ?_)
      rw [narZ yv ⟨Int.le_trans h6.1 hV.1, Int.le_trans hV.2 h6.2⟩] at b1 b2
      have hH := hG.put hPs g1 hns g2 hKS ⟨rfl, g3, zrowI g4 (fun _ => ⟨Int.le_trans h7.1 hV.1, Int.le_trans hV.2 h7.2⟩)⟩ (fun f9 hf9 => zav_upd (fun e9 => hf9 (by rw [e9]; exact hin))) b1 b2 b3
      refine hk _ _ h8 rho _ H1 locs1 ls _ hH ⟨hA.1, hA.2.1, hA.2.2.1, hr, fun z hz => ?_, hA.2.2.2.2.2⟩
      rcases List.mem_append.mp hz with hz | hz
      · split at hz
        · rename_i hc
          rw [beq_iff_eq] at hc
          rw [List.mem_singleton] at hz
          subst hz
          refine ⟨rv, gv1, ?_⟩
          rw [zfv_cell hU t2 g1 (List.getElem?_set_self (List.getElem?_eq_some_iff.mp g2).1)]
          dsimp only
          rw [zav_in hta (by omega)]
          unfold upd
          rw [if_pos (by omega)]
          exact gv2
        · cases hz
      · rw [List.mem_filter] at hz
        rw [zfv_set g2 g1 z.1 z.2.1 (fun e9 => zav_upd (fun e8 => ?_))]
        · exact hA.2.2.2.2.1 z hz.1
        · have h10 := hz.2
          rw [e9] at h10
          simp only [BEq.rfl, Bool.not_true, Bool.false_or, Bool.and_eq_true, beq_iff_eq] at h10
          have h11 := h10.2
          rw [e8, show 1000 + yi.toNatClampNeg = 1000 + (zr en i).1.toNat by omega] at h11
          simp at h11
    | .inr (.inl f), g4 => exact absurd g4.1 (by decide)
    | .inr (.inr (.inr (.inr f))), g4 => exact absurd g4.1 (by decide)
    | .inr (.inr (.inl f)), g4 => exact g4.elim
    | .inr (.inr (.inr (.inl f))), g4 => exact g4.elim
  rename_i hta
  have hta : zTA.contains (a.1 - 2) = false := by simpa using hta
  obtain ⟨t, n, el⟩ := d
  dsimp only at h2 h3 h4 h6 h7 h8 n1 n2 g2 g3 g4 hel
  have ht : t = 1 ∨ t = 2 := by simpa using h2
  rcases ht with rfl | rfl
  · simp only [show ((1 : Nat) == 2) = false from rfl, show ((1 : Nat) == 1) = true from rfl, Bool.false_eq_true, if_false, Bool.not_true, Bool.false_or, Bool.and_eq_true, decide_eq_true_eq] at h6 h7
    match y, g4 with
    | .inl f, g4 => exact va_zast hx hb hK hG.1 hG.2.1 hG.2.2.1 q0 1 g2 g3 n1 hdg (fun H1 locs1 b1 b2 b3 => hk _ _ h8 rho _ H1 locs1 ls _ (hG.put hPs g1 hns g2 hKS ⟨rfl, g3, zrowI g4 (fun _ => (by rw [narZ yv ⟨Int.le_trans h6.1 hV.1, Int.le_trans hV.2 h6.2⟩]; exact ⟨Int.le_trans h7.1 hV.1, Int.le_trans hV.2 h7.2⟩))⟩ (fun f9 _ => by rw [zav_un hta, zav_un hta]) b1 b2 b3) ((hA.stack hr).arr g1 g2 (fun z _ _ => by rw [zav_un hta, zav_un hta])))
    | .inr (.inl f), g4 => exact absurd g4.1 (by decide)
    | .inr (.inr (.inr (.inr f))), g4 => exact absurd g4.1 (by decide)
    | .inr (.inr (.inl f)), g4 => exact g4.elim
    | .inr (.inr (.inr (.inl f))), g4 => exact g4.elim
  · simp only [show ((2 : Nat) == 2) = true from rfl, if_true] at h7
    match y, g4 with
    | .inl f, g4 => exact va_bast hx hb hK hG.1 hG.2.1 hG.2.2.1 q0 2 g2 g3 n1 hdg (fun H1 locs1 b1 b2 b3 => hk _ _ h8 rho _ H1 locs1 ls _ (hG.put hPs g1 hns g2 hKS ⟨rfl, g3, zrowI g4 (fun _ => ⟨Int.le_trans h7.1 (narB yv).1, Int.le_trans (narB yv).2 h7.2⟩)⟩ (fun f9 _ => by rw [zav_un hta, zav_un hta]) b1 b2 b3) ((hA.stack hr).arr g1 g2 (fun z _ _ => by rw [zav_un hta, zav_un hta])))
    | .inr (.inl f), g4 => exact absurd g4.1 (by decide)
    | .inr (.inr (.inr (.inr f))), g4 => exact absurd g4.1 (by decide)
    | .inr (.inr (.inl f)), g4 => exact g4.elim
    | .inr (.inr (.inr (.inl f))), g4 => exact g4.elim
theorem zi_lastore (hx : p.tables.exec = Jvm.exec) (hb : c.code = cc) (hK : va_K D cl tys s) (hk : ∀ pc x, k pc x = true → zW p l e R s m args below meth c cells slots Q (zHp D cl A s.heap tys KS ks ad RC Psi wq ws0) ks ad nL rs pc x) (hPs : ∀ (ws : va_W) (i k a : Nat) (e e' : va_E), ks[i]? = some k → NS.contains k = false → zsim k e e' → ws[i]? = some (a, e) → Psi ws → Psi (ws.set i (a, e'))) (hU : ∀ k ∈ uq, ∀ i j : Nat, ks[i]? = some k → ks[j]? = some k → i = j) (hdg : decode cc pc = .ok (.lastore, 1)) (h : zASt KS uq NS wq k (pc + 1) 1 [3] x = true) : zW p l e R s m args below meth c cells slots Q (zHp D cl A s.heap tys KS ks ad RC Psi wq ws0) ks ad nL rs pc x := by
  intro rho ws H locs ls sv hG hA
  obtain ⟨en, lo, st, me, fa⟩ := x
  unfold zASt at h
  split at h
  case h_2 => exact absurd h (by decide)
  rename_i v i a st' he
  dsimp only at he hA
  subst he
  obtain ⟨wv, vs1, rfl, hdv, hr1⟩ := zst1 hA.2.2.2.1
  obtain ⟨wi, vs2, rfl, hdi, hr2⟩ := zst1 hr1
  obtain ⟨wa, vs, rfl, hda, hr⟩ := zst1 hr2
  rw [Bool.and_eq_true, Bool.and_eq_true, Bool.and_eq_true, beq_iff_eq, beq_iff_eq] at h
  obtain ⟨h1, hv, hns, h⟩ := h
  split at h
  case h_2 => exact absurd h (by decide)
  rename_i d hd
  rw [Bool.and_eq_true, Bool.and_eq_true, Bool.and_eq_true] at h
  obtain ⟨h2, h3, h4, h5⟩ := h
  obtain ⟨yi, ri, rfl, gi1, gi2⟩ := zden_int hdi h1
  have hI := zr_ok hA.1 gi1
  rw [← gi2] at hI
  obtain ⟨n1, n2, n3, n4⟩ := zix_ok h3 hI.1 hI.2
  have hns : NS.contains (a.1 - 2) = false := by simpa using hns
  have hKS := (zArr_some hd).2
  obtain ⟨ar, q0, cA, y, rfl, g1, g2, g3, g4⟩ := hG.arr hda hd
  have hel := zel_mem (zlen_ok h4) n2 n4 (by rw [n3]; exact hI.1) (by rw [n3]; exact hI.2)
  dsimp only at h5
  rw [Bool.and_eq_true, Bool.and_eq_true] at h5
  obtain ⟨h6, h7, h8⟩ := h5
  have h7 := List.all_eq_true.mp h7 _ hel
  rw [Bool.and_eq_true, decide_eq_true_eq, decide_eq_true_eq] at h7
  obtain ⟨yv, rv, rfl, gv1, gv2⟩ := zden_long hdv hv
  have hV := zr_ok hA.1 gv1
  rw [← gv2] at hV
  unfold zASt2 at h8
  split at h8
  · rename_i hta
    rw [Bool.and_eq_true, Bool.and_eq_true, Bool.and_eq_true] at h8
    obtain ⟨-, t2, h9, h8⟩ := h8
    have t2 : a.1 - 2 ∈ uq := by simpa using t2
    obtain ⟨t, n, el⟩ := d
    dsimp only at h2 h3 h4 h6 h7 h8 n1 n2 g2 g3 g4 hel hKS
    have t5 : t = 3 := by simpa using h2
    subst t5
    simp only [show ((3 : Nat) == 2) = false from rfl, Bool.false_eq_true, if_false] at h7
    have hin : (a.1 - 2, 1000 + yi.toNatClampNeg) ∈ wq := by
      have := List.all_eq_true.mp h9 (yi.toNatClampNeg - (zr en i).1.toNat) (List.mem_range.mpr (by omega))
      rw [show (zr en i).1.toNat + (yi.toNatClampNeg - (zr en i).1.toNat) = yi.toNatClampNeg by omega] at this
      simpa using this
    match y, g4 with
    | .inr (.inl f), g4 =>
      refine va_last hx hb hK hG.1 hG.2.1 hG.2.2.1 q0 3 g2 g3 n1 hdg (fun H1 locs1 b1 b2 b3 => ?_)
      have hH := hG.put hPs g1 hns g2 hKS ⟨rfl, g3, zrowL g4 (fun _ => ⟨Int.le_trans h7.1 hV.1, Int.le_trans hV.2 h7.2⟩)⟩ (fun f9 hf9 => zav_updL (fun e9 => hf9 (by rw [e9]; exact hin))) b1 b2 b3
      refine hk _ _ h8 rho _ H1 locs1 ls _ hH ⟨hA.1, hA.2.1, hA.2.2.1, hr, fun z hz => ?_, hA.2.2.2.2.2⟩
      rcases List.mem_append.mp hz with hz | hz
      · split at hz
        · rename_i hc
          rw [beq_iff_eq] at hc
          rw [List.mem_singleton] at hz
          subst hz
          refine ⟨rv, gv1, ?_⟩
          rw [zfv_cell hU t2 g1 (List.getElem?_set_self (List.getElem?_eq_some_iff.mp g2).1)]
          dsimp only
          rw [zav_inL hta (by omega)]
          unfold vp_updL
          rw [if_pos (by omega)]
          exact gv2
        · cases hz
      · rw [List.mem_filter] at hz
        rw [zfv_set g2 g1 z.1 z.2.1 (fun e9 => zav_updL (fun e8 => ?_))]
        · exact hA.2.2.2.2.1 z hz.1
        · have h10 := hz.2
          rw [e9] at h10
          simp only [BEq.rfl, Bool.not_true, Bool.false_or, Bool.and_eq_true, beq_iff_eq] at h10
          have h11 := h10.2
          rw [e8, show 1000 + yi.toNatClampNeg = 1000 + (zr en i).1.toNat by omega] at h11
          simp at h11
    | .inl f, g4 => exact absurd g4.1 (by decide)
    | .inr (.inr (.inr (.inr f))), g4 => exact absurd g4.1 (by decide)
    | .inr (.inr (.inl f)), g4 => exact g4.elim
    | .inr (.inr (.inr (.inl f))), g4 => exact g4.elim
  rename_i hta
  have hta : zTA.contains (a.1 - 2) = false := by simpa using hta
  obtain ⟨t, n, el⟩ := d
  dsimp only at h2 h3 h4 h6 h7 h8 n1 n2 g2 g3 g4 hel
  have ht : t = 3 := by simpa using h2
  subst ht
  simp only [show ((3 : Nat) == 2) = false from rfl, Bool.false_eq_true, if_false] at h7
  match y, g4 with
  | .inr (.inl f), g4 => exact va_last hx hb hK hG.1 hG.2.1 hG.2.2.1 q0 3 g2 g3 n1 hdg (fun H1 locs1 b1 b2 b3 => hk _ _ h8 rho _ H1 locs1 ls _ (hG.put hPs g1 hns g2 hKS ⟨rfl, g3, zrowL g4 (fun _ => ⟨Int.le_trans h7.1 hV.1, Int.le_trans hV.2 h7.2⟩)⟩ (fun f9 _ => by rw [zav_un hta, zav_un hta]) b1 b2 b3) ((hA.stack hr).arr g1 g2 (fun z _ _ => by rw [zav_un hta, zav_un hta])))
  | .inl f, g4 => exact absurd g4.1 (by decide)
  | .inr (.inr (.inr (.inr f))), g4 => exact absurd g4.1 (by decide)
  | .inr (.inr (.inl f)), g4 => exact g4.elim
  | .inr (.inr (.inr (.inl f))), g4 => exact g4.elim
theorem zi_arraylength (hx : p.tables.exec = Jvm.exec) (hb : c.code = cc) (hK : va_K D cl tys s) (hk : ∀ pc x, k pc x = true → zW p l e R s m args below meth c cells slots Q (zHp D cl A s.heap tys KS ks ad RC Psi wq ws0) ks ad nL rs pc x) (hdg : decode cc pc = .ok (.arraylength, 1)) (h : zALen KS k (pc + 1) x = true) : zW p l e R s m args below meth c cells slots Q (zHp D cl A s.heap tys KS ks ad RC Psi wq ws0) ks ad nL rs pc x := by
  intro rho ws H locs ls sv hG hA
  obtain ⟨en, lo, st, me, fa⟩ := x
  unfold zALen at h
  split at h
  case h_2 => exact absurd h (by decide)
  rename_i a st' he
  dsimp only at he hA
  subst he
  obtain ⟨wa, vs, rfl, hda, hr⟩ := zst1 hA.2.2.2.1
  split at h
  case h_2 => exact absurd h (by decide)
  rename_i d hd
  rw [Bool.and_eq_true, Bool.and_eq_true] at h
  obtain ⟨h1, h2, h3⟩ := h
  obtain ⟨ar, q0, cA, y, rfl, g1, g2, g3, g4⟩ := hG.arr hda hd
  have hn := Nat.le_of_ble_eq_true h1
  refine va_alen hx hb hK hG.1 q0 d.1 g2 g3 rfl hdg (hk _ _ h3 rho ws H locs ls _ hG (hA.stack ⟨⟨_, 0, rfl, hA.1.2.1, ?_⟩, hr⟩))
  show (Int32.ofNat d.2.1).toInt = 0 + (d.2.1 : Int)
  rw [Int32.toInt_ofNat_of_lt (by omega)]
  omega
end ZH
