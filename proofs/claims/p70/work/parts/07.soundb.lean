/-! ### one instruction: without the heap -/
def zW (p : Program) (l : Launch) (e : Env) (R : Room) (s : State) (m : MethodId) (args : Array Value) (below : List Frame) (meth : Method) (c : Code) (cells slots : Nat) (Q : State → Prop) (G : va_W → Heap → List Loc → Prop) (ks ad : List Nat) (nL : Nat) (rs : List Int) (pc : Nat) (x : zs) : Prop :=
  ∀ (rho : List Int) (ws : va_W) (H : Heap) (locs : List Loc) (ls : Array Slot) (sv : List Value), G ws H locs → zAb ks ad nL rs x.1 x.2.1 x.2.2.1 x.2.2.2.1 x.2.2.2.2 rho ws ls sv → W p l e R s m args below meth c H locs cells slots Q (F0 m pc ls sv)
theorem zden_int {ks ad : List Nat} {rho : List Int} {v : zv} {w : Value} (h : zden ks ad rho v w) (ht : v.1 = 0) : ∃ (x : Int32) (r : Int), w = .int x ∧ rho[v.2.1]? = some r ∧ x.toInt = r + v.2.2 := by
  obtain ⟨t, q⟩ := v; subst ht; exact h
theorem zden_long {ks ad : List Nat} {rho : List Int} {v : zv} {w : Value} (h : zden ks ad rho v w) (ht : v.1 = 1) : ∃ (x : Int64) (r : Int), w = .long x ∧ rho[v.2.1]? = some r ∧ x.toInt = r + v.2.2 := by
  obtain ⟨t, q⟩ := v; subst ht; exact h
theorem zden_ref {ks ad : List Nat} {rho : List Int} {v : zv} {w : Value} (h : zden ks ad rho v w) (ht : 2 ≤ v.1) : ∃ a i : Nat, w = .ref a ∧ ks[i]? = some (v.1 - 2) ∧ ad[i]? = some a := by
  obtain ⟨t, q⟩ := v
  match t, ht, h with
  | k + 2, _, h => exact h
theorem zden_cat {ks ad : List Nat} {rho : List Int} {v : zv} {w : Value} (h : zden ks ad rho v w) : (v.1 == 1) = (w.category == 2) := by
  obtain ⟨t, i, o⟩ := v
  match t, h with
  | 0, ⟨x, r, h1, _⟩ => rw [h1]; rfl
  | 1, ⟨x, r, h1, _⟩ => rw [h1]; rfl
  | k + 2, ⟨a, i, h1, _⟩ => rw [h1]; rfl
theorem zden_cat1 {ks ad : List Nat} {rho : List Int} {v : zv} {w : Value} (h : zden ks ad rho v w) (hv : (!(v.1 == 1)) = true) : w.category = 1 := by
  have := zden_cat h
  rcases lv_cat w with e | e
  · exact e
  · rw [e] at this; simp [this] at hv
theorem zst1 {α β : Type} {r : α → β → Prop} {a : α} {as : List α} {b : List β} (h : zF2 r (a :: as) b) : ∃ v vs, b = v :: vs ∧ r a v ∧ zF2 r as vs := by
  cases b with
  | nil => exact h.elim
  | cons v vs => exact ⟨v, vs, rfl, h.1, h.2⟩
theorem zst0 {α β : Type} {r : α → β → Prop} {b : List β} (h : zF2 r ([] : List α) b) : b = [] := by
  cases b with
  | nil => rfl
  | cons v vs => exact h.elim
section ZI
variable {p : Program} {l : Launch} {e : Env} {R : Room} {s : State} {m : MethodId} {args : Array Value} {below : List Frame} {meth : Method} {c : Code} {cells slots : Nat} {Q : State → Prop} {G : va_W → Heap → List Loc → Prop}
variable {cc : ByteArray} {pc : Nat} {ks ad : List Nat} {nL : Nat} {rs : List Int} {k : zK} {x : zs}
theorem zi_resI (hk : ∀ pc x, k pc x = true → zW p l e R s m args below meth c cells slots Q G ks ad nL rs pc x) {b : Int × Int} {st : List zv} (h : zres k pc 0 b x st = true) {rho : List Int} {ws : va_W} {H : Heap} {locs : List Loc} {ls : Array Slot} {sv : List Value} (hG : G ws H locs) (hA : zAb ks ad nL rs x.1 x.2.1 st x.2.2.2.1 x.2.2.2.2 rho ws ls sv) {y : Int32} (hy : b.1 ≤ y.toInt ∧ y.toInt ≤ b.2) : W p l e R s m args below meth c H locs cells slots Q (F0 m pc ls (.int y :: sv)) := by
  have hA2 := hA.grow (r := y.toInt) hy.1 hy.2
  refine hk _ _ h (rho ++ [y.toInt]) ws H locs ls _ hG ⟨hA2.1, hA2.2.1, hA2.2.2.1, ⟨⟨y, y.toInt, rfl, ?_, (Int.add_zero _).symm⟩, hA2.2.2.2.1⟩, hA2.2.2.2.2⟩
  rw [← hA.1.1]
  exact zg_new
theorem zi_resL (hk : ∀ pc x, k pc x = true → zW p l e R s m args below meth c cells slots Q G ks ad nL rs pc x) {b : Int × Int} {st : List zv} (h : zres k pc 1 b x st = true) {rho : List Int} {ws : va_W} {H : Heap} {locs : List Loc} {ls : Array Slot} {sv : List Value} (hG : G ws H locs) (hA : zAb ks ad nL rs x.1 x.2.1 st x.2.2.2.1 x.2.2.2.2 rho ws ls sv) {y : Int64} (hy : b.1 ≤ y.toInt ∧ y.toInt ≤ b.2) : W p l e R s m args below meth c H locs cells slots Q (F0 m pc ls (.long y :: sv)) := by
  have hA2 := hA.grow (r := y.toInt) hy.1 hy.2
  refine hk _ _ h (rho ++ [y.toInt]) ws H locs ls _ hG ⟨hA2.1, hA2.2.1, hA2.2.2.1, ⟨⟨y, y.toInt, rfl, ?_, (Int.add_zero _).symm⟩, hA2.2.2.2.1⟩, hA2.2.2.2.2⟩
  rw [← hA.1.1]
  exact zg_new
theorem zi_iload_n (hx : p.tables.exec = Jvm.exec) (hb : c.code = cc) (hk : ∀ pc x, k pc x = true → zW p l e R s m args below meth c cells slots Q G ks ad nL rs pc x) {i : Fin 4} (hdg : decode cc pc = .ok (.iload_n i, 1)) (h : zLoad k (pc + 1) 0 i.val x = true) : zW p l e R s m args below meth c cells slots Q G ks ad nL rs pc x := by
  intro rho ws H locs ls sv hG hA
  unfold zLoad at h
  split at h
  case h_2 => exact absurd h (by decide)
  rename_i q hq
  simp only [Bool.and_eq_true, ztg, beq_iff_eq] at h
  obtain ⟨w, lv, j, hl, hj, hi, hd⟩ := hA.loc hq
  obtain ⟨y, r, rfl, h1, h2⟩ := zden_int hd h.1
  exact lv_iload_n hx hb hdg rfl hi (hk _ _ h.2 rho ws H locs ls _ hG (hA.stack ⟨hd, hA.2.2.2.1⟩))
theorem zi_iload (hx : p.tables.exec = Jvm.exec) (hb : c.code = cc) (hk : ∀ pc x, k pc x = true → zW p l e R s m args below meth c cells slots Q G ks ad nL rs pc x) {i : Nat} (hdg : decode cc pc = .ok (.iload i, 2)) (h : zLoad k (pc + 2) 0 i x = true) : zW p l e R s m args below meth c cells slots Q G ks ad nL rs pc x := by
  intro rho ws H locs ls sv hG hA
  unfold zLoad at h
  split at h
  case h_2 => exact absurd h (by decide)
  rename_i q hq
  simp only [Bool.and_eq_true, ztg, beq_iff_eq] at h
  obtain ⟨w, lv, j, hl, hj, hi, hd⟩ := hA.loc hq
  obtain ⟨y, r, rfl, h1, h2⟩ := zden_int hd h.1
  exact lv_iload hx hb hdg hi (hk _ _ h.2 rho ws H locs ls _ hG (hA.stack ⟨hd, hA.2.2.2.1⟩))
theorem zi_lload_n (hx : p.tables.exec = Jvm.exec) (hb : c.code = cc) (hk : ∀ pc x, k pc x = true → zW p l e R s m args below meth c cells slots Q G ks ad nL rs pc x) {i : Fin 4} (hdg : decode cc pc = .ok (.lload_n i, 1)) (h : zLoad k (pc + 1) 1 i.val x = true) : zW p l e R s m args below meth c cells slots Q G ks ad nL rs pc x := by
  intro rho ws H locs ls sv hG hA
  unfold zLoad at h
  split at h
  case h_2 => exact absurd h (by decide)
  rename_i q hq
  simp only [Bool.and_eq_true, ztg, beq_iff_eq] at h
  obtain ⟨w, lv, j, hl, hj, hi, hd⟩ := hA.loc hq
  obtain ⟨y, r, rfl, h1, h2⟩ := zden_long hd h.1
  exact lv_lload_n hx hb hdg rfl hi (hk _ _ h.2 rho ws H locs ls _ hG (hA.stack ⟨hd, hA.2.2.2.1⟩))
theorem zi_lload (hx : p.tables.exec = Jvm.exec) (hb : c.code = cc) (hk : ∀ pc x, k pc x = true → zW p l e R s m args below meth c cells slots Q G ks ad nL rs pc x) {i : Nat} (hdg : decode cc pc = .ok (.lload i, 2)) (h : zLoad k (pc + 2) 1 i x = true) : zW p l e R s m args below meth c cells slots Q G ks ad nL rs pc x := by
  intro rho ws H locs ls sv hG hA
  unfold zLoad at h
  split at h
  case h_2 => exact absurd h (by decide)
  rename_i q hq
  simp only [Bool.and_eq_true, ztg, beq_iff_eq] at h
  obtain ⟨w, lv, j, hl, hj, hi, hd⟩ := hA.loc hq
  obtain ⟨y, r, rfl, h1, h2⟩ := zden_long hd h.1
  exact lv_lload hx hb hdg hi (hk _ _ h.2 rho ws H locs ls _ hG (hA.stack ⟨hd, hA.2.2.2.1⟩))
theorem zi_aload_n (hx : p.tables.exec = Jvm.exec) (hb : c.code = cc) (hk : ∀ pc x, k pc x = true → zW p l e R s m args below meth c cells slots Q G ks ad nL rs pc x) {i : Fin 4} (hdg : decode cc pc = .ok (.aload_n i, 1)) (h : zLoad k (pc + 1) 2 i.val x = true) : zW p l e R s m args below meth c cells slots Q G ks ad nL rs pc x := by
  intro rho ws H locs ls sv hG hA
  unfold zLoad at h
  split at h
  case h_2 => exact absurd h (by decide)
  rename_i q hq
  simp only [Bool.and_eq_true, ztg] at h
  obtain ⟨w, lv, j, hl, hj, hi, hd⟩ := hA.loc hq
  obtain ⟨a, i2, rfl, h1, h2⟩ := zden_ref hd (Nat.le_of_ble_eq_true h.1)
  exact lv_aload_n hx hb hdg rfl hi (hk _ _ h.2 rho ws H locs ls _ hG (hA.stack ⟨hd, hA.2.2.2.1⟩))
theorem zi_aload (hx : p.tables.exec = Jvm.exec) (hb : c.code = cc) (hk : ∀ pc x, k pc x = true → zW p l e R s m args below meth c cells slots Q G ks ad nL rs pc x) {i : Nat} (hdg : decode cc pc = .ok (.aload i, 2)) (h : zLoad k (pc + 2) 2 i x = true) : zW p l e R s m args below meth c cells slots Q G ks ad nL rs pc x := by
  intro rho ws H locs ls sv hG hA
  unfold zLoad at h
  split at h
  case h_2 => exact absurd h (by decide)
  rename_i q hq
  simp only [Bool.and_eq_true, ztg] at h
  obtain ⟨w, lv, j, hl, hj, hi, hd⟩ := hA.loc hq
  obtain ⟨a, i2, rfl, h1, h2⟩ := zden_ref hd (Nat.le_of_ble_eq_true h.1)
  exact lv_aload hx hb hdg hi (hk _ _ h.2 rho ws H locs ls _ hG (hA.stack ⟨hd, hA.2.2.2.1⟩))
theorem zdrop0 {rho : List Int} {lo : List (Nat × zv)} {lv : List (Nat × Value)} {i : Nat} {tg : Nat} (ht : tg ≠ 1) (h : zF2 (fun a b => a.1 = b.1 ∧ zden ks ad rho a.2 b.2) lo lv) : zF2 (fun a b => a.1 = b.1 ∧ zden ks ad rho a.2 b.2) (zdrop tg i lo) (lv.filter (fun q => !(q.1 == i) && !(q.1 + 1 == i && q.2.category == 2))) := by
  have e : zdrop tg i lo = lo.filter (fun q => !(q.1 == i) && !(q.1 + 1 == i && q.2.1 == 1)) := by
    unfold zdrop
    split
    · exact absurd rfl ht
    · rfl
  rw [e]
  exact zF2_filter (fun a b q => by rw [q.1, zden_cat q.2]) h
theorem zdrop1 {rho : List Int} {lo : List (Nat × zv)} {lv : List (Nat × Value)} {i : Nat} (h : zF2 (fun a b => a.1 = b.1 ∧ zden ks ad rho a.2 b.2) lo lv) : zF2 (fun a b => a.1 = b.1 ∧ zden ks ad rho a.2 b.2) (zdrop 1 i lo) (lv.filter (fun q => !(q.1 == i) && (!(q.1 == i + 1) && !(q.1 + 1 == i && q.2.category == 2)))) :=
  zF2_filter (fun a b q => by rw [q.1, zden_cat q.2]) h
theorem zi_istore_n (hx : p.tables.exec = Jvm.exec) (hb : c.code = cc) (hk : ∀ pc x, k pc x = true → zW p l e R s m args below meth c cells slots Q G ks ad nL rs pc x) {i : Fin 4} (hdg : decode cc pc = .ok (.istore_n i, 1)) (h : zStore k nL (pc + 1) 0 i.val x = true) : zW p l e R s m args below meth c cells slots Q G ks ad nL rs pc x := by
  intro rho ws H locs ls sv hG hA
  obtain ⟨en, lo, st, me, fa⟩ := x
  unfold zStore at h
  split at h
  case h_2 => exact absurd h (by decide)
  rename_i v st' he
  dsimp only at he hA
  subst he
  obtain ⟨w, vs, rfl, hd, hr⟩ := zst1 hA.2.2.2.1
  simp only [Bool.and_eq_true, ztg, beq_iff_eq] at h
  obtain ⟨h1, h2, h3⟩ := h
  obtain ⟨y, r, rfl, g1, g2⟩ := zden_int hd h1
  obtain ⟨a1, a2, ⟨lv, a3, a4⟩, a5, a6⟩ := hA
  exact lv_istore_n hx hb hdg rfl a3 (by have := Nat.le_of_ble_eq_true h2; simp at this; omega) rfl (fun ls' hl' => hk _ _ h3 rho ws H locs ls' vs hG ⟨a1, a2, ⟨_, hl', ⟨rfl, hd⟩, zdrop0 (by decide) a4⟩, hr, a6⟩)
theorem zi_istore (hx : p.tables.exec = Jvm.exec) (hb : c.code = cc) (hk : ∀ pc x, k pc x = true → zW p l e R s m args below meth c cells slots Q G ks ad nL rs pc x) {i : Nat} (hdg : decode cc pc = .ok (.istore i, 2)) (h : zStore k nL (pc + 2) 0 i x = true) : zW p l e R s m args below meth c cells slots Q G ks ad nL rs pc x := by
  intro rho ws H locs ls sv hG hA
  obtain ⟨en, lo, st, me, fa⟩ := x
  unfold zStore at h
  split at h
  case h_2 => exact absurd h (by decide)
  rename_i v st' he
  dsimp only at he hA
  subst he
  obtain ⟨w, vs, rfl, hd, hr⟩ := zst1 hA.2.2.2.1
  simp only [Bool.and_eq_true, ztg, beq_iff_eq] at h
  obtain ⟨h1, h2, h3⟩ := h
  obtain ⟨y, r, rfl, g1, g2⟩ := zden_int hd h1
  obtain ⟨a1, a2, ⟨lv, a3, a4⟩, a5, a6⟩ := hA
  exact lv_istore hx hb hdg a3 (by have := Nat.le_of_ble_eq_true h2; simp at this; omega) rfl (fun ls' hl' => hk _ _ h3 rho ws H locs ls' vs hG ⟨a1, a2, ⟨_, hl', ⟨rfl, hd⟩, zdrop0 (by decide) a4⟩, hr, a6⟩)
theorem zi_lstore_n (hx : p.tables.exec = Jvm.exec) (hb : c.code = cc) (hk : ∀ pc x, k pc x = true → zW p l e R s m args below meth c cells slots Q G ks ad nL rs pc x) {i : Fin 4} (hdg : decode cc pc = .ok (.lstore_n i, 1)) (h : zStore k nL (pc + 1) 1 i.val x = true) : zW p l e R s m args below meth c cells slots Q G ks ad nL rs pc x := by
  intro rho ws H locs ls sv hG hA
  obtain ⟨en, lo, st, me, fa⟩ := x
  unfold zStore at h
  split at h
  case h_2 => exact absurd h (by decide)
  rename_i v st' he
  dsimp only at he hA
  subst he
  obtain ⟨w, vs, rfl, hd, hr⟩ := zst1 hA.2.2.2.1
  simp only [Bool.and_eq_true, ztg, beq_iff_eq] at h
  obtain ⟨h1, h2, h3⟩ := h
  obtain ⟨y, r, rfl, g1, g2⟩ := zden_long hd h1
  obtain ⟨a1, a2, ⟨lv, a3, a4⟩, a5, a6⟩ := hA
  exact lv_lstore_n hx hb hdg rfl a3 (by have := Nat.le_of_ble_eq_true h2; simp at this; omega) rfl (fun ls' hl' => hk _ _ h3 rho ws H locs ls' vs hG ⟨a1, a2, ⟨_, hl', ⟨rfl, hd⟩, zdrop1 a4⟩, hr, a6⟩)
theorem zi_lstore (hx : p.tables.exec = Jvm.exec) (hb : c.code = cc) (hk : ∀ pc x, k pc x = true → zW p l e R s m args below meth c cells slots Q G ks ad nL rs pc x) {i : Nat} (hdg : decode cc pc = .ok (.lstore i, 2)) (h : zStore k nL (pc + 2) 1 i x = true) : zW p l e R s m args below meth c cells slots Q G ks ad nL rs pc x := by
  intro rho ws H locs ls sv hG hA
  obtain ⟨en, lo, st, me, fa⟩ := x
  unfold zStore at h
  split at h
  case h_2 => exact absurd h (by decide)
  rename_i v st' he
  dsimp only at he hA
  subst he
  obtain ⟨w, vs, rfl, hd, hr⟩ := zst1 hA.2.2.2.1
  simp only [Bool.and_eq_true, ztg, beq_iff_eq] at h
  obtain ⟨h1, h2, h3⟩ := h
  obtain ⟨y, r, rfl, g1, g2⟩ := zden_long hd h1
  obtain ⟨a1, a2, ⟨lv, a3, a4⟩, a5, a6⟩ := hA
  exact lv_lstore hx hb hdg a3 (by have := Nat.le_of_ble_eq_true h2; simp at this; omega) rfl (fun ls' hl' => hk _ _ h3 rho ws H locs ls' vs hG ⟨a1, a2, ⟨_, hl', ⟨rfl, hd⟩, zdrop1 a4⟩, hr, a6⟩)
theorem zi_astore_n (hx : p.tables.exec = Jvm.exec) (hb : c.code = cc) (hk : ∀ pc x, k pc x = true → zW p l e R s m args below meth c cells slots Q G ks ad nL rs pc x) {i : Fin 4} (hdg : decode cc pc = .ok (.astore_n i, 1)) (h : zStore k nL (pc + 1) 2 i.val x = true) : zW p l e R s m args below meth c cells slots Q G ks ad nL rs pc x := by
  intro rho ws H locs ls sv hG hA
  obtain ⟨en, lo, st, me, fa⟩ := x
  unfold zStore at h
  split at h
  case h_2 => exact absurd h (by decide)
  rename_i v st' he
  dsimp only at he hA
  subst he
  obtain ⟨w, vs, rfl, hd, hr⟩ := zst1 hA.2.2.2.1
  simp only [Bool.and_eq_true, ztg] at h
  obtain ⟨h1, h2, h3⟩ := h
  obtain ⟨a, i2, rfl, g1, g2⟩ := zden_ref hd (Nat.le_of_ble_eq_true h1)
  obtain ⟨a1, a2, ⟨lv, a3, a4⟩, a5, a6⟩ := hA
  exact lv_astore_n hx hb hdg rfl a3 (by have := Nat.le_of_ble_eq_true h2; simp at this; omega) rfl (fun ls' hl' => hk _ _ h3 rho ws H locs ls' vs hG ⟨a1, a2, ⟨_, hl', ⟨rfl, hd⟩, zdrop0 (by decide) a4⟩, hr, a6⟩)
theorem zi_astore (hx : p.tables.exec = Jvm.exec) (hb : c.code = cc) (hk : ∀ pc x, k pc x = true → zW p l e R s m args below meth c cells slots Q G ks ad nL rs pc x) {i : Nat} (hdg : decode cc pc = .ok (.astore i, 2)) (h : zStore k nL (pc + 2) 2 i x = true) : zW p l e R s m args below meth c cells slots Q G ks ad nL rs pc x := by
  intro rho ws H locs ls sv hG hA
  obtain ⟨en, lo, st, me, fa⟩ := x
  unfold zStore at h
  split at h
  case h_2 => exact absurd h (by decide)
  rename_i v st' he
  dsimp only at he hA
  subst he
  obtain ⟨w, vs, rfl, hd, hr⟩ := zst1 hA.2.2.2.1
  simp only [Bool.and_eq_true, ztg] at h
  obtain ⟨h1, h2, h3⟩ := h
  obtain ⟨a, i2, rfl, g1, g2⟩ := zden_ref hd (Nat.le_of_ble_eq_true h1)
  obtain ⟨a1, a2, ⟨lv, a3, a4⟩, a5, a6⟩ := hA
  exact lv_astore hx hb hdg a3 (by have := Nat.le_of_ble_eq_true h2; simp at this; omega) rfl (fun ls' hl' => hk _ _ h3 rho ws H locs ls' vs hG ⟨a1, a2, ⟨_, hl', ⟨rfl, hd⟩, zdrop0 (by decide) a4⟩, hr, a6⟩)
theorem zi_iinc (hx : p.tables.exec = Jvm.exec) (hb : c.code = cc) (hk : ∀ pc x, k pc x = true → zW p l e R s m args below meth c cells slots Q G ks ad nL rs pc x) {i : Nat} {n : Int} (hdg : decode cc pc = .ok (.iinc i n, 3)) (h : zInc k nL (pc + 3) i n x = true) : zW p l e R s m args below meth c cells slots Q G ks ad nL rs pc x := by
  intro rho ws H locs ls sv hG hA
  unfold zInc at h
  split at h
  case h_2 => exact absurd h (by decide)
  rename_i q hq
  rw [Bool.and_eq_true, Bool.and_eq_true, Bool.and_eq_true, beq_iff_eq] at h
  obtain ⟨h1, h2, h6, h5⟩ := h
  simp only [zfits, zbd, Bool.and_eq_true, decide_eq_true_eq] at h6
  obtain ⟨w, lv0, j, hl, hj, hi, hd⟩ := hA.loc hq
  obtain ⟨y, r, rfl, g1, g2⟩ := zden_int hd h1
  have hb1 := zr_ok hA.1 g1
  have hn : (Int32.ofInt n).toInt = n := oT h6
  have hA0 := hA
  obtain ⟨a1, a2, ⟨lv, a3, a4⟩, a5, a6⟩ := hA
  obtain ⟨v, j2, e1, e2, e3, e4⟩ := zF2_find (pb := fun z => z.1 == i) (fun a b q => by rw [q.1]) a4 hq
  have hqi : q.1 = i := by simpa using List.find?_some hq
  have hv : v = (i, .int y) := by
    have : ls[i]? = some (.val v.2) := by rw [← hqi, e3]; exact lv_at a3 j2 e1
    rw [hi] at this
    have e5 : v.2 = .int y := by simpa using this.symm
    rw [← e5, ← hqi, e3]
  rw [hv] at e1
  have hnl : i < nL := by have := Nat.le_of_ble_eq_true h2; omega
  split at h5
  · rename_i hc
    simp only [zfits, zbd, Bool.and_eq_true, decide_eq_true_eq] at hc
    refine lv_iinc hx hb hdg a3 e1 rfl hnl rfl (fun ls' hl' => hk _ _ h5 rho ws H locs ls' sv hG ⟨a1, a2, ⟨_, hl', ⟨rfl, y + Int32.ofInt n, r, rfl, g1, ?_⟩, zdrop0 (by decide) a4⟩, a5, a6⟩)
    rw [addI _ _ (by rw [hn]; constructor <;> omega), hn, g2]
    dsimp only
    omega
  · have hg := hA0.grow (b := zbd 0) (r := (y + Int32.ofInt n).toInt) (bT _).1 (bT _).2
    obtain ⟨b1, b2, ⟨lv2, b3, b4⟩, b5, b6⟩ := hg
    obtain ⟨v2, j3, e6, e7, e8, e9⟩ := zF2_find (pb := fun z => z.1 == i) (fun a b q => by rw [q.1]) b4 hq
    have hv2 : v2 = (i, .int y) := by
      have : ls[i]? = some (.val v2.2) := by rw [← hqi, e8]; exact lv_at b3 j3 e6
      rw [hi] at this
      have e5 : v2.2 = .int y := by simpa using this.symm
      rw [← e5, ← hqi, e8]
    rw [hv2] at e6
    refine lv_iinc hx hb hdg b3 e6 rfl hnl rfl (fun ls' hl' => hk _ _ h5 _ ws H locs ls' sv hG ⟨b1, b2, ⟨_, hl', ⟨rfl, y + Int32.ofInt n, (y + Int32.ofInt n).toInt, rfl, ?_, (Int.add_zero _).symm⟩, zdrop0 (by decide) b4⟩, b5, b6⟩)
    dsimp only
    rw [← hA0.1.1]; exact zg_new
theorem zi_iconst (hx : p.tables.exec = Jvm.exec) (hb : c.code = cc) (hk : ∀ pc x, k pc x = true → zW p l e R s m args below meth c cells slots Q G ks ad nL rs pc x) {n : Int} (hdg : decode cc pc = .ok (.iconst n, 1)) (h : (decide (-1 ≤ n) && (decide (n ≤ 5) && zpush k (pc + 1) (0, 0, n) x x.2.2.1)) = true) : zW p l e R s m args below meth c cells slots Q G ks ad nL rs pc x := by
  intro rho ws H locs ls sv hG hA
  simp only [Bool.and_eq_true, decide_eq_true_eq] at h
  obtain ⟨h1, h2, h⟩ := h
  exact lv_iconst hx hb hdg rfl (hk _ _ h rho ws H locs ls _ hG (hA.stack ⟨⟨_, 0, rfl, hA.1.2.1, by rw [oT (by omega)]; exact (Int.zero_add _).symm⟩, hA.2.2.2.1⟩))
theorem zi_bipush (hx : p.tables.exec = Jvm.exec) (hb : c.code = cc) (hk : ∀ pc x, k pc x = true → zW p l e R s m args below meth c cells slots Q G ks ad nL rs pc x) {n : Int} (hdg : decode cc pc = .ok (.bipush n, 2)) (h : (decide (-128 ≤ n) && (decide (n ≤ 127) && zpush k (pc + 2) (0, 0, n) x x.2.2.1)) = true) : zW p l e R s m args below meth c cells slots Q G ks ad nL rs pc x := by
  intro rho ws H locs ls sv hG hA
  simp only [Bool.and_eq_true, decide_eq_true_eq] at h
  obtain ⟨h1, h2, h⟩ := h
  exact lv_bipush hx hb hdg rfl (hk _ _ h rho ws H locs ls _ hG (hA.stack ⟨⟨_, 0, rfl, hA.1.2.1, by rw [oB (by omega)]; exact (Int.zero_add _).symm⟩, hA.2.2.2.1⟩))
theorem zi_sipush (hx : p.tables.exec = Jvm.exec) (hb : c.code = cc) (hk : ∀ pc x, k pc x = true → zW p l e R s m args below meth c cells slots Q G ks ad nL rs pc x) {n : Int} (hdg : decode cc pc = .ok (.sipush n, 3)) (h : (decide (-32768 ≤ n) && (decide (n ≤ 32767) && zpush k (pc + 3) (0, 0, n) x x.2.2.1)) = true) : zW p l e R s m args below meth c cells slots Q G ks ad nL rs pc x := by
  intro rho ws H locs ls sv hG hA
  simp only [Bool.and_eq_true, decide_eq_true_eq] at h
  obtain ⟨h1, h2, h⟩ := h
  exact lv_sipush hx hb hdg rfl (hk _ _ h rho ws H locs ls _ hG (hA.stack ⟨⟨_, 0, rfl, hA.1.2.1, by rw [oS (by omega)]; exact (Int.zero_add _).symm⟩, hA.2.2.2.1⟩))
theorem zi_lconst (hx : p.tables.exec = Jvm.exec) (hb : c.code = cc) (hk : ∀ pc x, k pc x = true → zW p l e R s m args below meth c cells slots Q G ks ad nL rs pc x) {n : Fin 2} (hdg : decode cc pc = .ok (.lconst n, 1)) (h : zpush k (pc + 1) (1, 0, (n.val : Int)) x x.2.2.1 = true) : zW p l e R s m args below meth c cells slots Q G ks ad nL rs pc x := by
  intro rho ws H locs ls sv hG hA
  exact lv_lconst hx hb hdg rfl (hk _ _ h rho ws H locs ls _ hG (hA.stack ⟨⟨_, 0, rfl, hA.1.2.1, by rw [oN]; exact (Int.zero_add _).symm⟩, hA.2.2.2.1⟩))
theorem zi_iadd (hx : p.tables.exec = Jvm.exec) (hb : c.code = cc) (hk : ∀ pc x, k pc x = true → zW p l e R s m args below meth c cells slots Q G ks ad nL rs pc x) (hdg : decode cc pc = .ok (.iadd, 1)) (h : zAdd k (pc + 1) 0 x = true) : zW p l e R s m args below meth c cells slots Q G ks ad nL rs pc x := by
  intro rho ws H locs ls sv hG hA
  obtain ⟨en, lo, st, me, fa⟩ := x
  unfold zAdd at h
  split at h
  case h_2 => exact absurd h (by decide)
  rename_i b a st' he
  dsimp only at he hA
  subst he
  obtain ⟨wb, vs1, rfl, hdb, hr1⟩ := zst1 hA.2.2.2.1
  obtain ⟨wa, vs, rfl, hda, hr⟩ := zst1 hr1
  simp only [Bool.and_eq_true, beq_iff_eq] at h
  obtain ⟨h1, h2, h⟩ := h
  obtain ⟨ya, ra, rfl, ga1, ga2⟩ := zden_int hda h1
  obtain ⟨yb, rb, rfl, gb1, gb2⟩ := zden_int hdb h2
  have hA1 := zr_ok hA.1 ga1
  have hB1 := zr_ok hA.1 gb1
  refine lv_iadd hx hb hdg ?_
  split at h
  · rename_i hc
    simp only [Bool.and_eq_true, zfits, zbd, decide_eq_true_eq, beq_iff_eq] at hc
    obtain ⟨⟨c1, c2⟩, c3⟩ := hc
    have hz : rb = 0 := by rw [c3, hA.1.2.1] at gb1; exact (Option.some.inj gb1).symm
    refine hk _ _ h rho ws H locs ls _ hG (hA.stack ⟨?_, hr⟩)
    exact ⟨_, ra, rfl, ga1, by rw [addI _ _ (by constructor <;> omega)]; dsimp only; omega⟩
  split at h
  · rename_i hc
    simp only [Bool.and_eq_true, zfits, zbd, decide_eq_true_eq, beq_iff_eq] at hc
    obtain ⟨⟨c1, c2⟩, c3⟩ := hc
    have hz : ra = 0 := by rw [c3, hA.1.2.1] at ga1; exact (Option.some.inj ga1).symm
    refine hk _ _ h rho ws H locs ls _ hG (hA.stack ⟨?_, hr⟩)
    exact ⟨_, rb, rfl, gb1, by rw [addI _ _ (by constructor <;> omega)]; dsimp only; omega⟩
  · refine zi_resI hk h hG (hA.stack hr) ?_
    unfold zfit
    split
    · rename_i hc
      simp only [Bool.and_eq_true, zfits, zbd, decide_eq_true_eq] at hc
      rw [addI _ _ (by constructor <;> omega)]
      constructor <;> dsimp only <;> omega
    · exact bT _
theorem zi_isub (hx : p.tables.exec = Jvm.exec) (hb : c.code = cc) (hk : ∀ pc x, k pc x = true → zW p l e R s m args below meth c cells slots Q G ks ad nL rs pc x) (hdg : decode cc pc = .ok (.isub, 1)) (h : zSub k (pc + 1) 0 x = true) : zW p l e R s m args below meth c cells slots Q G ks ad nL rs pc x := by
  intro rho ws H locs ls sv hG hA
  obtain ⟨en, lo, st, me, fa⟩ := x
  unfold zSub at h
  split at h
  case h_2 => exact absurd h (by decide)
  rename_i b a st' he
  dsimp only at he hA
  subst he
  obtain ⟨wb, vs1, rfl, hdb, hr1⟩ := zst1 hA.2.2.2.1
  obtain ⟨wa, vs, rfl, hda, hr⟩ := zst1 hr1
  simp only [Bool.and_eq_true, beq_iff_eq] at h
  obtain ⟨h1, h2, h⟩ := h
  obtain ⟨ya, ra, rfl, ga1, ga2⟩ := zden_int hda h1
  obtain ⟨yb, rb, rfl, gb1, gb2⟩ := zden_int hdb h2
  have hA1 := zr_ok hA.1 ga1
  have hB1 := zr_ok hA.1 gb1
  refine lv_isub hx hb hdg ?_
  split at h
  · rename_i hc
    simp only [Bool.and_eq_true, zfits, zbd, decide_eq_true_eq, beq_iff_eq] at hc
    obtain ⟨⟨c1, c2⟩, c3⟩ := hc
    have hz : rb = 0 := by rw [c3, hA.1.2.1] at gb1; exact (Option.some.inj gb1).symm
    refine hk _ _ h rho ws H locs ls _ hG (hA.stack ⟨?_, hr⟩)
    exact ⟨_, ra, rfl, ga1, by rw [subI _ _ (by constructor <;> omega)]; dsimp only; omega⟩
  · refine zi_resI hk h hG (hA.stack hr) ?_
    unfold zfit
    split
    · rename_i hc
      simp only [Bool.and_eq_true, zfits, zbd, decide_eq_true_eq] at hc
      rw [subI _ _ (by constructor <;> omega)]
      constructor <;> dsimp only <;> omega
    · exact bT _
theorem zi_imul (hx : p.tables.exec = Jvm.exec) (hb : c.code = cc) (hk : ∀ pc x, k pc x = true → zW p l e R s m args below meth c cells slots Q G ks ad nL rs pc x) (hdg : decode cc pc = .ok (.imul, 1)) (h : zMul k (pc + 1) 0 x = true) : zW p l e R s m args below meth c cells slots Q G ks ad nL rs pc x := by
  intro rho ws H locs ls sv hG hA
  obtain ⟨en, lo, st, me, fa⟩ := x
  unfold zMul at h
  split at h
  case h_2 => exact absurd h (by decide)
  rename_i b a st' he
  dsimp only at he hA
  subst he
  obtain ⟨wb, vs1, rfl, hdb, hr1⟩ := zst1 hA.2.2.2.1
  obtain ⟨wa, vs, rfl, hda, hr⟩ := zst1 hr1
  simp only [Bool.and_eq_true, beq_iff_eq] at h
  obtain ⟨h1, h2, h⟩ := h
  obtain ⟨ya, ra, rfl, ga1, ga2⟩ := zden_int hda h1
  obtain ⟨yb, rb, rfl, gb1, gb2⟩ := zden_int hdb h2
  have hA1 := zr_ok hA.1 ga1
  have hB1 := zr_ok hA.1 gb1
  refine lv_imul hx hb hdg ?_
  rw [← ga2] at hA1
  rw [← gb2] at hB1
  have hm := mulB hA1.1 hA1.2 hB1.1 hB1.2
  refine zi_resI hk h hG (hA.stack hr) ?_
  unfold zfit
  split
  · rename_i hc
    simp only [Bool.and_eq_true, zfits, zbd, decide_eq_true_eq] at hc
    rw [mulI _ _ ⟨Int.le_trans hc.1 hm.1, Int.le_trans hm.2 hc.2⟩]
    exact hm
  · exact bT _
theorem zi_ladd (hx : p.tables.exec = Jvm.exec) (hb : c.code = cc) (hk : ∀ pc x, k pc x = true → zW p l e R s m args below meth c cells slots Q G ks ad nL rs pc x) (hdg : decode cc pc = .ok (.ladd, 1)) (h : zAdd k (pc + 1) 1 x = true) : zW p l e R s m args below meth c cells slots Q G ks ad nL rs pc x := by
  intro rho ws H locs ls sv hG hA
  obtain ⟨en, lo, st, me, fa⟩ := x
  unfold zAdd at h
  split at h
  case h_2 => exact absurd h (by decide)
  rename_i b a st' he
  dsimp only at he hA
  subst he
  obtain ⟨wb, vs1, rfl, hdb, hr1⟩ := zst1 hA.2.2.2.1
  obtain ⟨wa, vs, rfl, hda, hr⟩ := zst1 hr1
  simp only [Bool.and_eq_true, beq_iff_eq] at h
  obtain ⟨h1, h2, h⟩ := h
  obtain ⟨ya, ra, rfl, ga1, ga2⟩ := zden_long hda h1
  obtain ⟨yb, rb, rfl, gb1, gb2⟩ := zden_long hdb h2
  have hA1 := zr_ok hA.1 ga1
  have hB1 := zr_ok hA.1 gb1
  refine lv_ladd hx hb hdg ?_
  split at h
  · rename_i hc
    simp only [Bool.and_eq_true, zfits, zbd, decide_eq_true_eq, beq_iff_eq] at hc
    obtain ⟨⟨c1, c2⟩, c3⟩ := hc
    have hz : rb = 0 := by rw [c3, hA.1.2.1] at gb1; exact (Option.some.inj gb1).symm
    refine hk _ _ h rho ws H locs ls _ hG (hA.stack ⟨?_, hr⟩)
    exact ⟨_, ra, rfl, ga1, by rw [addL _ _ (by constructor <;> omega)]; dsimp only; omega⟩
  split at h
  · rename_i hc
    simp only [Bool.and_eq_true, zfits, zbd, decide_eq_true_eq, beq_iff_eq] at hc
    obtain ⟨⟨c1, c2⟩, c3⟩ := hc
    have hz : ra = 0 := by rw [c3, hA.1.2.1] at ga1; exact (Option.some.inj ga1).symm
    refine hk _ _ h rho ws H locs ls _ hG (hA.stack ⟨?_, hr⟩)
    exact ⟨_, rb, rfl, gb1, by rw [addL _ _ (by constructor <;> omega)]; dsimp only; omega⟩
  · refine zi_resL hk h hG (hA.stack hr) ?_
    unfold zfit
    split
    · rename_i hc
      simp only [Bool.and_eq_true, zfits, zbd, decide_eq_true_eq] at hc
      rw [addL _ _ (by constructor <;> omega)]
      constructor <;> dsimp only <;> omega
    · exact bL _
theorem zi_lsub (hx : p.tables.exec = Jvm.exec) (hb : c.code = cc) (hk : ∀ pc x, k pc x = true → zW p l e R s m args below meth c cells slots Q G ks ad nL rs pc x) (hdg : decode cc pc = .ok (.lsub, 1)) (h : zSub k (pc + 1) 1 x = true) : zW p l e R s m args below meth c cells slots Q G ks ad nL rs pc x := by
  intro rho ws H locs ls sv hG hA
  obtain ⟨en, lo, st, me, fa⟩ := x
  unfold zSub at h
  split at h
  case h_2 => exact absurd h (by decide)
  rename_i b a st' he
  dsimp only at he hA
  subst he
  obtain ⟨wb, vs1, rfl, hdb, hr1⟩ := zst1 hA.2.2.2.1
  obtain ⟨wa, vs, rfl, hda, hr⟩ := zst1 hr1
  simp only [Bool.and_eq_true, beq_iff_eq] at h
  obtain ⟨h1, h2, h⟩ := h
  obtain ⟨ya, ra, rfl, ga1, ga2⟩ := zden_long hda h1
  obtain ⟨yb, rb, rfl, gb1, gb2⟩ := zden_long hdb h2
  have hA1 := zr_ok hA.1 ga1
  have hB1 := zr_ok hA.1 gb1
  refine lv_lsub hx hb hdg ?_
  split at h
  · rename_i hc
    simp only [Bool.and_eq_true, zfits, zbd, decide_eq_true_eq, beq_iff_eq] at hc
    obtain ⟨⟨c1, c2⟩, c3⟩ := hc
    have hz : rb = 0 := by rw [c3, hA.1.2.1] at gb1; exact (Option.some.inj gb1).symm
    refine hk _ _ h rho ws H locs ls _ hG (hA.stack ⟨?_, hr⟩)
    exact ⟨_, ra, rfl, ga1, by rw [subL _ _ (by constructor <;> omega)]; dsimp only; omega⟩
  · refine zi_resL hk h hG (hA.stack hr) ?_
    unfold zfit
    split
    · rename_i hc
      simp only [Bool.and_eq_true, zfits, zbd, decide_eq_true_eq] at hc
      rw [subL _ _ (by constructor <;> omega)]
      constructor <;> dsimp only <;> omega
    · exact bL _
theorem zi_lmul (hx : p.tables.exec = Jvm.exec) (hb : c.code = cc) (hk : ∀ pc x, k pc x = true → zW p l e R s m args below meth c cells slots Q G ks ad nL rs pc x) (hdg : decode cc pc = .ok (.lmul, 1)) (h : zMul k (pc + 1) 1 x = true) : zW p l e R s m args below meth c cells slots Q G ks ad nL rs pc x := by
  intro rho ws H locs ls sv hG hA
  obtain ⟨en, lo, st, me, fa⟩ := x
  unfold zMul at h
  split at h
  case h_2 => exact absurd h (by decide)
  rename_i b a st' he
  dsimp only at he hA
  subst he
  obtain ⟨wb, vs1, rfl, hdb, hr1⟩ := zst1 hA.2.2.2.1
  obtain ⟨wa, vs, rfl, hda, hr⟩ := zst1 hr1
  simp only [Bool.and_eq_true, beq_iff_eq] at h
  obtain ⟨h1, h2, h⟩ := h
  obtain ⟨ya, ra, rfl, ga1, ga2⟩ := zden_long hda h1
  obtain ⟨yb, rb, rfl, gb1, gb2⟩ := zden_long hdb h2
  have hA1 := zr_ok hA.1 ga1
  have hB1 := zr_ok hA.1 gb1
  refine lv_lmul hx hb hdg ?_
  rw [← ga2] at hA1
  rw [← gb2] at hB1
  have hm := mulB hA1.1 hA1.2 hB1.1 hB1.2
  refine zi_resL hk h hG (hA.stack hr) ?_
  unfold zfit
  split
  · rename_i hc
    simp only [Bool.and_eq_true, zfits, zbd, decide_eq_true_eq] at hc
    rw [mulL _ _ ⟨Int.le_trans hc.1 hm.1, Int.le_trans hm.2 hc.2⟩]
    exact hm
  · exact bL _
theorem zi_iand (hx : p.tables.exec = Jvm.exec) (hb : c.code = cc) (hk : ∀ pc x, k pc x = true → zW p l e R s m args below meth c cells slots Q G ks ad nL rs pc x) (hdg : decode cc pc = .ok (.iand, 1)) (h : zAnd k (pc + 1) x = true) : zW p l e R s m args below meth c cells slots Q G ks ad nL rs pc x := by
  intro rho ws H locs ls sv hG hA
  obtain ⟨en, lo, st, me, fa⟩ := x
  unfold zAnd at h
  split at h
  case h_2 => exact absurd h (by decide)
  rename_i b a st' he
  dsimp only at he hA
  subst he
  obtain ⟨wb, vs1, rfl, hdb, hr1⟩ := zst1 hA.2.2.2.1
  obtain ⟨wa, vs, rfl, hda, hr⟩ := zst1 hr1
  simp only [Bool.and_eq_true, beq_iff_eq] at h
  obtain ⟨h1, h2, h⟩ := h
  obtain ⟨ya, ra, rfl, ga1, ga2⟩ := zden_int hda h1
  obtain ⟨yb, rb, rfl, gb1, gb2⟩ := zden_int hdb h2
  have hA1 := zr_ok hA.1 ga1
  have hB1 := zr_ok hA.1 gb1
  refine lv_iand hx hb hdg ?_
  split at h
  · rename_i hc
    rw [decide_eq_true_eq] at hc
    refine zi_resI hk h hG (hA.stack hr) ?_
    have := andI ya yb (by omega)
    constructor <;> dsimp only <;> omega
  split at h
  · rename_i hc
    rw [decide_eq_true_eq] at hc
    refine zi_resI hk h hG (hA.stack hr) ?_
    rw [andC]
    have := andI yb ya (by omega)
    constructor <;> dsimp only <;> omega
  · exact zi_resI hk h hG (hA.stack hr) (bT _)
theorem zi_ior (hx : p.tables.exec = Jvm.exec) (hb : c.code = cc) (hk : ∀ pc x, k pc x = true → zW p l e R s m args below meth c cells slots Q G ks ad nL rs pc x) (hdg : decode cc pc = .ok (.ior, 1)) (h : zAny2 k (pc + 1) 0 0 x = true) : zW p l e R s m args below meth c cells slots Q G ks ad nL rs pc x := by
  intro rho ws H locs ls sv hG hA
  obtain ⟨en, lo, st, me, fa⟩ := x
  unfold zAny2 at h
  split at h
  case h_2 => exact absurd h (by decide)
  rename_i b a st' he
  dsimp only at he hA
  subst he
  obtain ⟨wb, vs1, rfl, hdb, hr1⟩ := zst1 hA.2.2.2.1
  obtain ⟨wa, vs, rfl, hda, hr⟩ := zst1 hr1
  simp only [Bool.and_eq_true, beq_iff_eq] at h
  obtain ⟨h1, h2, h⟩ := h
  obtain ⟨ya, ra, rfl, ga1, ga2⟩ := zden_int hda h1
  obtain ⟨yb, rb, rfl, gb1, gb2⟩ := zden_int hdb h2
  refine lv_ior hx hb hdg ?_
  exact zi_resI hk h hG (hA.stack hr) (bT _)
theorem zi_ixor (hx : p.tables.exec = Jvm.exec) (hb : c.code = cc) (hk : ∀ pc x, k pc x = true → zW p l e R s m args below meth c cells slots Q G ks ad nL rs pc x) (hdg : decode cc pc = .ok (.ixor, 1)) (h : zAny2 k (pc + 1) 0 0 x = true) : zW p l e R s m args below meth c cells slots Q G ks ad nL rs pc x := by
  intro rho ws H locs ls sv hG hA
  obtain ⟨en, lo, st, me, fa⟩ := x
  unfold zAny2 at h
  split at h
  case h_2 => exact absurd h (by decide)
  rename_i b a st' he
  dsimp only at he hA
  subst he
  obtain ⟨wb, vs1, rfl, hdb, hr1⟩ := zst1 hA.2.2.2.1
  obtain ⟨wa, vs, rfl, hda, hr⟩ := zst1 hr1
  simp only [Bool.and_eq_true, beq_iff_eq] at h
  obtain ⟨h1, h2, h⟩ := h
  obtain ⟨ya, ra, rfl, ga1, ga2⟩ := zden_int hda h1
  obtain ⟨yb, rb, rfl, gb1, gb2⟩ := zden_int hdb h2
  refine lv_ixor hx hb hdg ?_
  exact zi_resI hk h hG (hA.stack hr) (bT _)
theorem zi_ishl (hx : p.tables.exec = Jvm.exec) (hb : c.code = cc) (hk : ∀ pc x, k pc x = true → zW p l e R s m args below meth c cells slots Q G ks ad nL rs pc x) (hdg : decode cc pc = .ok (.ishl, 1)) (h : zAny2 k (pc + 1) 0 0 x = true) : zW p l e R s m args below meth c cells slots Q G ks ad nL rs pc x := by
  intro rho ws H locs ls sv hG hA
  obtain ⟨en, lo, st, me, fa⟩ := x
  unfold zAny2 at h
  split at h
  case h_2 => exact absurd h (by decide)
  rename_i b a st' he
  dsimp only at he hA
  subst he
  obtain ⟨wb, vs1, rfl, hdb, hr1⟩ := zst1 hA.2.2.2.1
  obtain ⟨wa, vs, rfl, hda, hr⟩ := zst1 hr1
  simp only [Bool.and_eq_true, beq_iff_eq] at h
  obtain ⟨h1, h2, h⟩ := h
  obtain ⟨ya, ra, rfl, ga1, ga2⟩ := zden_int hda h1
  obtain ⟨yb, rb, rfl, gb1, gb2⟩ := zden_int hdb h2
  refine lv_ishl hx hb hdg ?_
  exact zi_resI hk h hG (hA.stack hr) (bT _)
theorem zi_ishr (hx : p.tables.exec = Jvm.exec) (hb : c.code = cc) (hk : ∀ pc x, k pc x = true → zW p l e R s m args below meth c cells slots Q G ks ad nL rs pc x) (hdg : decode cc pc = .ok (.ishr, 1)) (h : zAny2 k (pc + 1) 0 0 x = true) : zW p l e R s m args below meth c cells slots Q G ks ad nL rs pc x := by
  intro rho ws H locs ls sv hG hA
  obtain ⟨en, lo, st, me, fa⟩ := x
  unfold zAny2 at h
  split at h
  case h_2 => exact absurd h (by decide)
  rename_i b a st' he
  dsimp only at he hA
  subst he
  obtain ⟨wb, vs1, rfl, hdb, hr1⟩ := zst1 hA.2.2.2.1
  obtain ⟨wa, vs, rfl, hda, hr⟩ := zst1 hr1
  simp only [Bool.and_eq_true, beq_iff_eq] at h
  obtain ⟨h1, h2, h⟩ := h
  obtain ⟨ya, ra, rfl, ga1, ga2⟩ := zden_int hda h1
  obtain ⟨yb, rb, rfl, gb1, gb2⟩ := zden_int hdb h2
  refine lv_ishr hx hb hdg ?_
  exact zi_resI hk h hG (hA.stack hr) (bT _)
theorem zi_iushr (hx : p.tables.exec = Jvm.exec) (hb : c.code = cc) (hk : ∀ pc x, k pc x = true → zW p l e R s m args below meth c cells slots Q G ks ad nL rs pc x) (hdg : decode cc pc = .ok (.iushr, 1)) (h : zAny2 k (pc + 1) 0 0 x = true) : zW p l e R s m args below meth c cells slots Q G ks ad nL rs pc x := by
  intro rho ws H locs ls sv hG hA
  obtain ⟨en, lo, st, me, fa⟩ := x
  unfold zAny2 at h
  split at h
  case h_2 => exact absurd h (by decide)
  rename_i b a st' he
  dsimp only at he hA
  subst he
  obtain ⟨wb, vs1, rfl, hdb, hr1⟩ := zst1 hA.2.2.2.1
  obtain ⟨wa, vs, rfl, hda, hr⟩ := zst1 hr1
  simp only [Bool.and_eq_true, beq_iff_eq] at h
  obtain ⟨h1, h2, h⟩ := h
  obtain ⟨ya, ra, rfl, ga1, ga2⟩ := zden_int hda h1
  obtain ⟨yb, rb, rfl, gb1, gb2⟩ := zden_int hdb h2
  refine lv_iushr hx hb hdg rfl ?_
  exact zi_resI hk h hG (hA.stack hr) (bT _)
theorem zi_lshl (hx : p.tables.exec = Jvm.exec) (hb : c.code = cc) (hk : ∀ pc x, k pc x = true → zW p l e R s m args below meth c cells slots Q G ks ad nL rs pc x) (hdg : decode cc pc = .ok (.lshl, 1)) (h : zAny2 k (pc + 1) 1 0 x = true) : zW p l e R s m args below meth c cells slots Q G ks ad nL rs pc x := by
  intro rho ws H locs ls sv hG hA
  obtain ⟨en, lo, st, me, fa⟩ := x
  unfold zAny2 at h
  split at h
  case h_2 => exact absurd h (by decide)
  rename_i b a st' he
  dsimp only at he hA
  subst he
  obtain ⟨wb, vs1, rfl, hdb, hr1⟩ := zst1 hA.2.2.2.1
  obtain ⟨wa, vs, rfl, hda, hr⟩ := zst1 hr1
  simp only [Bool.and_eq_true, beq_iff_eq] at h
  obtain ⟨h1, h2, h⟩ := h
  obtain ⟨ya, ra, rfl, ga1, ga2⟩ := zden_long hda h1
  obtain ⟨yb, rb, rfl, gb1, gb2⟩ := zden_int hdb h2
  refine lv_lshl hx hb hdg rfl ?_
  exact zi_resL hk h hG (hA.stack hr) (bL _)
theorem zi_land (hx : p.tables.exec = Jvm.exec) (hb : c.code = cc) (hk : ∀ pc x, k pc x = true → zW p l e R s m args below meth c cells slots Q G ks ad nL rs pc x) (hdg : decode cc pc = .ok (.land, 1)) (h : zAny2 k (pc + 1) 1 1 x = true) : zW p l e R s m args below meth c cells slots Q G ks ad nL rs pc x := by
  intro rho ws H locs ls sv hG hA
  obtain ⟨en, lo, st, me, fa⟩ := x
  unfold zAny2 at h
  split at h
  case h_2 => exact absurd h (by decide)
  rename_i b a st' he
  dsimp only at he hA
  subst he
  obtain ⟨wb, vs1, rfl, hdb, hr1⟩ := zst1 hA.2.2.2.1
  obtain ⟨wa, vs, rfl, hda, hr⟩ := zst1 hr1
  simp only [Bool.and_eq_true, beq_iff_eq] at h
  obtain ⟨h1, h2, h⟩ := h
  obtain ⟨ya, ra, rfl, ga1, ga2⟩ := zden_long hda h1
  obtain ⟨yb, rb, rfl, gb1, gb2⟩ := zden_long hdb h2
  refine lv_land hx hb hdg ?_
  exact zi_resL hk h hG (hA.stack hr) (bL _)
theorem zi_lor (hx : p.tables.exec = Jvm.exec) (hb : c.code = cc) (hk : ∀ pc x, k pc x = true → zW p l e R s m args below meth c cells slots Q G ks ad nL rs pc x) (hdg : decode cc pc = .ok (.lor, 1)) (h : zAny2 k (pc + 1) 1 1 x = true) : zW p l e R s m args below meth c cells slots Q G ks ad nL rs pc x := by
  intro rho ws H locs ls sv hG hA
  obtain ⟨en, lo, st, me, fa⟩ := x
  unfold zAny2 at h
  split at h
  case h_2 => exact absurd h (by decide)
  rename_i b a st' he
  dsimp only at he hA
  subst he
  obtain ⟨wb, vs1, rfl, hdb, hr1⟩ := zst1 hA.2.2.2.1
  obtain ⟨wa, vs, rfl, hda, hr⟩ := zst1 hr1
  simp only [Bool.and_eq_true, beq_iff_eq] at h
  obtain ⟨h1, h2, h⟩ := h
  obtain ⟨ya, ra, rfl, ga1, ga2⟩ := zden_long hda h1
  obtain ⟨yb, rb, rfl, gb1, gb2⟩ := zden_long hdb h2
  refine lv_lor hx hb hdg ?_
  exact zi_resL hk h hG (hA.stack hr) (bL _)
theorem zi_irem (hx : p.tables.exec = Jvm.exec) (hb : c.code = cc) (hk : ∀ pc x, k pc x = true → zW p l e R s m args below meth c cells slots Q G ks ad nL rs pc x) (hdg : decode cc pc = .ok (.irem, 1)) (h : zRem k (pc + 1) x = true) : zW p l e R s m args below meth c cells slots Q G ks ad nL rs pc x := by
  intro rho ws H locs ls sv hG hA
  obtain ⟨en, lo, st, me, fa⟩ := x
  unfold zRem at h
  split at h
  case h_2 => exact absurd h (by decide)
  rename_i b a st' he
  dsimp only at he hA
  subst he
  obtain ⟨wb, vs1, rfl, hdb, hr1⟩ := zst1 hA.2.2.2.1
  obtain ⟨wa, vs, rfl, hda, hr⟩ := zst1 hr1
  simp only [Bool.and_eq_true, beq_iff_eq] at h
  obtain ⟨h1, h2, h⟩ := h
  obtain ⟨ya, ra, rfl, ga1, ga2⟩ := zden_int hda h1
  obtain ⟨yb, rb, rfl, gb1, gb2⟩ := zden_int hdb h2
  have hB1 := zr_ok hA.1 gb1
  have hA1 := zr_ok hA.1 ga1
  split at h
  · rename_i hc
    simp only [Bool.and_eq_true, beq_iff_eq, decide_eq_true_eq] at hc
    obtain ⟨c1, c2, c3, c4⟩ := hc
    refine lv_irem hx hb hdg (ne320 (by omega)) ?_
    refine zi_resI hk h hG (hA.stack hr) ?_
    rw [remI _ _ (by omega) (by omega), show ya.toInt = (zr en a).1 by omega, show yb.toInt = (zr en b).1 by omega]
    exact ⟨Int.le_refl _, Int.le_refl _⟩
  · rw [Bool.and_eq_true, Bool.or_eq_true, decide_eq_true_eq, decide_eq_true_eq] at h
    refine lv_irem hx hb hdg (ne320 (by omega)) ?_
    exact zi_resI hk h.2 hG (hA.stack hr) (bT _)
theorem zi_lrem (hx : p.tables.exec = Jvm.exec) (hb : c.code = cc) (hk : ∀ pc x, k pc x = true → zW p l e R s m args below meth c cells slots Q G ks ad nL rs pc x) (hdg : decode cc pc = .ok (.lrem, 1)) (h : zLrem k (pc + 1) x = true) : zW p l e R s m args below meth c cells slots Q G ks ad nL rs pc x := by
  intro rho ws H locs ls sv hG hA
  obtain ⟨en, lo, st, me, fa⟩ := x
  unfold zLrem at h
  split at h
  case h_2 => exact absurd h (by decide)
  rename_i b a st' he
  dsimp only at he hA
  subst he
  obtain ⟨wb, vs1, rfl, hdb, hr1⟩ := zst1 hA.2.2.2.1
  obtain ⟨wa, vs, rfl, hda, hr⟩ := zst1 hr1
  simp only [Bool.and_eq_true, beq_iff_eq] at h
  obtain ⟨h1, h2, h⟩ := h
  obtain ⟨ya, ra, rfl, ga1, ga2⟩ := zden_long hda h1
  obtain ⟨yb, rb, rfl, gb1, gb2⟩ := zden_long hdb h2
  have hB1 := zr_ok hA.1 gb1
  have hA1 := zr_ok hA.1 ga1
  split at h
  · rename_i hc
    simp only [Bool.and_eq_true, decide_eq_true_eq] at hc
    refine lv_lrem hx hb hdg (ne64 (by omega)) ?_
    refine zi_resL hk h hG (hA.stack hr) ?_
    rw [remL _ _ (by omega) (by omega)]
    have h1 := Int.emod_nonneg ya.toInt (show yb.toInt ≠ 0 by omega)
    have h2 := Int.emod_lt_of_pos ya.toInt (show 0 < yb.toInt by omega)
    constructor <;> dsimp only <;> omega
  · rw [Bool.and_eq_true, Bool.or_eq_true, decide_eq_true_eq, decide_eq_true_eq] at h
    refine lv_lrem hx hb hdg (ne64 (by omega)) ?_
    exact zi_resL hk h.2 hG (hA.stack hr) (bL _)
theorem zi_ldiv (hx : p.tables.exec = Jvm.exec) (hb : c.code = cc) (hk : ∀ pc x, k pc x = true → zW p l e R s m args below meth c cells slots Q G ks ad nL rs pc x) (hdg : decode cc pc = .ok (.ldiv, 1)) (h : zDiv k (pc + 1) 1 x = true) : zW p l e R s m args below meth c cells slots Q G ks ad nL rs pc x := by
  intro rho ws H locs ls sv hG hA
  obtain ⟨en, lo, st, me, fa⟩ := x
  unfold zDiv at h
  split at h
  case h_2 => exact absurd h (by decide)
  rename_i b a st' he
  dsimp only at he hA
  subst he
  obtain ⟨wb, vs1, rfl, hdb, hr1⟩ := zst1 hA.2.2.2.1
  obtain ⟨wa, vs, rfl, hda, hr⟩ := zst1 hr1
  simp only [Bool.and_eq_true, beq_iff_eq] at h
  obtain ⟨h1, h2, h⟩ := h
  obtain ⟨ya, ra, rfl, ga1, ga2⟩ := zden_long hda h1
  obtain ⟨yb, rb, rfl, gb1, gb2⟩ := zden_long hdb h2
  have hB1 := zr_ok hA.1 gb1
  simp only [Bool.or_eq_true, decide_eq_true_eq] at h
  refine lv_ldiv hx hb hdg (ne64 (by omega)) ?_
  exact zi_resL hk h.2 hG (hA.stack hr) (bL _)
theorem zi_i2l (hx : p.tables.exec = Jvm.exec) (hb : c.code = cc) (hk : ∀ pc x, k pc x = true → zW p l e R s m args below meth c cells slots Q G ks ad nL rs pc x) (hdg : decode cc pc = .ok (.i2l, 1)) (h : (match x.2.2.1 with
    | a :: st => a.1 == 0 && zpush k (pc + 1) (1, a.2) x st
    | _ => false) = true) : zW p l e R s m args below meth c cells slots Q G ks ad nL rs pc x := by
  intro rho ws H locs ls sv hG hA
  obtain ⟨en, lo, st, me, fa⟩ := x
  split at h
  case h_2 => exact absurd h (by decide)
  rename_i a st' he
  dsimp only at he hA
  subst he
  obtain ⟨wa, vs, rfl, hda, hr⟩ := zst1 hA.2.2.2.1
  simp only [Bool.and_eq_true, beq_iff_eq] at h
  obtain ⟨ya, ra, rfl, ga1, ga2⟩ := zden_int hda h.1
  exact lv_i2l hx hb hdg rfl (hk _ _ h.2 rho ws H locs ls _ hG (hA.stack ⟨⟨_, ra, rfl, ga1, by rw [i2L]; exact ga2⟩, hr⟩))
theorem zi_l2i (hx : p.tables.exec = Jvm.exec) (hb : c.code = cc) (hk : ∀ pc x, k pc x = true → zW p l e R s m args below meth c cells slots Q G ks ad nL rs pc x) (hdg : decode cc pc = .ok (.l2i, 1)) (h : zNar k (pc + 1) 1 0 (-2147483648) 2147483647 x = true) : zW p l e R s m args below meth c cells slots Q G ks ad nL rs pc x := by
  intro rho ws H locs ls sv hG hA
  obtain ⟨en, lo, st, me, fa⟩ := x
  unfold zNar at h
  split at h
  case h_2 => exact absurd h (by decide)
  rename_i a st' he
  dsimp only at he hA
  subst he
  obtain ⟨wa, vs, rfl, hda, hr⟩ := zst1 hA.2.2.2.1
  simp only [Bool.and_eq_true, beq_iff_eq] at h
  obtain ⟨h1, h⟩ := h
  obtain ⟨ya, ra, rfl, ga1, ga2⟩ := zden_long hda h1
  have hA1 := zr_ok hA.1 ga1
  refine lv_l2i hx hb hdg rfl ?_
  split at h
  · rename_i hc
    simp only [Bool.and_eq_true, decide_eq_true_eq] at hc
    refine hk _ _ h rho ws H locs ls _ hG (hA.stack ⟨?_, hr⟩)
    exact ⟨_, ra, rfl, ga1, by rw [l2I ya (by constructor <;> omega)]; exact ga2⟩
  · exact zi_resI hk h hG (hA.stack hr) (bT _)
theorem zi_i2b (hx : p.tables.exec = Jvm.exec) (hb : c.code = cc) (hk : ∀ pc x, k pc x = true → zW p l e R s m args below meth c cells slots Q G ks ad nL rs pc x) (hdg : decode cc pc = .ok (.i2b, 1)) (h : zNar k (pc + 1) 0 0 (-128) 127 x = true) : zW p l e R s m args below meth c cells slots Q G ks ad nL rs pc x := by
  intro rho ws H locs ls sv hG hA
  obtain ⟨en, lo, st, me, fa⟩ := x
  unfold zNar at h
  split at h
  case h_2 => exact absurd h (by decide)
  rename_i a st' he
  dsimp only at he hA
  subst he
  obtain ⟨wa, vs, rfl, hda, hr⟩ := zst1 hA.2.2.2.1
  simp only [Bool.and_eq_true, beq_iff_eq] at h
  obtain ⟨h1, h⟩ := h
  obtain ⟨ya, ra, rfl, ga1, ga2⟩ := zden_int hda h1
  have hA1 := zr_ok hA.1 ga1
  refine lv_i2b hx hb hdg rfl ?_
  split at h
  · rename_i hc
    simp only [Bool.and_eq_true, decide_eq_true_eq] at hc
    refine hk _ _ h rho ws H locs ls _ hG (hA.stack ⟨?_, hr⟩)
    exact ⟨_, ra, rfl, ga1, by rw [i2Bs ya (by constructor <;> omega)]; exact ga2⟩
  · exact zi_resI hk h hG (hA.stack hr) (i2B _)
theorem zi_i2s (hx : p.tables.exec = Jvm.exec) (hb : c.code = cc) (hk : ∀ pc x, k pc x = true → zW p l e R s m args below meth c cells slots Q G ks ad nL rs pc x) (hdg : decode cc pc = .ok (.i2s, 1)) (h : zNar k (pc + 1) 0 0 (-32768) 32767 x = true) : zW p l e R s m args below meth c cells slots Q G ks ad nL rs pc x := by
  intro rho ws H locs ls sv hG hA
  obtain ⟨en, lo, st, me, fa⟩ := x
  unfold zNar at h
  split at h
  case h_2 => exact absurd h (by decide)
  rename_i a st' he
  dsimp only at he hA
  subst he
  obtain ⟨wa, vs, rfl, hda, hr⟩ := zst1 hA.2.2.2.1
  simp only [Bool.and_eq_true, beq_iff_eq] at h
  obtain ⟨h1, h⟩ := h
  obtain ⟨ya, ra, rfl, ga1, ga2⟩ := zden_int hda h1
  have hA1 := zr_ok hA.1 ga1
  refine lv_i2s hx hb hdg rfl ?_
  split at h
  · rename_i hc
    simp only [Bool.and_eq_true, decide_eq_true_eq] at hc
    refine hk _ _ h rho ws H locs ls _ hG (hA.stack ⟨?_, hr⟩)
    exact ⟨_, ra, rfl, ga1, by rw [i2Ss ya (by constructor <;> omega)]; exact ga2⟩
  · exact zi_resI hk h hG (hA.stack hr) (i2S _)
theorem zi_dup (hx : p.tables.exec = Jvm.exec) (hb : c.code = cc) (hk : ∀ pc x, k pc x = true → zW p l e R s m args below meth c cells slots Q G ks ad nL rs pc x) (hdg : decode cc pc = .ok (.dup, 1)) (h : (match x.2.2.1 with
    | a :: st => !(a.1 == 1) && zpush k (pc + 1) a x (a :: st)
    | _ => false) = true) : zW p l e R s m args below meth c cells slots Q G ks ad nL rs pc x := by
  intro rho ws H locs ls sv hG hA
  obtain ⟨en, lo, st, me, fa⟩ := x
  split at h
  case h_2 => exact absurd h (by decide)
  rename_i a st' he
  dsimp only at he hA
  subst he
  obtain ⟨wa, vs, rfl, hda, hr⟩ := zst1 hA.2.2.2.1
  rw [Bool.and_eq_true] at h
  exact lv_dup hx hb hdg (zden_cat1 hda h.1) (hk _ _ h.2 rho ws H locs ls _ hG (hA.stack ⟨hda, hda, hr⟩))
theorem zi_pop (hx : p.tables.exec = Jvm.exec) (hb : c.code = cc) (hk : ∀ pc x, k pc x = true → zW p l e R s m args below meth c cells slots Q G ks ad nL rs pc x) (hdg : decode cc pc = .ok (.pop, 1)) (h : (match x.2.2.1 with
    | a :: st => !(a.1 == 1) && k (pc + 1) (x.1, x.2.1, st, x.2.2.2)
    | _ => false) = true) : zW p l e R s m args below meth c cells slots Q G ks ad nL rs pc x := by
  intro rho ws H locs ls sv hG hA
  obtain ⟨en, lo, st, me, fa⟩ := x
  split at h
  case h_2 => exact absurd h (by decide)
  rename_i a st' he
  dsimp only at he hA
  subst he
  obtain ⟨wa, vs, rfl, hda, hr⟩ := zst1 hA.2.2.2.1
  rw [Bool.and_eq_true] at h
  exact lv_pop hx hb hdg (zden_cat1 hda h.1) (hk _ _ h.2 rho ws H locs ls _ hG (hA.stack hr))
theorem zi_pop2 (hx : p.tables.exec = Jvm.exec) (hb : c.code = cc) (hk : ∀ pc x, k pc x = true → zW p l e R s m args below meth c cells slots Q G ks ad nL rs pc x) (hdg : decode cc pc = .ok (.pop2, 1)) (h : (match x.2.2.1 with
    | a :: st => a.1 == 1 && k (pc + 1) (x.1, x.2.1, st, x.2.2.2)
    | _ => false) = true) : zW p l e R s m args below meth c cells slots Q G ks ad nL rs pc x := by
  intro rho ws H locs ls sv hG hA
  obtain ⟨en, lo, st, me, fa⟩ := x
  split at h
  case h_2 => exact absurd h (by decide)
  rename_i a st' he
  dsimp only at he hA
  subst he
  obtain ⟨wa, vs, rfl, hda, hr⟩ := zst1 hA.2.2.2.1
  rw [Bool.and_eq_true] at h
  exact lv_pop2_2 hx hb hdg (by have := zden_cat hda; rw [h.1] at this; simpa using this.symm) (hk _ _ h.2 rho ws H locs ls _ hG (hA.stack hr))
theorem zi_dup2 (hx : p.tables.exec = Jvm.exec) (hb : c.code = cc) (hk : ∀ pc x, k pc x = true → zW p l e R s m args below meth c cells slots Q G ks ad nL rs pc x) (hdg : decode cc pc = .ok (.dup2, 1)) (h : (match x.2.2.1 with
    | b :: a :: st => !(a.1 == 1) && (!(b.1 == 1) && zpush k (pc + 1) b x (a :: b :: a :: st))
    | _ => false) = true) : zW p l e R s m args below meth c cells slots Q G ks ad nL rs pc x := by
  intro rho ws H locs ls sv hG hA
  obtain ⟨en, lo, st, me, fa⟩ := x
  split at h
  case h_2 => exact absurd h (by decide)
  rename_i b a st' he
  dsimp only at he hA
  subst he
  obtain ⟨wb, vs1, rfl, hdb, hr1⟩ := zst1 hA.2.2.2.1
  obtain ⟨wa, vs, rfl, hda, hr⟩ := zst1 hr1
  rw [Bool.and_eq_true, Bool.and_eq_true] at h
  exact lv_dup2_11 hx hb hdg (zden_cat1 hdb h.2.1) (zden_cat1 hda h.1) (hk _ _ h.2.2 rho ws H locs ls _ hG (hA.stack ⟨hdb, hda, hdb, hda, hr⟩))
theorem zi_lcmp (hx : p.tables.exec = Jvm.exec) (hb : c.code = cc) (hk : ∀ pc x, k pc x = true → zW p l e R s m args below meth c cells slots Q G ks ad nL rs pc x) (hdg : decode cc pc = .ok (.lcmp, 1)) (h : zLcmp k (pc + 1) x = true) : zW p l e R s m args below meth c cells slots Q G ks ad nL rs pc x := by
  intro rho ws H locs ls sv hG hA
  obtain ⟨en, lo, st, me, fa⟩ := x
  unfold zLcmp at h
  split at h
  case h_2 => exact absurd h (by decide)
  rename_i b a st' he
  dsimp only at he hA
  subst he
  obtain ⟨wb, vs1, rfl, hdb, hr1⟩ := zst1 hA.2.2.2.1
  obtain ⟨wa, vs, rfl, hda, hr⟩ := zst1 hr1
  simp only [Bool.and_eq_true, beq_iff_eq] at h
  obtain ⟨h1, h2, h⟩ := h
  obtain ⟨ya, ra, rfl, ga1, ga2⟩ := zden_long hda h1
  obtain ⟨yb, rb, rfl, gb1, gb2⟩ := zden_long hdb h2
  have hl : rho.length = en.length := hA.1.1
  refine W.lcmp hx hb hdg (hk _ _ h (rho ++ [(lg_cmp ya yb).toInt]) ws H locs ls _ hG ?_)
  have hA1 := zr_ok hA.1 ga1
  have hB1 := zr_ok hA.1 gb1
  rw [← ga2] at hA1
  rw [← gb2] at hB1
  have hcl := cmpB hA1 hB1
  have hA2 := (hA.stack hr).grow (b := zcl (zr en a) (zr en b)) (r := (lg_cmp ya yb).toInt) hcl.1 hcl.2
  obtain ⟨b1, b2, b3, b4, b5, b6⟩ := hA2
  have hn : (rho ++ [(lg_cmp ya yb).toInt])[en.length]? = some (lg_cmp ya yb).toInt := by rw [← hl]; exact zg_new
  refine ⟨b1, b2, b3, ⟨⟨_, _, rfl, hn, (Int.add_zero _).symm⟩, b4⟩, b5, fun f hf => ?_⟩
  simp only [List.mem_cons] at hf
  rcases hf with rfl | rfl | rfl | rfl | hf
  · intro hc
    have := hc _ (List.mem_singleton.mpr rfl) _ hn
    have := cmp_lt this
    exact ⟨rb, ra, zg_app gb1, zg_app ga1, by dsimp only; omega⟩
  · intro hc
    have := hc _ (List.mem_singleton.mpr rfl) _ hn
    have := cmp_ge this
    exact ⟨ra, rb, zg_app ga1, zg_app gb1, by dsimp only; omega⟩
  · intro hc
    have := hc _ (List.mem_singleton.mpr rfl) _ hn
    have := cmp_gt this
    exact ⟨ra, rb, zg_app ga1, zg_app gb1, by dsimp only; omega⟩
  · intro hc
    have := hc _ (List.mem_singleton.mpr rfl) _ hn
    have := cmp_le this
    exact ⟨rb, ra, zg_app gb1, zg_app ga1, by dsimp only; omega⟩
  · exact b6 f hf
theorem zstr_ok {rho : List Int} {a b : zv} {ra rb : Int} (ha : rho[a.2.1]? = some ra) (hb : rho[b.2.1]? = some rb) (hne : ra + a.2.2 ≠ rb + b.2.2) : ∀ {fa : List zfact}, zfs rho fa → zfs rho (zstr fa a b)
  | [], _ => fun f hf => by cases hf
  | f :: r, h => by
    intro g hg
    unfold zstr at hg
    rcases List.mem_append.mp hg with hg | hg
    · split at hg
      case isFalse => cases hg
      rename_i hc
      rw [Bool.and_eq_true, Bool.and_eq_true, Bool.and_eq_true, beq_iff_eq, beq_iff_eq, beq_iff_eq] at hc
      obtain ⟨c0, c1, c2, c3⟩ := hc
      rw [List.mem_singleton] at hg
      subst hg
      obtain ⟨x, y, h1, h2, h3⟩ := h f List.mem_cons_self (fun q hq => by rw [List.isEmpty_iff.mp c0] at hq; cases hq)
      intro _
      refine ⟨x, y, h1, h2, ?_⟩
      rw [c1, ha] at h1; cases h1
      rw [c2, hb] at h2; cases h2
      dsimp only
      omega
    rcases List.mem_append.mp hg with hg | hg
    · split at hg
      case isFalse => cases hg
      rename_i hc
      rw [Bool.and_eq_true, Bool.and_eq_true, Bool.and_eq_true, beq_iff_eq, beq_iff_eq, beq_iff_eq] at hc
      obtain ⟨c0, c1, c2, c3⟩ := hc
      rw [List.mem_singleton] at hg
      subst hg
      obtain ⟨x, y, h1, h2, h3⟩ := h f List.mem_cons_self (fun q hq => by rw [List.isEmpty_iff.mp c0] at hq; cases hq)
      intro _
      refine ⟨x, y, h1, h2, ?_⟩
      rw [c1, hb] at h1; cases h1
      rw [c2, ha] at h2; cases h2
      dsimp only
      omega
    · exact zstr_ok ha hb hne (fun f hf => h f (List.mem_cons_of_mem _ hf)) g hg
theorem zfan_ok {rho : List Int} {a b : zv} {ra rb : Int} {r : ClassFile.Cond} (ha : rho[a.2.1]? = some ra) (hb : rho[b.2.1]? = some rb) (hr : zrel r (ra + a.2.2) (rb + b.2.2)) {fa : List zfact} (h : zfs rho fa) : zfs rho (zfan r fa a b) := by
  cases r with
  | ne => intro f hf; rcases List.mem_append.mp hf with hf | hf; exact zstr_ok ha hb hr h f hf; exact h f hf
  | lt =>
    unfold zfan
    dsimp only
    split
    · exact h
    · intro f hf
      rcases List.mem_cons.mp hf with rfl | hf
      · exact fun _ => ⟨rb, ra, hb, ha, by simp only [zrel] at hr; dsimp only; omega⟩
      · exact h f hf
  | ge =>
    unfold zfan
    dsimp only
    split
    · exact h
    · intro f hf
      rcases List.mem_cons.mp hf with rfl | hf
      · exact fun _ => ⟨ra, rb, ha, hb, by simp only [zrel] at hr; dsimp only; omega⟩
      · exact h f hf
  | gt =>
    unfold zfan
    dsimp only
    split
    · exact h
    · intro f hf
      rcases List.mem_cons.mp hf with rfl | hf
      · exact fun _ => ⟨ra, rb, ha, hb, by simp only [zrel] at hr; dsimp only; omega⟩
      · exact h f hf
  | le =>
    unfold zfan
    dsimp only
    split
    · exact h
    · intro f hf
      rcases List.mem_cons.mp hf with rfl | hf
      · exact fun _ => ⟨rb, ra, hb, ha, by simp only [zrel] at hr; dsimp only; omega⟩
      · exact h f hf
  | eq =>
    unfold zfan
    dsimp only
    split
    · exact h
    · intro f hf
      rcases List.mem_cons.mp hf with rfl | hf
      · exact fun _ => ⟨ra, rb, ha, hb, by simp only [zrel] at hr; dsimp only; omega⟩
      rcases List.mem_cons.mp hf with rfl | hf
      · exact fun _ => ⟨rb, ra, hb, ha, by simp only [zrel] at hr; dsimp only; omega⟩
      · exact h f hf
theorem zAb.facts {en : zenv} {lo : List (Nat × zv)} {st : List zv} {me : zmem} {fa fa' : List zfact} {rho : List Int} {ws : va_W} {ls : Array Slot} {sv : List Value} (h : zAb ks ad nL rs en lo st me fa rho ws ls sv) (h1 : zfs rho fa') : zAb ks ad nL rs en lo st me fa' rho ws ls sv := ⟨h.1, h.2.1, h.2.2.1, h.2.2.2.1, h.2.2.2.2.1, h1⟩
theorem zgo1_ok (hk : ∀ pc x, k pc x = true → zW p l e R s m args below meth c cells slots Q G ks ad nL rs pc x) {t : Nat} {en : zenv} {fa : List zfact} {st : List zv} (h : zgo1 k t en fa x st = true) {rho : List Int} {ws : va_W} {H : Heap} {locs : List Loc} {ls : Array Slot} {sv : List Value} (hG : G ws H locs) (hA : zAb ks ad nL rs en x.2.1 st x.2.2.2.1 fa rho ws ls sv) : W p l e R s m args below meth c H locs cells slots Q (F0 m t ls sv) := by
  unfold zgo1 at h
  rw [zbad_ok hA.1, Bool.false_or] at h
  exact hk _ _ h rho ws H locs ls sv hG hA
theorem zjmp_ok {f : Nat → Bool} {off : Int} (h : zjmp f pc off = true) : ∃ t : Nat, (pc : Int) + off = (t : Int) ∧ f t = true := by
  unfold zjmp at h
  rw [Bool.and_eq_true, decide_eq_true_eq] at h
  exact ⟨((pc : Int) + off).toNat, (Int.toNat_of_nonneg h.1).symm, h.2⟩
theorem zi_goto (hx : p.tables.exec = Jvm.exec) (hb : c.code = cc) (hk : ∀ pc x, k pc x = true → zW p l e R s m args below meth c cells slots Q G ks ad nL rs pc x) {off : Int} (hdg : decode cc pc = .ok (.goto off, 3)) (h : zjmp (fun t => k t x) pc off = true) : zW p l e R s m args below meth c cells slots Q G ks ad nL rs pc x := by
  intro rho ws H locs ls sv hG hA
  obtain ⟨t, ht, h⟩ := zjmp_ok h
  exact lv_goto hx hb hdg ht (hk _ _ h rho ws H locs ls sv hG hA)
theorem zi_icmp (hx : p.tables.exec = Jvm.exec) (hb : c.code = cc) (hk : ∀ pc x, k pc x = true → zW p l e R s m args below meth c cells slots Q G ks ad nL rs pc x) {r : ClassFile.Cond} {off : Int} (hdg : decode cc pc = .ok (.if_icmp r off, 3)) (h : zjmp (fun t => zIcmp k (pc + 3) t r x) pc off = true) : zW p l e R s m args below meth c cells slots Q G ks ad nL rs pc x := by
  obtain ⟨t, ht, h⟩ := zjmp_ok h
  intro rho ws H locs ls sv hG hA
  obtain ⟨en, lo, st, me, fa⟩ := x
  unfold zIcmp at h
  split at h
  case h_2 => exact absurd h (by decide)
  rename_i b a st' he
  dsimp only at he hA
  subst he
  obtain ⟨wb, vs1, rfl, hdb, hr1⟩ := zst1 hA.2.2.2.1
  obtain ⟨wa, vs, rfl, hda, hr⟩ := zst1 hr1
  simp only [Bool.and_eq_true, beq_iff_eq] at h
  obtain ⟨h1, h2, h⟩ := h
  obtain ⟨ya, ra, rfl, ga1, ga2⟩ := zden_int hda h1
  obtain ⟨yb, rb, rfl, gb1, gb2⟩ := zden_int hdb h2
  have hT : zrel r (ra + a.2.2) (rb + b.2.2) → W p l e R s m args below meth c H locs cells slots Q (F0 m t ls vs) := fun hr2 => zgo1_ok hk h.1 hG ((((hA.stack hr)).facts (zfan_ok ga1 gb1 hr2 hA.2.2.2.2.2)).narrow (zprop_ok (zcond_ok hA.1 ga1 gb1 hr2) (zfan_ok ga1 gb1 hr2 hA.2.2.2.2.2)))
  have hF : ¬ zrel r (ra + a.2.2) (rb + b.2.2) → W p l e R s m args below meth c H locs cells slots Q (F0 m (pc + 3) ls vs) := fun hr2 => zgo1_ok hk h.2 hG ((((hA.stack hr)).facts (zfan_ok ga1 gb1 (zrel_not hr2) hA.2.2.2.2.2)).narrow (zprop_ok (zcond_ok hA.1 ga1 gb1 (zrel_not hr2)) (zfan_ok ga1 gb1 (zrel_not hr2) hA.2.2.2.2.2)))
  rw [← ga2, ← gb2] at hT hF
  cases r with
  | eq => exact lv_icmp_eq hx hb hdg ht (fun q => hT (by rw [q]; rfl)) (fun q => hF (fun g => q (Int32.toInt_inj.mp g)))
  | ne => exact lv_icmp_ne hx hb hdg ht (fun q => hT (fun g => q (Int32.toInt_inj.mp g))) (fun q => hF (fun g => g (by rw [q])))
  | lt => exact lv_icmp_lt hx hb hdg ht (fun q => hT (Int32.lt_iff_toInt_lt.mp q)) (fun q => hF (fun g => q (Int32.lt_iff_toInt_lt.mpr g)))
  | ge => exact lv_icmp_ge hx hb hdg ht (fun q => hT (Int32.le_iff_toInt_le.mp q)) (fun q => hF (fun g => q (Int32.le_iff_toInt_le.mpr g)))
  | gt => exact lv_icmp_gt hx hb hdg ht (fun q => hT (Int32.lt_iff_toInt_lt.mp q)) (fun q => hF (fun g => q (Int32.lt_iff_toInt_lt.mpr g)))
  | le => exact lv_icmp_le hx hb hdg ht (fun q => hT (Int32.le_iff_toInt_le.mp q)) (fun q => hF (fun g => q (Int32.le_iff_toInt_le.mpr g)))
theorem zi_if (hx : p.tables.exec = Jvm.exec) (hb : c.code = cc) (hk : ∀ pc x, k pc x = true → zW p l e R s m args below meth c cells slots Q G ks ad nL rs pc x) {r : ClassFile.Cond} {off : Int} (hdg : decode cc pc = .ok (.ifCond r off, 3)) (h : zjmp (fun t => zIf k (pc + 3) t r x) pc off = true) : zW p l e R s m args below meth c cells slots Q G ks ad nL rs pc x := by
  obtain ⟨t, ht, h⟩ := zjmp_ok h
  intro rho ws H locs ls sv hG hA
  obtain ⟨en, lo, st, me, fa⟩ := x
  unfold zIf at h
  split at h
  case h_2 => exact absurd h (by decide)
  rename_i a st' he
  dsimp only at he hA
  subst he
  obtain ⟨wa, vs, rfl, hda, hr⟩ := zst1 hA.2.2.2.1
  simp only [Bool.and_eq_true, beq_iff_eq] at h
  obtain ⟨h1, h⟩ := h
  obtain ⟨ya, ra, rfl, ga1, ga2⟩ := zden_int hda h1
  have g0 : rho[(0 : Nat)]? = some 0 := hA.1.2.1
  have hT : zrel r (ra + a.2.2) (0 + 0) → W p l e R s m args below meth c H locs cells slots Q (F0 m t ls vs) := fun hr2 => zgo1_ok hk h.1 hG (((hA.stack hr)).narrow (zprop_ok (zcond_ok (b := (0, 0, 0)) hA.1 ga1 g0 hr2) hA.2.2.2.2.2))
  have hF : ¬ zrel r (ra + a.2.2) (0 + 0) → W p l e R s m args below meth c H locs cells slots Q (F0 m (pc + 3) ls vs) := fun hr2 => zgo1_ok hk h.2 hG (((hA.stack hr)).narrow (zprop_ok (zcond_ok (b := (0, 0, 0)) hA.1 ga1 g0 (zrel_not hr2)) hA.2.2.2.2.2))
  rw [← ga2] at hT hF
  have z0 : ((0 : Int32)).toInt = 0 + 0 := rfl
  cases r with
  | eq => exact lv_if_eq hx hb hdg ht (fun q => hT (by rw [q]; rfl)) (fun q => hF (fun g => q (Int32.toInt_inj.mp g)))
  | ne => exact lv_if_ne hx hb hdg ht (fun q => hT (fun g => q (Int32.toInt_inj.mp g))) (fun q => hF (fun g => g (by rw [q]; rfl)))
  | lt => exact lv_if_lt hx hb hdg ht (fun q => hT (Int32.lt_iff_toInt_lt.mp q)) (fun q => hF (fun g => q (Int32.lt_iff_toInt_lt.mpr g)))
  | ge => exact lv_if_ge hx hb hdg ht (fun q => hT (Int32.le_iff_toInt_le.mp q)) (fun q => hF (fun g => q (Int32.le_iff_toInt_le.mpr g)))
  | gt => exact lv_if_gt hx hb hdg ht (fun q => hT (Int32.lt_iff_toInt_lt.mp q)) (fun q => hF (fun g => q (Int32.lt_iff_toInt_lt.mpr g)))
  | le => exact lv_if_le hx hb hdg ht (fun q => hT (Int32.le_iff_toInt_le.mp q)) (fun q => hF (fun g => q (Int32.le_iff_toInt_le.mpr g)))
theorem zi_switch (hx : p.tables.exec = Jvm.exec) (hb : c.code = cc) (hk : ∀ pc x, k pc x = true → zW p l e R s m args below meth c cells slots Q G ks ad nL rs pc x) {d lo hi : Int} {offs : Array Int} {len : Nat} (hdg : decode cc pc = .ok (.tableswitch d lo hi offs, len)) (h : zSw k pc d lo hi offs.toList x = true) : zW p l e R s m args below meth c cells slots Q G ks ad nL rs pc x := by
  intro rho ws H locs ls sv hG hA
  obtain ⟨en, lc, st, me, fa⟩ := x
  unfold zSw at h
  split at h
  case h_2 => exact absurd h (by decide)
  rename_i a st' he
  dsimp only at he hA
  subst he
  obtain ⟨wa, vs, rfl, hda, hr⟩ := zst1 hA.2.2.2.1
  rw [Bool.and_eq_true, beq_iff_eq, Bool.and_eq_true, Bool.and_eq_true, beq_iff_eq] at h
  obtain ⟨h1, h2, h3, h4⟩ := h
  obtain ⟨ya, ra, rfl, ga1, ga2⟩ := zden_int hda h1
  have g0 : rho[(0 : Nat)]? = some 0 := hA.1.2.1
  obtain ⟨t, ht, h2⟩ := zjmp_ok h2
  rw [Bool.and_eq_true] at h2
  by_cases c1 : ya.toInt < lo
  · exact lv_tableOut hx hb hdg (Or.inl c1) ht (zgo1_ok hk h2.1 hG ((hA.stack hr).narrow (zprop_ok (zcond_ok (r := .lt) (b := (0, 0, lo)) hA.1 ga1 g0 (by simp only [zrel]; omega)) hA.2.2.2.2.2)))
  by_cases c2 : hi < ya.toInt
  · exact lv_tableOut hx hb hdg (Or.inr c2) ht (zgo1_ok hk h2.2 hG ((hA.stack hr).narrow (zprop_ok (zcond_ok (r := .gt) (b := (0, 0, hi)) hA.1 ga1 g0 (by simp only [zrel]; omega)) hA.2.2.2.2.2)))
  have hj : (ya.toInt - lo).toNat < offs.toList.length := by omega
  have h5 := List.all_eq_true.mp h4 (ya.toInt - lo).toNat (List.mem_range.mpr hj)
  split at h5
  case h_2 => exact absurd h5 (by decide)
  rename_i off hoff
  obtain ⟨t2, ht2, h5⟩ := zjmp_ok h5
  refine lv_tableIn hx hb hdg c1 c2 (by rw [← hoff]; simp) ht2 (zgo1_ok hk h5 hG ((hA.stack hr).narrow (zprop_ok (zcond_ok (r := .eq) (b := (0, 0, lo + ((ya.toInt - lo).toNat : Int))) hA.1 ga1 g0 ?_) hA.2.2.2.2.2)))
  simp only [zrel]
  omega
end ZI
