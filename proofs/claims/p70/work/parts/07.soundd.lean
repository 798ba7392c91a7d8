/-! ### fields, calls, ends -/
theorem zfld_some {KS : List zk} {kd f : Nat} {t : zt} (h : zfld KS kd f = some t) : ∃ d : Nat × List zt, KS[kd]? = some (.inr d) ∧ d.2[f]? = some t := by
  unfold zfld at h
  split at h
  · rename_i d hd; exact ⟨d, hd, h⟩
  · cases h
theorem zcut1_mem {me : zmem} {kd f : Nat} {q : Nat × Nat × zv} (h : q ∈ zcut1 me kd f) : q ∈ me ∧ ¬ (q.1 = kd ∧ q.2.1 = f) := by
  unfold zcut1 at h
  rw [List.mem_filter] at h
  refine ⟨h.1, fun e => ?_⟩
  have := h.2
  rw [e.1, e.2] at this
  simp at this
theorem zok_num {ks ad : List Nat} {t : zt} {w : Value} (h : zok ks ad t w) (ht : t.1 < 2) : t.2.1 ≤ znum w ∧ znum w ≤ t.2.2 := by
  obtain ⟨tg, b⟩ := t
  match tg, ht, h with
  | 0, _, ⟨x, h1, h2⟩ => rw [h1]; exact h2
  | 1, _, ⟨x, h1, h2⟩ => rw [h1]; exact h2
theorem zden_of {ks ad : List Nat} {rho : List Int} {t : zt} {v : zv} {w : Value} {r : Int} (h : zok ks ad t w) (hv : v.1 = t.1) (hn : t.1 < 2 → rho[v.2.1]? = some r ∧ znum w = r + v.2.2) : zden ks ad rho v w := by
  obtain ⟨tg, b⟩ := t
  obtain ⟨vt, vi, vo⟩ := v
  dsimp only at hv hn
  subst hv
  match vt, hn, h with
  | 0, hn, ⟨x, h1, h2⟩ => obtain ⟨n1, n2⟩ := hn (by decide); rw [h1] at n2; exact ⟨x, r, h1, n1, n2⟩
  | 1, hn, ⟨x, h1, h2⟩ => obtain ⟨n1, n2⟩ := hn (by decide); rw [h1] at n2; exact ⟨x, r, h1, n1, n2⟩
  | k + 2, _, h => exact h
theorem zden_num {ks ad : List Nat} {rho : List Int} {v : zv} {w : Value} (h : zden ks ad rho v w) (hv : v.1 < 2) : ∃ r, rho[v.2.1]? = some r ∧ znum w = r + v.2.2 := by
  obtain ⟨vt, vi, vo⟩ := v
  match vt, hv, h with
  | 0, _, ⟨x, r, h1, h2, h3⟩ => exact ⟨r, h2, by rw [h1]; exact h3⟩
  | 1, _, ⟨x, r, h1, h2, h3⟩ => exact ⟨r, h2, by rw [h1]; exact h3⟩
theorem zfitT_ok {ks ad : List Nat} {rho : List Int} {en : zenv} {v : zv} {w : Value} {t : zt} (hi : zin rho en) (hd : zden ks ad rho v w) (h : zfitT en v t = true) : zok ks ad t w := by
  unfold zfitT at h
  rw [Bool.and_eq_true, beq_iff_eq] at h
  obtain ⟨h1, h2⟩ := h
  obtain ⟨tg, b⟩ := t
  obtain ⟨vt, vi, vo⟩ := v
  dsimp only at h1 h2
  subst h1
  match vt, hd, h2 with
  | 0, ⟨x, r, e1, e2, e3⟩, h2 =>
    have := zr_ok (v := (0, vi, vo)) hi e2
    simp [zsubI] at h2
    exact ⟨x, e1, by dsimp only at this e3 ⊢; omega, by dsimp only at this e3 ⊢; omega⟩
  | 1, ⟨x, r, e1, e2, e3⟩, h2 =>
    have := zr_ok (v := (1, vi, vo)) hi e2
    simp [zsubI] at h2
    exact ⟨x, e1, by dsimp only at this e3 ⊢; omega, by dsimp only at this e3 ⊢; omega⟩
  | k + 2, hd, _ => exact hd
theorem zF2_set {α β : Type} {r : α → β → Prop} : ∀ {a : List α} {b : List β} {i : Nat} {u : α} {v : β}, zF2 r a b → a[i]? = some u → r u v → zF2 r a (b.set i v)
  | _ :: _, _ :: _, 0, _, _, h, hi, hv => by cases hi; exact ⟨hv, h.2⟩
  | _ :: as, _ :: bs, i + 1, _, _, h, hi, hv => ⟨h.1, zF2_set (a := as) (b := bs) h.2 hi hv⟩
  | [], _, _, _, _, _, hi, _ => by simp at hi
  | _ :: _, [], _, _, _, h, _, _ => h.elim
section ZF
variable {p : Program} {l : Launch} {e : Env} {R : Room} {s : State} {m : MethodId} {args : Array Value} {below : List Frame} {meth : Method} {c : Code} {cells slots : Nat} {Q : State → Prop}
variable {D : va_G} {cl : List vw_C} {A : Nat → Prop} {tys : List (ClassId × FieldType)} {KS : List zk} {uq NS : List Nat} {RC : String} {Psi : va_W → Prop} {wq : List (Nat × Nat)} {ws0 : va_W}
variable {cc : ByteArray} {pc : Nat} {ks ad : List Nat} {nL : Nat} {rs : List Int} {k : zK} {x : zs}
def zGetP (p : Program) (l : Launch) (e : Env) (R : Room) (s : State) (m : MethodId) (args : Array Value) (below : List Frame) (meth : Method) (c : Code) (cells slots : Nat) (Q : State → Prop) (cc : ByteArray) (D : va_G) (cl : List vw_C) (KS : List zk) (q : Nat × Nat × Nat) : Prop :=
  ∀ (d : Nat × List zt), KS[q.2.1]? = some (.inr d) → q.2.2 < d.2.length → ∀ (pc : Nat) (ls : Array Slot) (rest : List Value) (H : Heap) (locs : List Loc) (ws : va_W) (a i : Nat) (fs : List Value) (v : Value), va_P D cl ws H → ws[i]? = some (a, .inr (d.1, fs)) → fs[q.2.2]? = some v → decode cc pc = .ok (.getfield q.1, 3) → W p l e R s m args below meth c H locs cells slots Q (F0 m (pc + 3) ls (v :: rest)) → W p l e R s m args below meth c H locs cells slots Q (F0 m pc ls (.ref a :: rest))
def zPutP (p : Program) (l : Launch) (e : Env) (R : Room) (s : State) (m : MethodId) (args : Array Value) (below : List Frame) (meth : Method) (c : Code) (cells slots : Nat) (Q : State → Prop) (cc : ByteArray) (D : va_G) (cl : List vw_C) (A : Nat → Prop) (ks ad : List Nat) (KS : List zk) (q : Nat × Nat × Nat) : Prop :=
  ∀ (d : Nat × List zt) (t : zt), KS[q.2.1]? = some (.inr d) → d.2[q.2.2]? = some t → ∀ (pc : Nat) (ls : Array Slot) (rest : List Value) (H : Heap) (locs : List Loc) (ws : va_W) (a i : Nat) (fs : List Value) (v : Value), va_P D cl ws H → va_D A ws → va_S A s.heap H locs → ws[i]? = some (a, .inr (d.1, fs)) → fs.length = d.2.length → zok ks ad t v → decode cc pc = .ok (.putfield q.1, 3) →
  (∀ (H1 : Heap) (locs1 : List Loc), va_P D cl (ws.set i (a, .inr (d.1, fs.set q.2.2 v))) H1 → va_D A (ws.set i (a, .inr (d.1, fs.set q.2.2 v))) → va_S A s.heap H1 locs1 → W p l e R s m args below meth c H1 locs1 cells slots Q (F0 m (pc + 3) ls rest)) → W p l e R s m args below meth c H locs cells slots Q (F0 m pc ls (v :: .ref a :: rest))
def zLdcP (p : Program) (l : Launch) (e : Env) (R : Room) (s : State) (m : MethodId) (args : Array Value) (below : List Frame) (meth : Method) (c : Code) (cells slots : Nat) (Q : State → Prop) (cc : ByteArray) (q : Nat × Int) : Prop := ∃ v : Int32, v.toInt = q.2 ∧ ∀ (pc : Nat) (ls : Array Slot) (rest : List Value) (H : Heap) (locs : List Loc),
  (decode cc pc = .ok (.ldc q.1, 2) → W p l e R s m args below meth c H locs cells slots Q (F0 m (pc + 2) ls (.int v :: rest)) → W p l e R s m args below meth c H locs cells slots Q (F0 m pc ls rest)) ∧ (decode cc pc = .ok (.ldc_w q.1, 3) → W p l e R s m args below meth c H locs cells slots Q (F0 m (pc + 3) ls (.int v :: rest)) → W p l e R s m args below meth c H locs cells slots Q (F0 m pc ls rest))
def zLdLP (p : Program) (l : Launch) (e : Env) (R : Room) (s : State) (m : MethodId) (args : Array Value) (below : List Frame) (meth : Method) (c : Code) (cells slots : Nat) (Q : State → Prop) (cc : ByteArray) (q : Nat × Int) : Prop := ∃ v : Int64, v.toInt = q.2 ∧ ∀ (pc : Nat) (ls : Array Slot) (rest : List Value) (H : Heap) (locs : List Loc),
  decode cc pc = .ok (.ldc2_w q.1, 3) → W p l e R s m args below meth c H locs cells slots Q (F0 m (pc + 3) ls (.long v :: rest)) → W p l e R s m args below meth c H locs cells slots Q (F0 m pc ls rest)
def zinv (kd idx : Nat) : ClassFile.Instr := match kd with
  | 0 => .invokevirtual idx
  | 1 => .invokestatic idx
  | _ => .invokespecial idx
def zCallP (p : Program) (l : Launch) (e : Env) (R : Room) (s : State) (m : MethodId) (args : Array Value) (below : List Frame) (meth : Method) (c : Code) (cells slots : Nat) (Q : State → Prop) (cc : ByteArray) (D : va_G) (cl : List vw_C) (A : Nat → Prop) (tys : List (ClassId × FieldType)) (KS : List zk) (ks ad : List Nat) (RC : String) (Psi : va_W → Prop) (nL : Nat) (q : Nat × Nat × zcon) : Prop :=
  ∀ (pc : Nat) (ls : Array Slot) (rest : List Value) (H : Heap) (locs : List Loc) (ws : va_W) (As : List Value), va_P D cl ws H → va_D A ws → va_S A s.heap H locs → zconf KS ks ad RC tys ws → Psi ws → zF2 (zok ks ad) q.2.2.1 As → (rest.map fun v => v.category).sum ≤ 8 → ls.size = nL → zfs (0 :: As.map znum ++ q.2.2.2.2.1.map (fun z => zfv ks ws z.1 z.2)) q.2.2.2.2.2.2.2.2 → decode cc pc = .ok (zinv q.1 q.2.1, 3) →
  (∀ (H1 : Heap) (locs1 : List Loc) (ws1 : va_W) (r : List Value), va_P D cl ws1 H1 → va_D A ws1 → va_S A s.heap H1 locs1 → zconf KS ks ad RC tys ws1 → Psi ws1 → zkeep ks q.2.2.2.2.2.2.2.1 ws ws1 → zpost ks ad q.2.2 As ws ws1 r → W p l e R s m args below meth c H1 locs1 cells slots Q (F0 m (pc + 3) ls (r ++ rest))) → W p l e R s m args below meth c H locs cells slots Q (F0 m pc ls (As.reverse ++ rest))
def zrins : Nat → ClassFile.Instr
  | 0 => .ireturn
  | 1 => .lreturn
  | 2 => .areturn
  | _ => .return_
def zRetP (p : Program) (l : Launch) (e : Env) (R : Room) (s : State) (m : MethodId) (args : Array Value) (below : List Frame) (meth : Method) (c : Code) (cells slots : Nat) (Q : State → Prop) (cc : ByteArray) (G : va_W → Heap → List Loc → Prop) (ks ad : List Nat) (con : zcon) (As0 : List Value) (ws0 : va_W) : Prop :=
  ∀ (pc : Nat) (ls : Array Slot) (H : Heap) (locs : List Loc) (ws : va_W) (r : List Value), G ws H locs → zpost ks ad con As0 ws0 ws r → decode cc pc = .ok (zrins (zrt con.2.1), 1) → W p l e R s m args below meth c H locs cells slots Q (F0 m pc ls r)
def zLdSP (p : Program) (l : Launch) (e : Env) (R : Room) (s : State) (m : MethodId) (args : Array Value) (below : List Frame) (meth : Method) (c : Code) (cells slots : Nat) (Q : State → Prop) (cc : ByteArray) (A : Nat → Prop) (ks ad : List Nat) (q : Nat × Nat) : Prop := ∃ a i : Nat, ks[i]? = some q.2 ∧ ad[i]? = some a ∧ ∀ (pc : Nat) (ls : Array Slot) (rest : List Value) (H : Heap) (locs : List Loc), va_S A s.heap H locs →
  (q.2 = 54 → decode cc pc = .ok (.ldc q.1, 2) → W p l e R s m args below meth c H locs cells slots Q (F0 m (pc + 2) ls (.ref a :: rest)) → W p l e R s m args below meth c H locs cells slots Q (F0 m pc ls rest)) ∧ (q.2 ≠ 54 → decode cc pc = .ok (.getstatic q.1, 3) → W p l e R s m args below meth c H locs cells slots Q (F0 m (pc + 3) ls (.ref a :: rest)) → W p l e R s m args below meth c H locs cells slots Q (F0 m pc ls rest))
theorem zi_ldc (hk : ∀ pc x, k pc x = true → zW p l e R s m args below meth c cells slots Q (zHp D cl A s.heap tys KS ks ad RC Psi wq ws0) ks ad nL rs pc x) {k1 : List (Nat × Int)} {k3 : List (Nat × Nat)} (hc : ∀ q ∈ k1, zLdcP p l e R s m args below meth c cells slots Q cc q) (hs : ∀ q ∈ k3, zLdSP p l e R s m args below meth c cells slots Q cc A ks ad q) {i : Nat} (hdg : decode cc pc = .ok (.ldc i, 2)) (h : zLdc k1 k3 k (pc + 2) i x = true) : zW p l e R s m args below meth c cells slots Q (zHp D cl A s.heap tys KS ks ad RC Psi wq ws0) ks ad nL rs pc x := by
  intro rho ws H locs ls sv hG hA
  unfold zLdc at h
  split at h
  · rename_i q hq
    obtain ⟨v, hv, hw⟩ := hc q (List.mem_of_find?_eq_some hq)
    have e1 : q.1 = i := by simpa using List.find?_some hq
    rw [← e1] at hdg
    exact (hw pc ls sv H locs).1 hdg (hk _ _ h rho ws H locs ls _ hG (hA.stack ⟨⟨v, 0, rfl, hA.1.2.1, by rw [hv]; exact (Int.zero_add _).symm⟩, hA.2.2.2.1⟩))
  · split at h
    case h_2 => exact absurd h (by decide)
    rename_i q hq
    obtain ⟨a, j, h1, h2, hw⟩ := hs q (List.mem_of_find?_eq_some hq)
    have e1 : q.1 = i := by simpa using List.find?_some hq
    rw [← e1] at hdg
    rw [Bool.and_eq_true, beq_iff_eq] at h
    exact (hw pc ls sv H locs hG.2.2.1).1 h.1 hdg (hk _ _ h.2 rho ws H locs ls _ hG (hA.stack ⟨⟨a, j, rfl, h1, h2⟩, hA.2.2.2.1⟩))
theorem zi_ldc_w (hk : ∀ pc x, k pc x = true → zW p l e R s m args below meth c cells slots Q (zHp D cl A s.heap tys KS ks ad RC Psi wq ws0) ks ad nL rs pc x) {k1 : List (Nat × Int)} (hc : ∀ q ∈ k1, zLdcP p l e R s m args below meth c cells slots Q cc q) {i : Nat} (hdg : decode cc pc = .ok (.ldc_w i, 3)) (h : zLdc k1 [] k (pc + 3) i x = true) : zW p l e R s m args below meth c cells slots Q (zHp D cl A s.heap tys KS ks ad RC Psi wq ws0) ks ad nL rs pc x := by
  intro rho ws H locs ls sv hG hA
  unfold zLdc at h
  split at h
  · rename_i q hq
    obtain ⟨v, hv, hw⟩ := hc q (List.mem_of_find?_eq_some hq)
    have e1 : q.1 = i := by simpa using List.find?_some hq
    rw [← e1] at hdg
    exact (hw pc ls sv H locs).2 hdg (hk _ _ h rho ws H locs ls _ hG (hA.stack ⟨⟨v, 0, rfl, hA.1.2.1, by rw [hv]; exact (Int.zero_add _).symm⟩, hA.2.2.2.1⟩))
  · split at h
    case h_2 => exact absurd h (by decide)
    rename_i q hq
    cases hq
theorem zi_getstatic (hk : ∀ pc x, k pc x = true → zW p l e R s m args below meth c cells slots Q (zHp D cl A s.heap tys KS ks ad RC Psi wq ws0) ks ad nL rs pc x) {k3 : List (Nat × Nat)} (hs : ∀ q ∈ k3, zLdSP p l e R s m args below meth c cells slots Q cc A ks ad q) {i : Nat} (hdg : decode cc pc = .ok (.getstatic i, 3)) (h : zGetS k3 k (pc + 3) i x = true) : zW p l e R s m args below meth c cells slots Q (zHp D cl A s.heap tys KS ks ad RC Psi wq ws0) ks ad nL rs pc x := by
  intro rho ws H locs ls sv hG hA
  unfold zGetS at h
  split at h
  case h_2 => exact absurd h (by decide)
  rename_i q hq
  obtain ⟨a, j, h1, h2, hw⟩ := hs q (List.mem_of_find?_eq_some hq)
  have e1 : q.1 = i := by simpa using List.find?_some hq
  rw [← e1] at hdg
  rw [Bool.and_eq_true] at h
  exact (hw pc ls sv H locs hG.2.2.1).2 (by simpa using h.1) hdg (hk _ _ h.2 rho ws H locs ls _ hG (hA.stack ⟨⟨a, j, rfl, h1, h2⟩, hA.2.2.2.1⟩))
theorem zi_ldc2_w (hk : ∀ pc x, k pc x = true → zW p l e R s m args below meth c cells slots Q (zHp D cl A s.heap tys KS ks ad RC Psi wq ws0) ks ad nL rs pc x) {cs : List (Nat × Int)} (hc : ∀ q ∈ cs, zLdLP p l e R s m args below meth c cells slots Q cc q) {i : Nat} (hdg : decode cc pc = .ok (.ldc2_w i, 3)) (h : (match cs.find? (fun q => q.1 == i) with
    | some q => zpush k (pc + 3) (1, 0, q.2) x x.2.2.1
    | none => false) = true) : zW p l e R s m args below meth c cells slots Q (zHp D cl A s.heap tys KS ks ad RC Psi wq ws0) ks ad nL rs pc x := by
  intro rho ws H locs ls sv hG hA
  split at h
  case h_2 => exact absurd h (by decide)
  rename_i q hq
  obtain ⟨v, hv, hw⟩ := hc q (List.mem_of_find?_eq_some hq)
  have e1 : q.1 = i := by simpa using List.find?_some hq
  rw [← e1] at hdg
  exact (hw pc ls sv H locs) hdg (hk _ _ h rho ws H locs ls _ hG (hA.stack ⟨⟨v, 0, rfl, hA.1.2.1, by rw [hv]; exact (Int.zero_add _).symm⟩, hA.2.2.2.1⟩))
theorem zHp.obj {ws : va_W} {H : Heap} {locs : List Loc} {rho : List Int} {v : zv} {w : Value} {kd f : Nat} {t : zt} (hG : zHp D cl A s.heap tys KS ks ad RC Psi wq ws0 ws H locs) (hd : zden ks ad rho v w) (hv : v.1 = kd + 2) (hf : zfld KS kd f = some t) : ∃ (a i : Nat) (d : Nat × List zt) (fs : List Value) (u : Value), w = .ref a ∧ ks[i]? = some kd ∧ KS[kd]? = some (.inr d) ∧ d.2[f]? = some t ∧ ws[i]? = some (a, .inr (d.1, fs)) ∧ zF2 (zok ks ad) d.2 fs ∧ fs[f]? = some u ∧ zok ks ad t u := by
  obtain ⟨d, hK, hdf⟩ := zfld_some hf
  obtain ⟨a, i, rfl, h3, h4⟩ := zden_ref hd (by omega)
  have e9 : v.1 - 2 = kd := by omega
  rw [e9] at h3
  obtain ⟨e, h5, h7⟩ := zconf_at hG.2.2.2.1 h3 h4 hK
  match e, h7 with
  | .inr (ci, fs), ⟨e1, e2⟩ =>
    dsimp only at e1 e2
    subst e1
    obtain ⟨u, hu, hk⟩ := zF2_get e2 hdf
    exact ⟨a, i, d, fs, u, rfl, h3, hK, hdf, h5, e2, hu, hk⟩
  | .inl _, h7 => exact h7.elim
theorem zi_getfield (hk : ∀ pc x, k pc x = true → zW p l e R s m args below meth c cells slots Q (zHp D cl A s.heap tys KS ks ad RC Psi wq ws0) ks ad nL rs pc x) (hU : ∀ k ∈ uq, ∀ i j : Nat, ks[i]? = some k → ks[j]? = some k → i = j) {fl : List (Nat × Nat × Nat)} (hget : ∀ q ∈ fl, zGetP p l e R s m args below meth c cells slots Q cc D cl KS q) {i : Nat} (hdg : decode cc pc = .ok (.getfield i, 3)) (h : zGet KS uq fl k (pc + 3) i x = true) : zW p l e R s m args below meth c cells slots Q (zHp D cl A s.heap tys KS ks ad RC Psi wq ws0) ks ad nL rs pc x := by
  intro rho ws H locs ls sv hG hA
  obtain ⟨en, lo, st, me, fa⟩ := x
  unfold zGet at h
  split at h
  case h_2 => exact absurd h (by decide)
  rename_i o st' he
  dsimp only at he hA
  subst he
  obtain ⟨wo, vs, rfl, hdo, hr⟩ := zst1 hA.2.2.2.1
  split at h
  case h_2 => exact absurd h (by decide)
  rename_i q hq
  rw [Bool.and_eq_true, beq_iff_eq] at h
  obtain ⟨h1, h⟩ := h
  split at h
  case h_2 => exact absurd h (by decide)
  rename_i t ht
  obtain ⟨a, j, d, fs, u, rfl, g1, g2, g3, g4, g5, g6, g7⟩ := hG.obj hdo h1 ht
  have e1 : q.1 = i := by simpa using List.find?_some hq
  rw [← e1] at hdg
  refine hget q (List.mem_of_find?_eq_some hq) d g2 (List.getElem?_eq_some_iff.mp g3).1 pc ls vs H locs ws a j fs u hG.1 g4 g6 hdg ?_
  split at h
  · rename_i hb
    exact hk _ _ h rho ws H locs ls _ hG (hA.stack ⟨zden_of (r := 0) g7 rfl (fun h9 => absurd (Nat.le_of_ble_eq_true hb) (by omega)), hr⟩)
  rename_i hb
  have ht2 : t.1 < 2 := by
    have : ¬ 2 ≤ t.1 := fun h9 => hb (Nat.ble_eq_true_of_le h9)
    omega
  have hgr := (hA.stack hr).grow (b := t.2) (r := znum u) (zok_num g7 ht2).1 (zok_num g7 ht2).2
  have hnew : (rho ++ [znum u])[en.length]? = some (znum u) := by rw [← hA.1.1]; exact zg_new
  have hden : zden ks ad (rho ++ [znum u]) (t.1, en.length, 0) u := zden_of g7 rfl (fun _ => ⟨hnew, (Int.add_zero _).symm⟩)
  split at h
  · rename_i hu
    have hu : q.2.1 ∈ uq := by simpa using hu
    have hfv := zfv_at hU hu g1 g4 g6
    split at h
    · rename_i v hv
      rw [Bool.and_eq_true, beq_iff_eq] at h
      obtain ⟨r, r1, r2⟩ := hA.2.2.2.2.1 _ (zlook_some hv)
      dsimp only at r1 r2
      rw [hfv] at r2
      exact hk _ _ h.2 rho ws H locs ls _ hG (hA.stack ⟨zden_of g7 h.1 (fun _ => ⟨r1, r2⟩), hr⟩)
    · refine hk _ _ h (rho ++ [znum u]) ws H locs ls _ hG ⟨hgr.1, hgr.2.1, hgr.2.2.1, ⟨hden, hgr.2.2.2.1⟩, fun z hz => ?_, hgr.2.2.2.2.2⟩
      rcases List.mem_cons.mp hz with rfl | hz
      · exact ⟨znum u, hnew, by rw [hfv]; exact (Int.add_zero _).symm⟩
      · exact hgr.2.2.2.2.1 z hz
  · exact hk _ _ h (rho ++ [znum u]) ws H locs ls _ hG ⟨hgr.1, hgr.2.1, hgr.2.2.1, ⟨hden, hgr.2.2.2.1⟩, hgr.2.2.2.2⟩
theorem zput_refs {ts : List zt} {fs : List Value} {f kd : Nat} {t : zt} {wv : Value} (g5 : zF2 (zok ks ad) ts fs) (g3 : ts[f]? = some t) (hrf : (Nat.blt t.1 2 || kd == 5) = true) : kd = 5 ∨ ∀ j a : Nat, fs[j]? = some (.ref a) → (fs.set f wv)[j]? = some (.ref a) := by
  rw [Bool.or_eq_true, beq_iff_eq] at hrf
  rcases hrf with h | h
  · refine Or.inr (fun j a hj => ?_)
    by_cases e : f = j
    · subst e
      obtain ⟨w, hw, hz⟩ := zF2_get g5 g3
      rw [hw] at hj
      cases hj
      have h2 : t.1 < 2 := Nat.lt_of_succ_le (Nat.le_of_ble_eq_true h)
      obtain ⟨tg, b⟩ := t
      match tg, h2, hz with
      | 0, _, ⟨x, hx, _⟩ => cases hx
      | 1, _, ⟨x, hx, _⟩ => cases hx
    · rw [List.getElem?_set_ne e]; exact hj
  · exact Or.inl h
theorem zi_putfield (hk : ∀ pc x, k pc x = true → zW p l e R s m args below meth c cells slots Q (zHp D cl A s.heap tys KS ks ad RC Psi wq ws0) ks ad nL rs pc x) (hU : ∀ k ∈ uq, ∀ i j : Nat, ks[i]? = some k → ks[j]? = some k → i = j) (hPs : ∀ (ws : va_W) (i k a : Nat) (e e' : va_E), ks[i]? = some k → NS.contains k = false → zsim k e e' → ws[i]? = some (a, e) → Psi ws → Psi (ws.set i (a, e'))) {fl wr : List (Nat × Nat × Nat)} (hput : ∀ q ∈ wr, zPutP p l e R s m args below meth c cells slots Q cc D cl A ks ad KS q) {i : Nat} (hdg : decode cc pc = .ok (.putfield i, 3)) (h : zPut KS uq NS fl wr wq k (pc + 3) i x = true) : zW p l e R s m args below meth c cells slots Q (zHp D cl A s.heap tys KS ks ad RC Psi wq ws0) ks ad nL rs pc x := by
  intro rho ws H locs ls sv hG hA
  obtain ⟨en, lo, st, me, fa⟩ := x
  unfold zPut at h
  split at h
  case h_2 => exact absurd h (by decide)
  rename_i v o st' he
  dsimp only at he hA
  subst he
  obtain ⟨wv, vs1, rfl, hdv, hr1⟩ := zst1 hA.2.2.2.1
  obtain ⟨wo, vs, rfl, hdo, hr⟩ := zst1 hr1
  split at h
  case h_2 => exact absurd h (by decide)
  rename_i q hq
  rw [Bool.and_eq_true, Bool.and_eq_true, Bool.and_eq_true, Bool.and_eq_true, beq_iff_eq] at h
  obtain ⟨h1, hns, hwr, hwq, h⟩ := h
  have hns : NS.contains q.2.1 = false := by simpa using hns
  have hwr : q ∈ wr := by simpa using hwr
  have hwq : q.2 ∈ wq := by simpa using hwq
  split at h
  case h_2 => exact absurd h (by decide)
  rename_i t ht
  rw [Bool.and_eq_true, Bool.and_eq_true] at h
  obtain ⟨hrf, hf, h⟩ := h
  have hvk := zfitT_ok hA.1 hdv hf
  obtain ⟨a, j, d, fs, u, rfl, g1, g2, g3, g4, g5, g6, g7⟩ := hG.obj hdo h1 ht
  have e1 : q.1 = i := by simpa using List.find?_some hq
  rw [← e1] at hdg
  refine hput q hwr d t g2 g3 pc ls vs H locs ws a j fs wv hG.1 hG.2.1 hG.2.2.1 g4 (zF2_len g5).symm hvk hdg (fun H1 locs1 b1 b2 b3 => ?_)
  have hH : zHp D cl A s.heap tys KS ks ad RC Psi wq ws0 (ws.set j (a, .inr (d.1, fs.set q.2.2 wv))) H1 locs1 := by
    refine ⟨b1, b2, b3, zconf_set hG.2.2.2.1 g1 g4 g2 ⟨rfl, zF2_set g5 g3 hvk⟩, hPs ws j _ a (.inr (d.1, fs)) (.inr (d.1, fs.set q.2.2 wv)) g1 hns ⟨rfl, List.length_set, zput_refs g5 g3 hrf⟩ g4 hG.2.2.2.2.1, fun k' f' hf' => ?_⟩
    rw [zfv_obj g4 g1 k' f' (fun e9 => hf' (by rw [e9.1, e9.2]; exact hwq))]
    exact hG.2.2.2.2.2 k' f' hf'
  have hM : zmh ks rho (ws.set j (a, .inr (d.1, fs.set q.2.2 wv))) (zcut1 me q.2.1 q.2.2) := by
    intro z hz
    obtain ⟨z1, z2⟩ := zcut1_mem hz
    rw [zfv_obj g4 g1 z.1 z.2.1 z2]
    exact hA.2.2.2.2.1 z z1
  split at h
  · rename_i hb
    rw [Bool.and_eq_true] at hb
    have hu : q.2.1 ∈ uq := by simpa using hb.2
    have ht2 : v.1 < 2 := by
      have h8 : v.1 = t.1 := by unfold zfitT at hf; rw [Bool.and_eq_true, beq_iff_eq] at hf; exact hf.1
      have : ¬ 2 ≤ t.1 := fun h9 => by rw [Nat.ble_eq_true_of_le h9] at hb; simp at hb
      omega
    obtain ⟨r, r1, r2⟩ := zden_num hdv ht2
    refine hk _ _ h rho _ H1 locs1 ls _ hH ⟨hA.1, hA.2.1, hA.2.2.1, hr, fun z hz => ?_, hA.2.2.2.2.2⟩
    rcases List.mem_cons.mp hz with rfl | hz
    · refine ⟨r, r1, ?_⟩
      rw [zfv_at hU hu g1 (List.getElem?_set_self (List.getElem?_eq_some_iff.mp g4).1) (List.getElem?_set_self (List.getElem?_eq_some_iff.mp g6).1)]
      exact r2
    · exact hM z hz
  · exact hk _ _ h rho _ H1 locs1 ls _ hH ⟨hA.1, hA.2.1, hA.2.2.1, hr, hM, hA.2.2.2.2.2⟩
end ZF
