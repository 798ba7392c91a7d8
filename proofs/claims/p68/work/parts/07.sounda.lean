/-! ### lists -/
theorem zF2_len {α β : Type} {r : α → β → Prop} : ∀ {a : List α} {b : List β}, zF2 r a b → a.length = b.length
  | [], [], _ => rfl
  | _ :: _, _ :: _, h => by simp only [List.length_cons]; rw [zF2_len h.2]
  | [], _ :: _, h => h.elim
  | _ :: _, [], h => h.elim
theorem zF2_mono {α β : Type} {r r' : α → β → Prop} (hr : ∀ a b, r a b → r' a b) : ∀ {a : List α} {b : List β}, zF2 r a b → zF2 r' a b
  | [], [], _ => trivial
  | _ :: _, _ :: _, h => ⟨hr _ _ h.1, zF2_mono hr h.2⟩
  | [], _ :: _, h => h.elim
  | _ :: _, [], h => h.elim
theorem zF2_app {α β : Type} {r : α → β → Prop} : ∀ {a : List α} {b : List β} {a' : List α} {b' : List β}, zF2 r a b → zF2 r a' b' → zF2 r (a ++ a') (b ++ b')
  | [], [], _, _, _, h => h
  | _ :: _, _ :: _, _, _, h, h' => ⟨h.1, zF2_app h.2 h'⟩
  | [], _ :: _, _, _, h, _ => h.elim
  | _ :: _, [], _, _, h, _ => h.elim
theorem zF2_get {α β : Type} {r : α → β → Prop} : ∀ {a : List α} {b : List β} {i : Nat} {u : α}, zF2 r a b → a[i]? = some u → ∃ v, b[i]? = some v ∧ r u v
  | u :: _, v :: _, 0, _, h, hi => ⟨v, rfl, by cases hi; exact h.1⟩
  | _ :: as, _ :: bs, i + 1, _, h, hi => zF2_get (a := as) (b := bs) h.2 hi
  | [], _, _, _, _, hi => by simp at hi
  | _ :: _, [], _, _, h, _ => h.elim
theorem zF2_get' {α β : Type} {r : α → β → Prop} : ∀ {a : List α} {b : List β} {i : Nat} {v : β}, zF2 r a b → b[i]? = some v → ∃ u, a[i]? = some u ∧ r u v
  | u :: _, v :: _, 0, _, h, hi => ⟨u, rfl, by cases hi; exact h.1⟩
  | _ :: as, _ :: bs, i + 1, _, h, hi => zF2_get' (a := as) (b := bs) h.2 hi
  | _, [], _, _, _, hi => by simp at hi
  | [], _ :: _, _, _, h, _ => h.elim
theorem zF2_find {α β : Type} {r : α → β → Prop} {pa : α → Bool} {pb : β → Bool} (hp : ∀ a b, r a b → pa a = pb b) : ∀ {a : List α} {b : List β} {u : α}, zF2 r a b → a.find? pa = some u → ∃ (v : β) (i : Nat), b[i]? = some v ∧ b.find? pb = some v ∧ r u v
  | [], _, _, _, hi => by simp at hi
  | x :: as, y :: bs, u, h, hi => by
    rw [List.find?_cons] at hi ⊢
    rw [← hp x y h.1]
    cases e : pa x with
    | true => rw [e] at hi; simp only [Option.some.injEq] at hi; subst hi; exact ⟨y, 0, rfl, rfl, h.1⟩
    | false =>
      rw [e] at hi
      obtain ⟨v, i, h1, h2, h3⟩ := zF2_find hp h.2 hi
      exact ⟨v, i + 1, h1, h2, h3⟩
  | _ :: _, [], _, h, _ => h.elim
theorem zF2_filter {α β : Type} {r : α → β → Prop} {pa : α → Bool} {pb : β → Bool} (hp : ∀ a b, r a b → pa a = pb b) : ∀ {a : List α} {b : List β}, zF2 r a b → zF2 r (a.filter pa) (b.filter pb)
  | [], [], _ => trivial
  | x :: as, y :: bs, h => by
    rw [List.filter_cons, List.filter_cons, ← hp x y h.1]
    cases e : pa x with
    | true => exact ⟨h.1, zF2_filter hp h.2⟩
    | false => exact zF2_filter hp h.2
  | [], _ :: _, h => h.elim
  | _ :: _, [], h => h.elim
theorem zF2_take {α β : Type} {r : α → β → Prop} : ∀ {n : Nat} {a : List α} {b : List β}, zF2 r a b → zF2 r (a.take n) (b.take n)
  | 0, _, _, _ => by simp [zF2]
  | n + 1, [], [], _ => by simp [zF2]
  | n + 1, _ :: _, _ :: _, h => ⟨h.1, zF2_take h.2⟩
  | _ + 1, [], _ :: _, h => h.elim
  | _ + 1, _ :: _, [], h => h.elim
theorem zF2_drop {α β : Type} {r : α → β → Prop} : ∀ {n : Nat} {a : List α} {b : List β}, zF2 r a b → zF2 r (a.drop n) (b.drop n)
  | 0, _, _, h => h
  | n + 1, [], [], _ => by simp [zF2]
  | n + 1, _ :: as, _ :: bs, h => zF2_drop (n := n) (a := as) (b := bs) h.2
  | _ + 1, [], _ :: _, h => h.elim
  | _ + 1, _ :: _, [], h => h.elim
theorem zF2_rev {α β : Type} {r : α → β → Prop} : ∀ {a : List α} {b : List β}, zF2 r a b → zF2 r a.reverse b.reverse
  | [], [], _ => trivial
  | _ :: _, _ :: _, h => by rw [List.reverse_cons, List.reverse_cons]; exact zF2_app (zF2_rev h.2) ⟨h.1, trivial⟩
  | [], _ :: _, h => h.elim
  | _ :: _, [], h => h.elim
theorem zg_app {rho r2 : List Int} {i : Nat} {r : Int} (h : rho[i]? = some r) : (rho ++ r2)[i]? = some r := by
  rw [List.getElem?_append_left (List.getElem?_eq_some_iff.mp h).1]; exact h
theorem zg_new {rho : List Int} {r : Int} : (rho ++ [r])[rho.length]? = some r := by simp
/-! ### numbers with their bounds -/
theorem zin_push {rho : List Int} {en : zenv} {r : Int} {b : Int × Int} (h : zin rho en) (h1 : b.1 ≤ r) (h2 : r ≤ b.2) : zin (rho ++ [r]) (en ++ [b]) := by
  obtain ⟨hl, h0, hi⟩ := h
  refine ⟨by simp [hl], zg_app h0, fun i r' q hr hq => ?_⟩
  by_cases hlt : i < rho.length
  · rw [List.getElem?_append_left hlt] at hr
    rw [List.getElem?_append_left (by omega)] at hq
    exact hi i r' q hr hq
  · have e1 : i = rho.length := by
      have := (List.getElem?_eq_some_iff.mp hr).1
      simp at this; omega
    subst e1
    rw [zg_new] at hr
    rw [hl] at hq
    simp at hq
    cases hr; subst hq
    exact ⟨h1, h2⟩
theorem zin_at {rho : List Int} {en : zenv} {i : Nat} {r : Int} (h : zin rho en) (hr : rho[i]? = some r) : ∃ q, en[i]? = some q ∧ q.1 ≤ r ∧ r ≤ q.2 := by
  have hlt := (List.getElem?_eq_some_iff.mp hr).1
  rw [h.1] at hlt
  exact ⟨en[i], List.getElem?_eq_getElem hlt, h.2.2 i r _ hr (List.getElem?_eq_getElem hlt)⟩
theorem zr_ok {rho : List Int} {en : zenv} {v : zv} {r : Int} (h : zin rho en) (hr : rho[v.2.1]? = some r) : (zr en v).1 ≤ r + v.2.2 ∧ r + v.2.2 ≤ (zr en v).2 := by
  obtain ⟨q, hq, h1, h2⟩ := zin_at h hr
  unfold zr
  rw [hq]
  dsimp only
  omega
theorem zin_set {rho : List Int} {en : zenv} {i : Nat} {b : Int × Int} (h : zin rho en) (hb : ∀ r, rho[i]? = some r → b.1 ≤ r ∧ r ≤ b.2) : zin rho (en.set i b) := by
  refine ⟨by rw [List.length_set]; exact h.1, h.2.1, fun j r q hr hq => ?_⟩
  by_cases e : i = j
  · subst e
    have hlt := (List.getElem?_eq_some_iff.mp hr).1
    rw [h.1] at hlt
    rw [List.getElem?_set_self hlt] at hq
    cases hq
    exact hb r hr
  · rw [List.getElem?_set_ne e] at hq
    exact h.2.2 j r q hr hq
theorem zdif_ok {rho : List Int} {en : zenv} {i j : Nat} {c a b : Int} (h : zin rho en) (ha : rho[i]? = some a) (hb : rho[j]? = some b) (hc : b + c ≤ a) : zin rho (zdif en i j c) := by
  obtain ⟨p, hp, p1, p2⟩ := zin_at h ha
  obtain ⟨q, hq, q1, q2⟩ := zin_at h hb
  unfold zdif
  rw [hp, hq]
  dsimp only
  refine zin_set (zin_set h (fun r hr => ?_)) (fun r hr => ?_)
  · rw [ha] at hr; cases hr
    simp only; omega
  · rw [hb] at hr; cases hr
    by_cases e : i = j
    · subst e
      rw [ha] at hb; cases hb
      rw [hp] at hq; cases hq
      simp only [BEq.rfl, if_true]
      omega
    · have : (i == j) = false := by simpa using e
      rw [this]
      simp only [Bool.false_eq_true, if_false]
      omega
theorem zbad_ok {rho : List Int} {en : zenv} (h : zin rho en) : zbad en = false := by
  unfold zbad
  rw [List.any_eq_false]
  intro q hq
  obtain ⟨i, hi⟩ := List.getElem?_of_mem hq
  have hlt := (List.getElem?_eq_some_iff.mp hi).1
  rw [← h.1] at hlt
  have := h.2.2 i _ q (List.getElem?_eq_getElem hlt) hi
  simp only [decide_eq_true_eq]
  omega
theorem zsure_ok {rho : List Int} {en : zenv} {q : Nat × Nat} (h : zin rho en) (hs : zsure en q = true) {r : Int} (hr : rho[q.1]? = some r) : zch q.2 r := by
  obtain ⟨b, hb, h1, h2⟩ := zin_at h hr
  obtain ⟨q1, kd⟩ := q
  unfold zsure at hs
  rw [hb] at hs
  dsimp only at hs ⊢
  rcases h6 : Nat.ble 6 kd with _ | _
  case true =>
    rw [h6] at hs
    simp only [decide_eq_true_eq] at hs
    have h7 := Nat.le_of_ble_eq_true h6
    obtain ⟨n, rfl⟩ : ∃ n, kd = n + 6 := ⟨kd - 6, by omega⟩
    show ((n + 6 : Nat) : Int) < r + 100
    omega
  rw [h6] at hs
  dsimp only at hs
  match kd, hs with
  | 0, hs => simp only [Bool.and_eq_true, decide_eq_true_eq] at hs; show r = 0; omega
  | 1, hs => simp only [Bool.or_eq_true, decide_eq_true_eq] at hs; show r ≠ 0; omega
  | 2, hs => simp only [decide_eq_true_eq] at hs; show r < 0; omega
  | 3, hs => simp only [decide_eq_true_eq] at hs; show 0 ≤ r; omega
  | 4, hs => simp only [decide_eq_true_eq] at hs; show 0 < r; omega
  | 5, hs => simp only [decide_eq_true_eq] at hs; show r ≤ 0; omega
  | n + 6, hs => exact absurd hs Bool.false_ne_true
theorem zprop_ok {rho : List Int} : ∀ {fa : List zfact} {en : zenv}, zin rho en → zfs rho fa → zin rho (zprop fa en)
  | [], _, h, _ => h
  | f :: fa, en, h, hf => by
    unfold zprop
    split
    · rename_i hs
      obtain ⟨a, b, ha, hb, hc⟩ := hf f List.mem_cons_self (fun q hq r hr => zsure_ok h (List.all_eq_true.mp hs q hq) hr)
      exact zprop_ok (fa := fa) (zdif_ok h ha hb hc) (fun g hg => hf g (List.mem_cons_of_mem _ hg))
    · exact zprop_ok (fa := fa) h (fun g hg => hf g (List.mem_cons_of_mem _ hg))
theorem zne_ok {rho : List Int} {en : zenv} {v : zv} {c r : Int} (h : zin rho en) (hr : rho[v.2.1]? = some r) (hc : r + v.2.2 ≠ c) : zin rho (zne en v c) := by
  obtain ⟨q, hq, h1, h2⟩ := zin_at h hr
  unfold zne
  rw [hq]
  dsimp only
  refine zin_set h (fun r' hr' => ?_)
  rw [hr] at hr'; cases hr'
  constructor
  · by_cases e : q.1 + v.2.2 == c
    · rw [if_pos e]; rw [beq_iff_eq] at e; omega
    · rw [if_neg e]; exact h1
  · by_cases e : q.2 + v.2.2 == c
    · rw [if_pos e]; rw [beq_iff_eq] at e; omega
    · rw [if_neg e]; exact h2
def zrel : ClassFile.Cond → Int → Int → Prop
  | .lt, a, b => a < b
  | .ge, a, b => b ≤ a
  | .gt, a, b => b < a
  | .le, a, b => a ≤ b
  | .eq, a, b => a = b
  | .ne, a, b => a ≠ b
theorem zcond_ok {rho : List Int} {en : zenv} {a b : zv} {ra rb : Int} {r : ClassFile.Cond} (h : zin rho en) (ha : rho[a.2.1]? = some ra) (hb : rho[b.2.1]? = some rb) (hr : zrel r (ra + a.2.2) (rb + b.2.2)) : zin rho (zcond r en a b) := by
  cases r with
  | lt => exact zdif_ok h hb ha (by simp only [zrel] at hr; omega)
  | ge => exact zdif_ok h ha hb (by simp only [zrel] at hr; omega)
  | gt => exact zdif_ok h ha hb (by simp only [zrel] at hr; omega)
  | le => exact zdif_ok h hb ha (by simp only [zrel] at hr; omega)
  | eq => exact zdif_ok (zdif_ok h ha hb (by simp only [zrel] at hr; omega)) hb ha (by simp only [zrel] at hr; omega)
  | ne =>
    simp only [zrel] at hr
    have hra := zr_ok h ha
    have hrb := zr_ok h hb
    unfold zcond
    refine zne_ok ?_ hb ?_
    · by_cases e : ((zr en b).1 == (zr en b).2) = true
      · rw [if_pos e]; rw [beq_iff_eq] at e; exact zne_ok h ha (by omega)
      · rw [if_neg e]; exact h
    · by_cases e : ((zr en a).1 == (zr en a).2) = true
      · rw [if_pos e]; rw [beq_iff_eq] at e; omega
      · rw [if_neg e]; omega
theorem zrel_not {r : ClassFile.Cond} {a b : Int} (h : ¬ zrel r a b) : zrel (znot r) a b := by
  cases r <;> simp only [zrel, znot] at h ⊢ <;> omega
/-! ### what stays when a number is new -/
theorem zden_app {ks ad : List Nat} {rho r2 : List Int} {v : zv} {w : Value} (h : zden ks ad rho v w) : zden ks ad (rho ++ r2) v w := by
  obtain ⟨t, i, o⟩ := v
  match t, h with
  | 0, ⟨x, r, h1, h2, h3⟩ => exact ⟨x, r, h1, zg_app h2, h3⟩
  | 1, ⟨x, r, h1, h2, h3⟩ => exact ⟨x, r, h1, zg_app h2, h3⟩
  | k + 2, h => exact h
theorem zmh_app {ks : List Nat} {rho r2 : List Int} {ws : va_W} {me : zmem} (h : zmh ks rho ws me) : zmh ks (rho ++ r2) ws me := by
  intro q hq
  obtain ⟨r, h1, h2⟩ := h q hq
  exact ⟨r, zg_app h1, h2⟩
theorem zfh_app {rho r2 : List Int} {f : zfact} (h : zfh rho f) : zfh (rho ++ r2) f := by
  intro hc
  obtain ⟨a, b, h1, h2, h3⟩ := h (fun q hq r hr => hc q hq r (zg_app hr))
  exact ⟨a, b, zg_app h1, zg_app h2, h3⟩
theorem zfs_app {rho r2 : List Int} {fa : List zfact} (h : zfs rho fa) : zfs (rho ++ r2) fa := fun f hf => zfh_app (h f hf)
def zpre (rs rho : List Int) : Prop := ∃ r2, rho = rs ++ r2
def zAb (ks ad : List Nat) (nL : Nat) (rs : List Int) (en : zenv) (lo : List (Nat × zv)) (st : List zv) (me : zmem) (fa : List zfact) (rho : List Int) (ws : va_W) (ls : Array Slot) (sv : List Value) : Prop :=
  zin rho en ∧ zpre rs rho ∧ (∃ lv : List (Nat × Value), lv_has ls nL lv ∧ zF2 (fun a b => a.1 = b.1 ∧ zden ks ad rho a.2 b.2) lo lv) ∧ zF2 (zden ks ad rho) st sv ∧ zmh ks rho ws me ∧ zfs rho fa
section AB
variable {ks ad : List Nat} {nL : Nat} {rs : List Int} {en : zenv} {lo : List (Nat × zv)} {st : List zv} {me : zmem} {fa : List zfact} {rho : List Int} {ws : va_W} {ls : Array Slot} {sv : List Value}
theorem zAb.grow (h : zAb ks ad nL rs en lo st me fa rho ws ls sv) {r : Int} {b : Int × Int} (h1 : b.1 ≤ r) (h2 : r ≤ b.2) : zAb ks ad nL rs (en ++ [b]) lo st me fa (rho ++ [r]) ws ls sv := by
  obtain ⟨a1, a2, ⟨lv, a3, a4⟩, a5, a6, a7⟩ := h
  exact ⟨zin_push a1 h1 h2, (by obtain ⟨r2, e⟩ := a2; exact ⟨r2 ++ [r], by rw [e, List.append_assoc]⟩), ⟨lv, a3, zF2_mono (fun _ _ q => ⟨q.1, zden_app q.2⟩) a4⟩, zF2_mono (fun _ _ q => zden_app q) a5, zmh_app a6, zfs_app a7⟩
theorem zAb.stack (h : zAb ks ad nL rs en lo st me fa rho ws ls sv) {st' : List zv} {sv' : List Value} (h1 : zF2 (zden ks ad rho) st' sv') : zAb ks ad nL rs en lo st' me fa rho ws ls sv' := ⟨h.1, h.2.1, h.2.2.1, h1, h.2.2.2.2⟩
theorem zAb.narrow (h : zAb ks ad nL rs en lo st me fa rho ws ls sv) {en' : zenv} (h1 : zin rho en') : zAb ks ad nL rs en' lo st me fa rho ws ls sv := ⟨h1, h.2⟩
theorem zAb.loc (h : zAb ks ad nL rs en lo st me fa rho ws ls sv) {i : Nat} {q : Nat × zv} (hq : lo.find? (fun q => q.1 == i) = some q) : ∃ (w : Value) (lv : List (Nat × Value)) (k : Nat), lv_has ls nL lv ∧ lv[k]? = some (i, w) ∧ ls[i]? = some (.val w) ∧ zden ks ad rho q.2 w := by
  obtain ⟨-, -, ⟨lv, hl, hf⟩, -⟩ := h
  obtain ⟨v, k, h1, -, h3, h4⟩ := zF2_find (pb := fun z => z.1 == i) (fun a b q => by rw [q.1]) hf hq
  have hi : q.1 = i := by simpa using List.find?_some hq
  have e : v = (i, v.2) := by rw [← hi, h3]
  rw [e] at h1
  exact ⟨v.2, lv, k, hl, h1, lv_at hl k h1, h4⟩
end AB
