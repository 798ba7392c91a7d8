def zm1 (KS : List zk) (uq NS : List Nat) (C : zC) (fuel : Nat) (T : zcut) : Bool :=
  decide (0 ≤ zlb T.2.2.2 T.2.1.1 + T.2.2.1) && Nat.ble T.2.2.2.length T.2.1.1.length && zchk KS uq NS C (some (T.2.2.1, T.2.2.2)) fuel T.1 T.2.1
def zm0 (KS : List zk) (uq NS : List Nat) (C : zC) (fuel : Nat) : Bool :=
  C.2.2.1.2.2.1.all (fun q => uq.contains q.1 && (match zfl2 KS q.1 q.2 with
    | some t => Nat.blt t.1 2
    | none => false)) && zchk KS uq NS C none fuel 0 (zinit KS C.2.2.1)
theorem zmeth_by {KS : List zk} {uq NS : List Nat} {C : zC} {fuel : Nat} (h0 : zm0 KS uq NS C fuel = true) (h1 : ∀ T ∈ C.2.2.2.2.2.2.1, zm1 KS uq NS C fuel T = true) : zmeth KS uq NS C fuel = true := by
  unfold zm0 at h0; unfold zmeth
  rw [Bool.and_eq_true] at h0 ⊢
  refine ⟨h0.1, ?_⟩
  rw [Bool.and_eq_true]
  refine ⟨List.all_eq_true.mpr h1, h0.2⟩
/-! a quicker twin of the checker: the same answers -/
def zleB : Int → Int → Bool
  | .ofNat m, .ofNat n => Nat.ble m n
  | .ofNat _, .negSucc _ => false
  | .negSucc _, .ofNat _ => true
  | .negSucc m, .negSucc n => Nat.ble n m
theorem zleB_iff (a b : Int) : zleB a b = true ↔ a ≤ b := by
  match a, b with
  | .ofNat m, .ofNat n => exact ⟨fun h => Int.ofNat_le.mpr (Nat.le_of_ble_eq_true h), fun h => Nat.ble_eq_true_of_le (Int.ofNat_le.mp h)⟩
  | .ofNat m, .negSucc n =>
    have e1 : Int.ofNat m = (m : Int) := rfl
    have e2 : Int.negSucc n = -((n : Int) + 1) := rfl
    refine ⟨fun h => ?_, fun h => ?_⟩
    · have h : false = true := h
      cases h
    · rw [e1, e2] at h
      omega
  | .negSucc m, .ofNat n =>
    have e1 : Int.ofNat n = (n : Int) := rfl
    have e2 : Int.negSucc m = -((m : Int) + 1) := rfl
    refine ⟨fun _ => ?_, fun _ => rfl⟩
    rw [e1, e2]
    omega
  | .negSucc m, .negSucc n =>
    have e1 : Int.negSucc n = -((n : Int) + 1) := rfl
    have e2 : Int.negSucc m = -((m : Int) + 1) := rfl
    refine ⟨fun h => ?_, fun h => ?_⟩
    · have h := Nat.le_of_ble_eq_true (show Nat.ble n m = true from h)
      rw [e1, e2]
      omega
    · rw [e1, e2] at h
      exact Nat.ble_eq_true_of_le (show n ≤ m by omega)
def zltB (a b : Int) : Bool := match zleB b a with
  | true => false
  | false => true
theorem zleBf : zleB = fun a b => decide (a ≤ b) := by
  funext a b
  show zleB a b = decide (a ≤ b)
  by_cases h : a ≤ b
  · rw [(zleB_iff a b).mpr h]
    exact (decide_eq_true h).symm
  · cases e : zleB a b with
    | true => exact absurd ((zleB_iff a b).mp e) h
    | false => exact (decide_eq_false h).symm
theorem zltBf : zltB = fun a b => decide (a < b) := by
  funext a b
  show (match zleB b a with | true => false | false => true) = decide (a < b)
  cases e : zleB b a with
  | true =>
    have h := (zleB_iff b a).mp e
    exact (decide_eq_false (show ¬ a < b by omega)).symm
  | false =>
    have h : ¬ b ≤ a := fun h => by rw [(zleB_iff b a).mpr h] at e; cases e
    exact (decide_eq_true (show a < b by omega)).symm
theorem zset_self {α : Type} : ∀ {l : List α} {i : Nat} {a : α}, l[i]? = some a → l.set i a = l
  | [], _, _, _ => rfl
  | x :: l, 0, a, h => by
    have h : some x = some a := h
    cases h
    rfl
  | x :: l, i + 1, a, h => by
    have h : l[i]? = some a := h
    show x :: l.set i a = x :: l
    rw [zset_self h]
noncomputable def zgetR {α : Type} (l : List α) : Nat → Option α := List.rec (motive := fun _ => Nat → Option α) (fun _ => none) (fun a _ ih i => Nat.rec (motive := fun _ => Option α) (some a) (fun n _ => ih n) i) l
theorem zgetR_eq {α : Type} (l : List α) : ∀ i : Nat, zgetR l i = l[i]? := by
  induction l with
  | nil => intro i; rfl
  | cons a l ih =>
    intro i
    cases i with
    | zero => rfl
    | succ n => exact ih n
theorem zgetRf {α : Type} : @zgetR α = fun l i => l[i]? := by
  funext l i
  exact zgetR_eq l i
noncomputable def zanyR {α : Type} (l : List α) (p : α → Bool) : Bool := List.rec (motive := fun _ => Bool) false (fun a _ ih => Bool.rec (motive := fun _ => Bool) ih true (p a)) l
theorem zanyR_eq {α : Type} (l : List α) (p : α → Bool) : zanyR l p = l.any p := by
  induction l with
  | nil => rfl
  | cons a l ih =>
    have h1 : zanyR (a :: l) p = Bool.rec (motive := fun _ => Bool) (zanyR l p) true (p a) := rfl
    have h2 : (a :: l).any p = (p a || l.any p) := rfl
    rw [h1, h2, ih]
    cases p a <;> rfl
theorem zanyRf {α : Type} : @zanyR α = fun l p => l.any p := by
  funext l p
  exact zanyR_eq l p
noncomputable def zallR {α : Type} (l : List α) (p : α → Bool) : Bool := List.rec (motive := fun _ => Bool) true (fun a _ ih => Bool.rec (motive := fun _ => Bool) false ih (p a)) l
theorem zallR_eq {α : Type} (l : List α) (p : α → Bool) : zallR l p = l.all p := by
  induction l with
  | nil => rfl
  | cons a l ih =>
    have h1 : zallR (a :: l) p = Bool.rec (motive := fun _ => Bool) false (zallR l p) (p a) := rfl
    have h2 : (a :: l).all p = (p a && l.all p) := rfl
    rw [h1, h2, ih]
    cases p a <;> rfl
theorem zallRf {α : Type} : @zallR α = fun l p => l.all p := by
  funext l p
  exact zallR_eq l p
noncomputable def zfindR {α : Type} (l : List α) (p : α → Bool) : Option α := List.rec (motive := fun _ => Option α) none (fun a _ ih => Bool.rec (motive := fun _ => Option α) ih (some a) (p a)) l
theorem zfindR_eq {α : Type} (l : List α) (p : α → Bool) : zfindR l p = l.find? p := by
  induction l with
  | nil => rfl
  | cons a l ih =>
    have h1 : zfindR (a :: l) p = Bool.rec (motive := fun _ => Option α) (zfindR l p) (some a) (p a) := rfl
    have h2 : (a :: l).find? p = (match p a with | true => some a | false => l.find? p) := rfl
    rw [h1, h2, ih]
    cases p a <;> rfl
theorem zfindRf {α : Type} : @zfindR α = fun l p => l.find? p := by
  funext l p
  exact zfindR_eq l p
noncomputable def zfiltR {α : Type} (l : List α) (p : α → Bool) : List α := List.rec (motive := fun _ => List α) [] (fun a _ ih => Bool.rec (motive := fun _ => List α) ih (a :: ih) (p a)) l
theorem zfiltR_eq {α : Type} (l : List α) (p : α → Bool) : zfiltR l p = l.filter p := by
  induction l with
  | nil => rfl
  | cons a l ih =>
    have h1 : zfiltR (a :: l) p = Bool.rec (motive := fun _ => List α) (zfiltR l p) (a :: zfiltR l p) (p a) := rfl
    have h2 : (a :: l).filter p = (match p a with | true => a :: l.filter p | false => l.filter p) := rfl
    rw [h1, h2, ih]
    cases p a <;> rfl
theorem zfiltRf {α : Type} : @zfiltR α = fun l p => l.filter p := by
  funext l p
  exact zfiltR_eq l p
noncomputable def zappR {α : Type} (l m : List α) : List α := List.rec (motive := fun _ => List α) m (fun a _ ih => a :: ih) l
theorem zappR_eq {α : Type} (l m : List α) : zappR l m = l ++ m := by
  induction l with
  | nil => rfl
  | cons a l ih => exact congrArg (List.cons a) ih
theorem zappRf {α : Type} : @zappR α = fun l m => l ++ m := by
  funext l m
  exact zappR_eq l m
noncomputable def zlenR {α : Type} (l : List α) : Nat := List.rec (motive := fun _ => Nat) 0 (fun _ _ ih => Nat.succ ih) l
theorem zlenR_eq {α : Type} (l : List α) : zlenR l = l.length := by
  induction l with
  | nil => rfl
  | cons a l ih => exact congrArg Nat.succ ih
theorem zlenRf {α : Type} : @zlenR α = fun l => l.length := by
  funext l
  exact zlenR_eq l
noncomputable def zmapR {α β : Type} (l : List α) (f : α → β) : List β := List.rec (motive := fun _ => List β) [] (fun a _ ih => f a :: ih) l
theorem zmapR_eq {α β : Type} (l : List α) (f : α → β) : zmapR l f = l.map f := by
  induction l with
  | nil => rfl
  | cons a l ih => exact congrArg (List.cons (f a)) ih
theorem zmapRf {α β : Type} : @zmapR α β = fun l f => l.map f := by
  funext l f
  exact zmapR_eq l f
/-! what is decoded, in a table -/
abbrev zDT : Type := List (Nat × List (Nat × ClassFile.Instr × Nat))
noncomputable def zlk1 (l : List (Nat × ClassFile.Instr × Nat)) (pc : Nat) : Option (ClassFile.Instr × Nat) := List.rec (motive := fun _ => Option (ClassFile.Instr × Nat)) none (fun e _ ih => Bool.rec (motive := fun _ => Option (ClassFile.Instr × Nat)) ih (some e.2) (Nat.beq e.1 pc)) l
theorem zlk1_mem {pc : Nat} {q : ClassFile.Instr × Nat} : ∀ {l : List (Nat × ClassFile.Instr × Nat)}, zlk1 l pc = some q → (pc, q) ∈ l
  | [], h => by
    have h : (none : Option (ClassFile.Instr × Nat)) = some q := h
    cases h
  | e :: l, h => by
    have h : Bool.rec (motive := fun _ => Option (ClassFile.Instr × Nat)) (zlk1 l pc) (some e.2) (Nat.beq e.1 pc) = some q := h
    cases hb : Nat.beq e.1 pc with
    | false =>
      rw [hb] at h
      exact List.mem_cons_of_mem _ (zlk1_mem h)
    | true =>
      rw [hb] at h
      have h : some e.2 = some q := h
      cases h
      have hp := Nat.eq_of_beq_eq_true hb
      subst hp
      exact List.mem_cons_self
noncomputable def zlk2 (T : zDT) (pc : Nat) : Option (ClassFile.Instr × Nat) := List.rec (motive := fun _ => Option (ClassFile.Instr × Nat)) none (fun c _ ih => Bool.rec (motive := fun _ => Option (ClassFile.Instr × Nat)) ih (zlk1 c.2 pc) (Nat.ble pc c.1)) T
theorem zlk2_mem {pc : Nat} {q : ClassFile.Instr × Nat} : ∀ {T : zDT}, zlk2 T pc = some q → ∃ c ∈ T, (pc, q) ∈ c.2
  | [], h => by
    have h : (none : Option (ClassFile.Instr × Nat)) = some q := h
    cases h
  | c :: T, h => by
    have h : Bool.rec (motive := fun _ => Option (ClassFile.Instr × Nat)) (zlk2 T pc) (zlk1 c.2 pc) (Nat.ble pc c.1) = some q := h
    cases hb : Nat.ble pc c.1 with
    | false =>
      rw [hb] at h
      obtain ⟨c1, h1, h2⟩ := zlk2_mem h
      exact ⟨c1, List.mem_cons_of_mem _ h1, h2⟩
    | true =>
      rw [hb] at h
      exact ⟨c, List.mem_cons_self, zlk1_mem h⟩
def zdtok (T : zDT) (cc : ByteArray) : Prop := ∀ c ∈ T, ∀ e ∈ c.2, decode cc e.1 = .ok e.2 ∧ (zlen e.2.1 == 0 || zlen e.2.1 == e.2.2) = true
theorem zdtok_of {T : zDT} {cc : ByteArray} (h : T.all (fun c => c.2.all (fun e => decide (decode cc e.1 = .ok e.2) && (zlen e.2.1 == 0 || zlen e.2.1 == e.2.2))) = true) : zdtok T cc := fun c hc e he => by
  have h1 := List.all_eq_true.mp (List.all_eq_true.mp h c hc) e he
  rw [Bool.and_eq_true] at h1
  exact ⟨of_decide_eq_true h1.1, h1.2⟩
theorem zdt0 (cc : ByteArray) : zdtok [] cc := fun _ h => absurd h List.not_mem_nil

noncomputable def zrF (en : zenv) (v : zv) : Int × Int := match zgetR en v.2.1 with
  | some q => (match v.2.2 with
    | .ofNat 0 => q
    | z => (q.1 + z, q.2 + z))
  | none => (1, 0)
theorem zrF_eq : zrF = zr := by
  funext en v
  have e1 : zrF en v = (match zgetR en v.2.1 with | some q => (match v.2.2 with | .ofNat 0 => q | z => (q.1 + z, q.2 + z)) | none => (1, 0)) := rfl
  have e2 : zr en v = (match en[v.2.1]? with | some q => (q.1 + v.2.2, q.2 + v.2.2) | none => (1, 0)) := rfl
  rw [e1, e2, zgetR_eq]
  cases en[v.2.1]? with
  | none => rfl
  | some q =>
    show (match v.2.2 with | .ofNat 0 => q | z => (q.1 + z, q.2 + z)) = (q.1 + v.2.2, q.2 + v.2.2)
    generalize v.2.2 = z
    match z with
    | .ofNat 0 =>
      show q = (q.1 + (0 : Int), q.2 + (0 : Int))
      rw [Int.add_zero, Int.add_zero]
    | .ofNat (n + 1) => rfl
    | .negSucc n => rfl
noncomputable def zfitsF (tg : Nat) (lo hi : Int) : Bool := zleB ((zbd tg).1) (lo) && zleB (hi) ((zbd tg).2)
set_option maxRecDepth 100000 in
theorem zfitsF_eq : zfitsF = zfits := by
  delta zfitsF
  rw [zleBf]
  first | done | rfl
noncomputable def zfitF (tg : Nat) (lo hi : Int) : Int × Int := if zfitsF tg lo hi then (lo, hi) else zbd tg
set_option maxRecDepth 100000 in
theorem zfitF_eq : zfitF = zfit := by
  delta zfitF
  rw [zfitsF_eq]
  first | done | rfl
noncomputable def zresF (k : zK) (pc tg : Nat) (b : Int × Int) (x : zs) (st : List zv) : Bool := k pc ((zappR (x.1) [b]), x.2.1, (tg, (zlenR (x.1)), 0) :: st, x.2.2.2)
set_option maxRecDepth 100000 in
theorem zresF_eq : zresF = zres := by
  delta zresF
  repeat rw [zappRf]
  repeat rw [zlenRf]
  first | done | rfl
noncomputable def zLoadF (k : zK) (pc tg i : Nat) (x : zs) : Bool := match (zfindR (x.2.1) (fun q => q.1 == i)) with
  | some q => ztg tg q.2 && zpush k pc q.2 x x.2.2.1
  | none => false
set_option maxRecDepth 100000 in
theorem zLoadF_eq : zLoadF = zLoad := by
  delta zLoadF
  repeat rw [zfindRf]
  first | done | rfl
noncomputable def zdropF (tg i : Nat) (lo : List (Nat × zv)) : List (Nat × zv) := match tg with
  | 1 => (zfiltR (lo) (fun q => !(q.1 == i) && (!(q.1 == i + 1) && !(q.1 + 1 == i && q.2.1 == 1))))
  | _ => (zfiltR (lo) (fun q => !(q.1 == i) && !(q.1 + 1 == i && q.2.1 == 1)))
set_option maxRecDepth 100000 in
theorem zdropF_eq : zdropF = zdrop := by
  delta zdropF
  repeat rw [zfiltRf]
  first | done | rfl
noncomputable def zStoreF (k : zK) (nL pc tg i : Nat) (x : zs) : Bool := match x.2.2.1 with
  | v :: st => ztg tg v && (Nat.ble (if tg == 1 then i + 2 else i + 1) nL && k pc (x.1, (i, v) :: zdropF tg i x.2.1, st, x.2.2.2))
  | [] => false
set_option maxRecDepth 100000 in
theorem zStoreF_eq : zStoreF = zStore := by
  delta zStoreF
  rw [zdropF_eq]
  first | done | rfl
noncomputable def zIncF (k : zK) (nL pc i : Nat) (n : Int) (x : zs) : Bool := match (zfindR (x.2.1) (fun q => q.1 == i)) with
  | some q => q.2.1 == 0 && (Nat.ble (i + 1) nL && (zfitsF 0 n n && (if zfitsF 0 ((zrF x.1 q.2).1 + n) ((zrF x.1 q.2).2 + n) then k pc (x.1, (i, (0, q.2.2.1, q.2.2.2 + n)) :: zdropF 0 i x.2.1, x.2.2) else k pc ((zappR (x.1) [zbd 0]), (i, (0, (zlenR (x.1)), 0)) :: zdropF 0 i x.2.1, x.2.2))))
  | none => false
set_option maxRecDepth 100000 in
theorem zIncF_eq : zIncF = zInc := by
  delta zIncF
  rw [zrF_eq, zfitsF_eq, zdropF_eq]
  repeat rw [zfindRf]
  repeat rw [zappRf]
  repeat rw [zlenRf]
  first | done | rfl
noncomputable def zAddF (k : zK) (pc tg : Nat) (x : zs) : Bool := match x.2.2.1 with
  | b :: a :: st => a.1 == tg && (b.1 == tg && (
    let lo := (zrF x.1 a).1 + (zrF x.1 b).1; let hi := (zrF x.1 a).2 + (zrF x.1 b).2
    if zfitsF tg lo hi && b.2.1 == 0 then zpush k pc (tg, a.2.1, a.2.2 + b.2.2) x st
    else if zfitsF tg lo hi && a.2.1 == 0 then zpush k pc (tg, b.2.1, b.2.2 + a.2.2) x st
    else zresF k pc tg (zfitF tg lo hi) x st))
  | _ => false
set_option maxRecDepth 100000 in
theorem zAddF_eq : zAddF = zAdd := by
  delta zAddF
  rw [zrF_eq, zfitsF_eq, zfitF_eq, zresF_eq]
  first | done | rfl
noncomputable def zSubF (k : zK) (pc tg : Nat) (x : zs) : Bool := match x.2.2.1 with
  | b :: a :: st => a.1 == tg && (b.1 == tg && (
    let lo := (zrF x.1 a).1 - (zrF x.1 b).2; let hi := (zrF x.1 a).2 - (zrF x.1 b).1
    if zfitsF tg lo hi && b.2.1 == 0 then zpush k pc (tg, a.2.1, a.2.2 - b.2.2) x st
    else zresF k pc tg (zfitF tg lo hi) x st))
  | _ => false
set_option maxRecDepth 100000 in
theorem zSubF_eq : zSubF = zSub := by
  delta zSubF
  rw [zrF_eq, zfitsF_eq, zfitF_eq, zresF_eq]
  first | done | rfl
noncomputable def zMulF (k : zK) (pc tg : Nat) (x : zs) : Bool := match x.2.2.1 with
  | b :: a :: st => a.1 == tg && (b.1 == tg && (
    let p := zrF x.1 a; let q := zrF x.1 b
    zresF k pc tg (zfitF tg (zmin4 (p.1 * q.1) (p.1 * q.2) (p.2 * q.1) (p.2 * q.2)) (zmax4 (p.1 * q.1) (p.1 * q.2) (p.2 * q.1) (p.2 * q.2))) x st))
  | _ => false
set_option maxRecDepth 100000 in
theorem zMulF_eq : zMulF = zMul := by
  delta zMulF
  rw [zrF_eq, zfitF_eq, zresF_eq]
  first | done | rfl
noncomputable def zAndF (k : zK) (pc : Nat) (x : zs) : Bool := match x.2.2.1 with
  | b :: a :: st => a.1 == 0 && (b.1 == 0 && (
    if zleB (0) ((zrF x.1 b).1) then zresF k pc 0 (0, (zrF x.1 b).2) x st
    else if zleB (0) ((zrF x.1 a).1) then zresF k pc 0 (0, (zrF x.1 a).2) x st
    else zresF k pc 0 (zbd 0) x st))
  | _ => false
set_option maxRecDepth 100000 in
theorem zAndF_eq : zAndF = zAnd := by
  delta zAndF
  rw [zleBf, zrF_eq, zresF_eq]
  first | done | rfl
noncomputable def zAny2F (k : zK) (pc tg tb : Nat) (x : zs) : Bool := match x.2.2.1 with
  | b :: a :: st => a.1 == tg && (b.1 == tb && zresF k pc tg (zbd tg) x st)
  | _ => false
set_option maxRecDepth 100000 in
theorem zAny2F_eq : zAny2F = zAny2 := by
  delta zAny2F
  rw [zresF_eq]
  first | done | rfl
noncomputable def zDivF (k : zK) (pc tg : Nat) (x : zs) : Bool := match x.2.2.1 with
  | b :: a :: st => a.1 == tg && (b.1 == tg && ((zltB (0) ((zrF x.1 b).1) || zltB ((zrF x.1 b).2) (0)) && zresF k pc tg (zbd tg) x st))
  | _ => false
set_option maxRecDepth 100000 in
theorem zDivF_eq : zDivF = zDiv := by
  delta zDivF
  rw [zltBf, zrF_eq, zresF_eq]
  first | done | rfl
noncomputable def zRemF (k : zK) (pc : Nat) (x : zs) : Bool := match x.2.2.1 with
  | b :: a :: st => a.1 == 0 && (b.1 == 0 && (if (zrF x.1 a).1 == (zrF x.1 a).2 && ((zrF x.1 b).1 == (zrF x.1 b).2 && (zleB (0) ((zrF x.1 a).1) && zltB (0) ((zrF x.1 b).1))) then zresF k pc 0 ((zrF x.1 a).1 % (zrF x.1 b).1, (zrF x.1 a).1 % (zrF x.1 b).1) x st
      else (zltB (0) ((zrF x.1 b).1) || zltB ((zrF x.1 b).2) (0)) && zresF k pc 0 (zbd 0) x st))
  | _ => false
set_option maxRecDepth 100000 in
theorem zRemF_eq : zRemF = zRem := by
  delta zRemF
  rw [zleBf, zltBf, zrF_eq, zresF_eq]
  first | done | rfl
noncomputable def zLremF (k : zK) (pc : Nat) (x : zs) : Bool := match x.2.2.1 with
  | b :: a :: st => a.1 == 1 && (b.1 == 1 && (if zleB (0) ((zrF x.1 a).1) && zltB (0) ((zrF x.1 b).1) then zresF k pc 1 (0, (zrF x.1 b).2 - 1) x st
      else (zltB (0) ((zrF x.1 b).1) || zltB ((zrF x.1 b).2) (0)) && zresF k pc 1 (zbd 1) x st))
  | _ => false
set_option maxRecDepth 100000 in
theorem zLremF_eq : zLremF = zLrem := by
  delta zLremF
  rw [zleBf, zltBf, zrF_eq, zresF_eq]
  first | done | rfl
noncomputable def zNarF (k : zK) (pc ti tg : Nat) (lo hi : Int) (x : zs) : Bool := match x.2.2.1 with
  | a :: st => a.1 == ti && (if zleB (lo) ((zrF x.1 a).1) && zleB ((zrF x.1 a).2) (hi) then zpush k pc (tg, a.2) x st else zresF k pc tg (lo, hi) x st)
  | _ => false
set_option maxRecDepth 100000 in
theorem zNarF_eq : zNarF = zNar := by
  delta zNarF
  rw [zleBf, zrF_eq, zresF_eq]
  first | done | rfl
noncomputable def zclF (a b : Int × Int) : Int × Int := (if zltB (b.2) (a.1) then 1 else if zleB (b.2) (a.1) then 0 else -1, if zltB (a.2) (b.1) then -1 else if zleB (a.2) (b.1) then 0 else 1)
set_option maxRecDepth 100000 in
theorem zclF_eq : zclF = zcl := by
  delta zclF
  rw [zleBf, zltBf]
  first | done | rfl
noncomputable def zLcmpF (k : zK) (pc : Nat) (x : zs) : Bool := match x.2.2.1 with
  | b :: a :: st => a.1 == 1 && (b.1 == 1 && k pc ((zappR (x.1) [zclF (zrF x.1 a) (zrF x.1 b)]), x.2.1, (0, (zlenR (x.1)), 0) :: st, x.2.2.2.1,
      ([((zlenR (x.1)), 2)], b.2.1, a.2.1, a.2.2 - b.2.2 + 1) :: ([((zlenR (x.1)), 3)], a.2.1, b.2.1, b.2.2 - a.2.2) :: ([((zlenR (x.1)), 4)], a.2.1, b.2.1, b.2.2 - a.2.2 + 1) :: ([((zlenR (x.1)), 5)], b.2.1, a.2.1, a.2.2 - b.2.2) :: x.2.2.2.2))
  | _ => false
set_option maxRecDepth 100000 in
theorem zLcmpF_eq : zLcmpF = zLcmp := by
  delta zLcmpF
  rw [zrF_eq, zclF_eq]
  repeat rw [zappRf]
  repeat rw [zlenRf]
  first | done | rfl
noncomputable def zsetF (en : zenv) (i : Nat) (lo hi : Int) : zenv := match (zgetR (en) (i)) with
  | some q => en.set i (max q.1 lo, min q.2 hi)
  | none => en
set_option maxRecDepth 100000 in
theorem zsetF_eq : zsetF = zset := by
  delta zsetF
  repeat rw [zgetRf]
  first | done | rfl
noncomputable def zdifF (en : zenv) (i j : Nat) (c : Int) : zenv := match zgetR en i, zgetR en j with
  | some p, some q => (match zleB (q.1 + c) p.1 with
    | true => (match zleB q.2 (p.2 - c) with
      | true => en
      | false => zdif en i j c)
    | false => zdif en i j c)
  | _, _ => en
theorem zdif_same {en : zenv} {i j : Nat} {c : Int} {p q : Int × Int} (hi : en[i]? = some p) (hj : en[j]? = some q) (h1 : q.1 + c ≤ p.1) (h2 : q.2 ≤ p.2 - c) : zdif en i j c = en := by
  have e : zdif en i j c = (en.set i (max p.1 (q.1 + c), p.2)).set j (if i == j then (max p.1 (q.1 + c), p.2) else (q.1, min q.2 (p.2 - c))) := by
    unfold zdif
    rw [hi, hj]
    first | done | rfl
  rw [e, show max p.1 (q.1 + c) = p.1 by omega, show min q.2 (p.2 - c) = q.2 by omega]
  have e1 : en.set i (p.1, p.2) = en := zset_self hi
  rw [e1]
  by_cases hij : i = j
  · subst hij
    rw [if_pos (beq_self_eq_true i)]
    exact e1
  · rw [if_neg (fun h => hij (eq_of_beq h))]
    exact zset_self hj
theorem zdifF_eq : zdifF = zdif := by
  funext en i j c
  cases hi : en[i]? with
  | none =>
    unfold zdifF zdif
    rw [zgetR_eq, zgetR_eq, hi]
    first | done | (cases en[j]? <;> rfl)
  | some p => cases hj : en[j]? with
    | none =>
      unfold zdifF zdif
      rw [zgetR_eq, zgetR_eq, hi, hj]
      first | done | rfl
    | some q =>
      have e : zdifF en i j c = (match zleB (q.1 + c) p.1 with | true => (match zleB q.2 (p.2 - c) with | true => en | false => zdif en i j c) | false => zdif en i j c) := by
        unfold zdifF
        rw [zgetR_eq, zgetR_eq, hi, hj]
        first | done | rfl
      rw [e]
      cases h1 : zleB (q.1 + c) p.1 with
      | false => rfl
      | true => cases h2 : zleB q.2 (p.2 - c) with
        | false => rfl
        | true => exact (zdif_same hi hj ((zleB_iff _ _).mp h1) ((zleB_iff _ _).mp h2)).symm
noncomputable def zbadF : zenv → Bool
  | [] => false
  | q :: r => (match zltB q.2 q.1 with
    | true => true
    | false => zbadF r)
theorem zbadF_eq : zbadF = zbad := by
  funext en
  induction en with
  | nil => rfl
  | cons q r ih =>
    have h1 : zbadF (q :: r) = (match zltB q.2 q.1 with | true => true | false => zbadF r) := rfl
    have h2 : zbad (q :: r) = (decide (q.2 < q.1) || zbad r) := rfl
    rw [h1, h2, ih, zltBf]
    show (match decide (q.2 < q.1) with | true => true | false => zbad r) = (decide (q.2 < q.1) || zbad r)
    cases decide (q.2 < q.1) <;> rfl
noncomputable def zsureF (en : zenv) (q : Nat × Nat) : Bool := match (zgetR (en) (q.1)) with
  | some b => (match Nat.ble 6 q.2 with
    | true => zltB ((q.2 : Int)) (b.1 + 100)
    | false => (match q.2 with
      | 0 => zleB (0) (b.1) && zleB (b.2) (0)
      | 1 => zltB (0) (b.1) || zltB (b.2) (0)
      | 2 => zltB (b.2) (0)
      | 3 => zleB (0) (b.1)
      | 4 => zltB (0) (b.1)
      | 5 => zleB (b.2) (0)
      | _ => false))
  | none => false
set_option maxRecDepth 100000 in
theorem zsureF_eq : zsureF = zsure := by
  delta zsureF
  rw [zleBf, zltBf]
  repeat rw [zgetRf]
  first | done | rfl
noncomputable def zpropF : List zfact → zenv → zenv
  | [], en => en
  | f :: r, en => (match zallR f.1 (zsureF en) with
    | true => zpropF r (zdifF en f.2.1 f.2.2.1 f.2.2.2)
    | false => zpropF r en)
theorem zpropF_eq : zpropF = zprop := by
  funext fa
  induction fa with
  | nil =>
    funext en
    rfl
  | cons f r ih =>
    funext en
    have h : zpropF (f :: r) en = (match zallR f.1 (zsureF en) with | true => zpropF r (zdifF en f.2.1 f.2.2.1 f.2.2.2) | false => zpropF r en) := rfl
    rw [h, ih, zsureF_eq, zdifF_eq, zallR_eq]
    first | done | rfl
noncomputable def zneF (en : zenv) (v : zv) (c : Int) : zenv := match (zgetR (en) (v.2.1)) with
  | some q => en.set v.2.1 (if q.1 + v.2.2 == c then q.1 + 1 else q.1, if q.2 + v.2.2 == c then q.2 - 1 else q.2)
  | none => en
set_option maxRecDepth 100000 in
theorem zneF_eq : zneF = zne := by
  delta zneF
  repeat rw [zgetRf]
  first | done | rfl
noncomputable def zcondF (r : ClassFile.Cond) (en : zenv) (a b : zv) : zenv := match r with
  | .lt => zdifF en b.2.1 a.2.1 (a.2.2 - b.2.2 + 1)
  | .ge => zdifF en a.2.1 b.2.1 (b.2.2 - a.2.2)
  | .gt => zdifF en a.2.1 b.2.1 (b.2.2 - a.2.2 + 1)
  | .le => zdifF en b.2.1 a.2.1 (a.2.2 - b.2.2)
  | .eq => zdifF (zdifF en a.2.1 b.2.1 (b.2.2 - a.2.2)) b.2.1 a.2.1 (a.2.2 - b.2.2)
  | .ne => zneF (if (zrF en b).1 == (zrF en b).2 then zneF en a (zrF en b).1 else en) b (if (zrF en a).1 == (zrF en a).2 then (zrF en a).1 else (zrF en b).2 + 1)
set_option maxRecDepth 100000 in
theorem zcondF_eq : zcondF = zcond := by
  delta zcondF
  rw [zrF_eq, zdifF_eq, zneF_eq]
  first | done | rfl
noncomputable def zgo1F (k : zK) (pc : Nat) (en : zenv) (fa : List zfact) (x : zs) (st : List zv) : Bool := zbadF en || k pc (en, x.2.1, st, x.2.2.2.1, fa)
set_option maxRecDepth 100000 in
theorem zgo1F_eq : zgo1F = zgo1 := by
  delta zgo1F
  rw [zbadF_eq]
  first | done | rfl
noncomputable def zIcmpF (k : zK) (pc tgt : Nat) (r : ClassFile.Cond) (x : zs) : Bool := match x.2.2.1 with
  | b :: a :: st => a.1 == 0 && (b.1 == 0 && (zgo1F k tgt (zpropF (zfan r x.2.2.2.2 a b) (zcondF r x.1 a b)) (zfan r x.2.2.2.2 a b) x st && zgo1F k pc (zpropF (zfan (znot r) x.2.2.2.2 a b) (zcondF (znot r) x.1 a b)) (zfan (znot r) x.2.2.2.2 a b) x st))
  | _ => false
set_option maxRecDepth 100000 in
theorem zIcmpF_eq : zIcmpF = zIcmp := by
  delta zIcmpF
  rw [zpropF_eq, zcondF_eq, zgo1F_eq]
  first | done | rfl
noncomputable def zIfF (k : zK) (pc tgt : Nat) (r : ClassFile.Cond) (x : zs) : Bool := match x.2.2.1 with
  | a :: st => a.1 == 0 && (zgo1F k tgt (zpropF x.2.2.2.2 (zcondF r x.1 a (0, 0, 0))) x.2.2.2.2 x st && zgo1F k pc (zpropF x.2.2.2.2 (zcondF (znot r) x.1 a (0, 0, 0))) x.2.2.2.2 x st)
  | _ => false
set_option maxRecDepth 100000 in
theorem zIfF_eq : zIfF = zIf := by
  delta zIfF
  rw [zpropF_eq, zcondF_eq, zgo1F_eq]
  first | done | rfl
noncomputable def zArrF (KS : List zk) (v : zv) : Option (Nat × Nat × List zt) := match v.1 with
  | k + 2 => (match (zgetR (KS) (k)) with
    | some (.inl d) => some d
    | _ => none)
  | _ => none
set_option maxRecDepth 100000 in
theorem zArrF_eq : zArrF = zArr := by
  delta zArrF
  repeat rw [zgetRf]
  first | done | rfl
noncomputable def zixF (n : Nat) (b : Int × Int) : Bool := zleB (0) (b.1) && (zleB (b.1) (b.2) && zltB (b.2) ((n : Int)))
set_option maxRecDepth 100000 in
theorem zixF_eq : zixF = zix := by
  delta zixF
  rw [zleBf, zltBf]
  first | done | rfl
noncomputable def zlookF (me : zmem) (kd f : Nat) : Option zv := match (zfindR (me) (fun q => match Nat.beq q.2.1 f with | true => Nat.beq q.1 kd | false => false)) with
  | some q => some q.2.2
  | none => none
set_option maxRecDepth 100000 in
theorem zlookF_eq : zlookF = zlook := by
  delta zlookF
  repeat rw [zfindRf]
  first | done | rfl
noncomputable def zALdF (KS : List zk) (uq : List Nat) (k : zK) (pc tg : Nat) (ts : List Nat) (x : zs) : Bool := match x.2.2.1 with
  | i :: a :: st => i.1 == 0 && (match zArrF KS a with
    | some d => ts.contains d.1 && (zixF d.2.1 (zrF x.1 i) && (decide ((zlenR (d.2.2)) = 1) || decide ((zlenR (d.2.2)) = d.2.1)) && (
      if zTA.contains (a.1 - 2) && (uq.contains (a.1 - 2) && ((zrF x.1 i).1 == (zrF x.1 i).2 && (d.1 == 0 || (d.1 == 1 || d.1 == 3)))) then (match zlookF x.2.2.2.1 (a.1 - 2) (1000 + (zrF x.1 i).1.toNat) with
        | some v => v.1 == tg && zpush k pc v x st
        | none => k pc ((zappR (x.1) [zjn (zsl d.2.2 (zrF x.1 i).1 (zrF x.1 i).2)]), x.2.1, (tg, (zlenR (x.1)), 0) :: st, (a.1 - 2, 1000 + (zrF x.1 i).1.toNat, (tg, (zlenR (x.1)), 0)) :: x.2.2.2.1, x.2.2.2.2))
      else zresF k pc tg (zjn (zsl d.2.2 (zrF x.1 i).1 (zrF x.1 i).2)) x st))
    | none => false)
  | _ => false
set_option maxRecDepth 100000 in
theorem zALdF_eq : zALdF = zALd := by
  delta zALdF
  rw [zrF_eq, zresF_eq, zArrF_eq, zixF_eq, zlookF_eq]
  repeat rw [zappRf]
  repeat rw [zlenRf]
  first | done | rfl
noncomputable def zALdRF (KS : List zk) (k : zK) (pc : Nat) (x : zs) : Bool := match x.2.2.1 with
  | i :: a :: st => i.1 == 0 && (match zArrF KS a with
    | some (4, n, [q]) => zixF n (zrF x.1 i) && (Nat.ble 2 q.1 && zpush k pc (q.1, 0, 0) x st)
    | _ => false)
  | _ => false
set_option maxRecDepth 100000 in
theorem zALdRF_eq : zALdRF = zALdR := by
  delta zALdRF
  rw [zrF_eq, zArrF_eq, zixF_eq]
  first | done | rfl
noncomputable def zASt2F (uq : List Nat) (wq : List (Nat × Nat)) (k : zK) (pc kd t : Nat) (b : Int × Int) (v : zv) (x : zs) (st : List zv) : Bool :=
  if zTA.contains kd then (t == 0 || (t == 1 || t == 3)) && (uq.contains kd && ((zallR ((List.range (b.2 - b.1 + 1).toNat)) (fun j => wq.contains (kd, 1000 + (b.1.toNat + j)))) &&
    k pc (x.1, x.2.1, st, (if b.1 == b.2 then [(kd, 1000 + b.1.toNat, v)] else []) ++ (zfiltR (x.2.2.2.1) (fun q => !(q.1 == kd) || (b.1 == b.2 && !(q.2.1 == 1000 + b.1.toNat)))), x.2.2.2.2)))
  else k pc (x.1, x.2.1, st, x.2.2.2)
set_option maxRecDepth 100000 in
theorem zASt2F_eq : zASt2F = zASt2 := by
  delta zASt2F
  repeat rw [zallRf]
  repeat rw [zfiltRf]
  first | done | rfl
noncomputable def zAStF (KS : List zk) (uq NS : List Nat) (wq : List (Nat × Nat)) (k : zK) (pc tg : Nat) (ts : List Nat) (x : zs) : Bool := match x.2.2.1 with
  | v :: i :: a :: st => i.1 == 0 && (v.1 == tg && (!(NS.contains (a.1 - 2)) && (match zArrF KS a with
    | some d => ts.contains d.1 && (zixF d.2.1 (zrF x.1 i) && ((decide ((zlenR (d.2.2)) = 1) || decide ((zlenR (d.2.2)) = d.2.1)) && (
        let b := if d.1 == 2 then ((-128 : Int), (127 : Int)) else zrF x.1 v
        (!(d.1 == 1) || (zleB (0) (b.1) && zleB (b.2) (1))) && ((zallR ((zsl d.2.2 (zrF x.1 i).1 (zrF x.1 i).2)) (fun q => zleB (q.2.1) (b.1) && zleB (b.2) (q.2.2))) && zASt2F uq wq k pc (a.1 - 2) d.1 (zrF x.1 i) v x st))))
    | none => false)))
  | _ => false
set_option maxRecDepth 100000 in
theorem zAStF_eq : zAStF = zASt := by
  delta zAStF
  rw [zleBf, zrF_eq, zArrF_eq, zixF_eq, zASt2F_eq]
  repeat rw [zallRf]
  repeat rw [zlenRf]
  first | done | rfl
noncomputable def zALenF (KS : List zk) (k : zK) (pc : Nat) (x : zs) : Bool := match x.2.2.1 with
  | a :: st => (match zArrF KS a with
    | some d => Nat.ble d.2.1 2147483647 && (Nat.ble d.1 4 && zpush k pc (0, 0, (d.2.1 : Int)) x st)
    | none => false)
  | _ => false
set_option maxRecDepth 100000 in
theorem zALenF_eq : zALenF = zALen := by
  delta zALenF
  rw [zArrF_eq]
  first | done | rfl
noncomputable def zcut1F (me : zmem) (kd f : Nat) : zmem := (zfiltR (me) (fun q => !(q.1 == kd && q.2.1 == f)))
set_option maxRecDepth 100000 in
theorem zcut1F_eq : zcut1F = zcut1 := by
  delta zcut1F
  repeat rw [zfiltRf]
  first | done | rfl
noncomputable def zfldF (KS : List zk) (kd f : Nat) : Option zt := match (zgetR (KS) (kd)) with
  | some (.inr d) => (zgetR (d.2) (f))
  | _ => none
set_option maxRecDepth 100000 in
theorem zfldF_eq : zfldF = zfld := by
  delta zfldF
  repeat rw [zgetRf]
  first | done | rfl
noncomputable def zGetF (KS : List zk) (uq : List Nat) (fl : List (Nat × Nat × Nat)) (k : zK) (pc idx : Nat) (x : zs) : Bool := match x.2.2.1 with
  | o :: st => (match (zfindR (fl) (fun q => q.1 == idx)) with
    | some q => o.1 == q.2.1 + 2 && (match zfldF KS q.2.1 q.2.2 with
      | some t => if Nat.ble 2 t.1 then zpush k pc (t.1, 0, 0) x st
        else if uq.contains q.2.1 then (match zlookF x.2.2.2.1 q.2.1 q.2.2 with
          | some v => v.1 == t.1 && zpush k pc v x st
          | none => k pc ((zappR (x.1) [t.2]), x.2.1, (t.1, (zlenR (x.1)), 0) :: st, (q.2.1, q.2.2, (t.1, (zlenR (x.1)), 0)) :: x.2.2.2.1, x.2.2.2.2))
        else zresF k pc t.1 t.2 x st
      | none => false)
    | none => false)
  | _ => false
set_option maxRecDepth 100000 in
theorem zGetF_eq : zGetF = zGet := by
  delta zGetF
  rw [zresF_eq, zlookF_eq, zfldF_eq]
  repeat rw [zfindRf]
  repeat rw [zappRf]
  repeat rw [zlenRf]
  first | done | rfl
noncomputable def zsubIF (b : Int × Int) (t : Int × Int) : Bool := zleB (t.1) (b.1) && zleB (b.2) (t.2)
set_option maxRecDepth 100000 in
theorem zsubIF_eq : zsubIF = zsubI := by
  delta zsubIF
  rw [zleBf]
  first | done | rfl
noncomputable def zfitTF (en : zenv) (v : zv) (t : zt) : Bool := v.1 == t.1 && (Nat.ble 2 t.1 || zsubIF (zrF en v) t.2)
set_option maxRecDepth 100000 in
theorem zfitTF_eq : zfitTF = zfitT := by
  delta zfitTF
  rw [zrF_eq, zsubIF_eq]
  first | done | rfl
noncomputable def zPutF (KS : List zk) (uq NS : List Nat) (fl wr : List (Nat × Nat × Nat)) (wq : List (Nat × Nat)) (k : zK) (pc idx : Nat) (x : zs) : Bool := match x.2.2.1 with
  | v :: o :: st => (match (zfindR (fl) (fun q => q.1 == idx)) with
    | some q => o.1 == q.2.1 + 2 && (!(NS.contains q.2.1) && (wr.contains q && (wq.contains q.2 && (match zfldF KS q.2.1 q.2.2 with
      | some t => (Nat.blt t.1 2 || q.2.1 == 5) && (zfitTF x.1 v t && (if !(Nat.ble 2 t.1) && uq.contains q.2.1 then k pc (x.1, x.2.1, st, (q.2.1, q.2.2, v) :: zcut1F x.2.2.2.1 q.2.1 q.2.2, x.2.2.2.2)
        else k pc (x.1, x.2.1, st, zcut1F x.2.2.2.1 q.2.1 q.2.2, x.2.2.2.2)))
      | none => false))))
    | none => false)
  | _ => false
set_option maxRecDepth 100000 in
theorem zPutF_eq : zPutF = zPut := by
  delta zPutF
  rw [zcut1F_eq, zfldF_eq, zfitTF_eq]
  repeat rw [zfindRf]
  first | done | rfl
noncomputable def zfl2F (KS : List zk) (kd f : Nat) : Option zt := match (zgetR (KS) (kd)) with
  | some (.inr d) => (zgetR (d.2) (f))
  | some (.inl d) => if zTA.contains kd && (Nat.ble 1000 f && (Nat.blt (f - 1000) d.2.1 && (d.1 == 0 || (d.1 == 1 || d.1 == 3)))) then some (if d.1 == 3 then 1 else 0, (zel d.2.2 (f - 1000)).2) else none
  | none => none
set_option maxRecDepth 100000 in
theorem zfl2F_eq : zfl2F = zfl2 := by
  delta zfl2F
  repeat rw [zgetRf]
  first | done | rfl
noncomputable def zfinF (KS : List zk) (uq : List Nat) : List (Nat × Nat) → zenv → zmem → Option (zenv × zmem)
  | [], en, me => some (en, me)
  | q :: r, en, me => (match zlookF me q.1 q.2 with
    | some _ => zfinF KS uq r en me
    | none => if uq.contains q.1 then (match zfl2F KS q.1 q.2 with
        | some t => if Nat.ble 2 t.1 then none else zfinF KS uq r ((zappR (en) [t.2])) ((q.1, q.2, (t.1, (zlenR (en)), 0)) :: me)
        | none => none) else none)
theorem zfinF_eq : zfinF = zfin := by
  funext KS uq l
  induction l with
  | nil =>
    funext en me
    rfl
  | cons q r ih =>
    funext en me
    have h : zfinF KS uq (q :: r) en me = ((match zlookF me q.1 q.2 with
          | some _ => zfinF KS uq r en me
          | none => if uq.contains q.1 then (match zfl2F KS q.1 q.2 with
              | some t => if Nat.ble 2 t.1 then none else zfinF KS uq r ((zappR (en) [t.2])) ((q.1, q.2, (t.1, (zlenR (en)), 0)) :: me)
              | none => none) else none)) := rfl
    rw [h, ih, zlookF_eq, zfl2F_eq]
    repeat rw [zappRf]
    repeat rw [zlenRf]
    first | done | rfl
noncomputable def zvalsF (me : zmem) : List (Nat × Nat) → Option (List zv)
  | [] => some []
  | q :: r => (match zlookF me q.1 q.2, zvalsF me r with
    | some v, some l => some (v :: l)
    | _, _ => none)
theorem zvalsF_eq : zvalsF = zvals := by
  funext me l
  induction l with
  | nil =>
    rfl
  | cons q r ih =>
    have h : zvalsF me (q :: r)  = ((match zlookF me q.1 q.2, zvalsF me r with
          | some v, some l => some (v :: l)
          | _, _ => none)) := rfl
    rw [h, ih, zlookF_eq]
    first | done | rfl
noncomputable def zfmapF (vs : List zv) (f : zfact) : Option zfact := match (zgetR (vs) (f.2.1)), (zgetR (vs) (f.2.2.1)) with
  | some a, some b => if (zallR (f.1) (fun q => match (zgetR (vs) (q.1)) with
      | some v => v.2.2 == 0
      | none => false)) then some ((zmapR (f.1) (fun q => match (zgetR (vs) (q.1)) with
      | some v => (v.2.1, q.2)
      | none => (0, 0))), a.2.1, b.2.1, f.2.2.2 + b.2.2 - a.2.2) else none
  | _, _ => none
set_option maxRecDepth 100000 in
theorem zfmapF_eq : zfmapF = zfmap := by
  delta zfmapF
  repeat rw [zgetRf]
  repeat rw [zallRf]
  repeat rw [zmapRf]
  first | done | rfl
noncomputable def zfit2F (en : zenv) : List zv → List zt → Bool
  | [], [] => true
  | v :: vs, t :: ts => zfitTF en v t && zfit2F en vs ts
  | _, _ => false
theorem zfit2F_eq : zfit2F = zfit2 := by
  funext en vs
  induction vs with
  | nil =>
    funext ts
    cases ts <;> rfl
  | cons v vs ih =>
    funext ts
    cases ts with
    | nil => rfl
    | cons t ts =>
      have h : zfit2F en (v :: vs) (t :: ts) = (zfitTF en v t && zfit2F en vs ts) := rfl
      rw [h, ih, zfitTF_eq]
      first | done | rfl
noncomputable def zdloF (en : zenv) (fa : List zfact) (a b : zv) (c : Int) : Bool :=
  (a.2.1 == b.2.1 && zleB (c + b.2.2) (a.2.2)) || (zleB (c + (zrF en b).2) ((zrF en a).1) ||
  (zanyR (fa) (fun f => f.2.1 == a.2.1 && (f.2.2.1 == b.2.1 && (zleB (c + b.2.2) (f.2.2.2 + a.2.2) && (zallR (f.1) (zsureF en)))))))
set_option maxRecDepth 100000 in
theorem zdloF_eq : zdloF = zdlo := by
  delta zdloF
  rw [zleBf, zrF_eq, zsureF_eq]
  repeat rw [zanyRf]
  repeat rw [zallRf]
  first | done | rfl
noncomputable def zdl2F (en : zenv) (fa : List zfact) (a b : zv) (c : Int) : Bool :=
  (zanyR (fa) (fun f => f.2.1 == a.2.1 && ((zallR (f.1) (zsureF en)) && zdloF en fa (0, f.2.2.1, 0) b (c - f.2.2.2 - a.2.2))))
set_option maxRecDepth 100000 in
theorem zdl2F_eq : zdl2F = zdl2 := by
  delta zdl2F
  rw [zsureF_eq, zdloF_eq]
  repeat rw [zanyRf]
  repeat rw [zallRf]
  first | done | rfl
noncomputable def zassF (vs : List zv) : List (Nat × Nat) → zenv → zenv
  | [], en => en
  | q :: r, en => zassF vs r (match zgetR vs q.1 with
    | some v => zcondF (zkind q.2) en v (0, 0, zkc q.2)
    | none => en)
theorem zassF_eq : zassF = zass := by
  funext vs cs
  induction cs with
  | nil =>
    funext en
    rfl
  | cons q r ih =>
    funext en
    have h : zassF vs (q :: r) en = zassF vs r (match zgetR vs q.1 with | some v => zcondF (zkind q.2) en v (0, 0, zkc q.2) | none => en) := rfl
    rw [h, ih, zcondF_eq, zgetR_eq]
    first | done | rfl
noncomputable def znoF (en : zenv) (v : zv) (k : Nat) : Bool := match (zgetR (en) (v.2.1)) with
  | some b => (match Nat.ble 6 k with
    | true => zleB (b.2 + v.2.2 + 100) ((k : Int))
    | false => (match k with
      | 0 => zltB (0) (b.1 + v.2.2) || zltB (b.2 + v.2.2) (0)
      | 2 => zleB (0) (b.1 + v.2.2)
      | 3 => zltB (b.2 + v.2.2) (0)
      | 4 => zleB (b.2 + v.2.2) (0)
      | _ => false))
  | none => false
set_option maxRecDepth 100000 in
theorem znoF_eq : znoF = zno := by
  delta znoF
  rw [zleBf, zltBf]
  repeat rw [zgetRf]
  first | done | rfl
noncomputable def znovF (vs : List zv) (en : zenv) (q : Nat × Nat) : Bool := match (zgetR (vs) (q.1)) with
  | some v => znoF en v q.2
  | none => false
set_option maxRecDepth 100000 in
theorem znovF_eq : znovF = znov := by
  delta znovF
  rw [znoF_eq]
  repeat rw [zgetRf]
  first | done | rfl
noncomputable def zfokF (vs : List zv) (en : zenv) (fa : List zfact) (f : zfact) : Bool := match (zgetR (vs) (f.2.1)), (zgetR (vs) (f.2.2.1)) with
  | some a, some b => zdloF en [] a b f.2.2.2 || (let en0 := zassF vs f.1 en; zbadF en0 || (zdloF en0 [] a b f.2.2.2 || (let en1 := zpropF fa en0; zbadF en1 || (zdloF en1 fa a b f.2.2.2 || zdl2F en1 fa a b f.2.2.2))))
  | _, _ => false
set_option maxRecDepth 100000 in
theorem zfokF_eq : zfokF = zfok := by
  delta zfokF
  rw [zbadF_eq, zpropF_eq, zdloF_eq, zdl2F_eq, zassF_eq]
  repeat rw [zgetRf]
  first | done | rfl
noncomputable def zsamecF (vs : List zv) (h q : Nat × Nat) : Bool := match Nat.beq q.2 h.2 with
  | true => (match (zgetR (vs) (q.1)) with
    | some v => Nat.beq v.2.1 h.1 && decide (v.2.2 = 0)
    | none => false)
  | false => false
set_option maxRecDepth 100000 in
theorem zsamecF_eq : zsamecF = zsamec := by
  delta zsamecF
  repeat rw [zgetRf]
  first | done | rfl
noncomputable def zsameF (vs : List zv) (en : zenv) (fc : List (Nat × Nat)) (a b : zv) (c : Int) (g : zfact) : Bool := match Nat.beq g.2.1 a.2.1 with
  | true => Nat.beq g.2.2.1 b.2.1 && (zleB (c + b.2.2) (g.2.2.2 + a.2.2) && (zallR (g.1) (fun h => zsureF en h || (zanyR (fc) (zsamecF vs h)))))
  | false => false
set_option maxRecDepth 100000 in
theorem zsameF_eq : zsameF = zsame := by
  delta zsameF
  rw [zleBf, zsureF_eq, zsamecF_eq]
  repeat rw [zanyRf]
  repeat rw [zallRf]
  first | done | rfl
noncomputable def zfallF (vs : List zv) (en : zenv) (fa : List zfact) : List zfact → List zfact → Bool
  | [], _ => true
  | f :: r, s => (match zanyR f.1 (znovF vs en) with
    | true => zfallF vs en fa r s
    | false => (match zgetR vs f.2.1, zgetR vs f.2.2.1 with
      | some a, some b => (match zskip (zsameF vs en f.1 a b f.2.2.2) s with
        | some s1 => zfallF vs en fa r s1
        | none => zfokF vs en fa f && zfallF vs en fa r s)
      | _, _ => false))
theorem zfallF_eq : zfallF = zfall := by
  funext vs en fa l
  induction l with
  | nil =>
    funext s
    rfl
  | cons f r ih =>
    funext s
    have h : zfallF vs en fa (f :: r) s = (match zanyR f.1 (znovF vs en) with
      | true => zfallF vs en fa r s
      | false => (match zgetR vs f.2.1, zgetR vs f.2.2.1 with
        | some a, some b => (match zskip (zsameF vs en f.1 a b f.2.2.2) s with
          | some s1 => zfallF vs en fa r s1
          | none => zfokF vs en fa f && zfallF vs en fa r s)
        | _, _ => false)) := rfl
    rw [h, ih, znovF_eq, zsameF_eq, zfokF_eq, zgetR_eq, zgetR_eq, zanyR_eq]
    first | done | rfl
noncomputable def ztrF (nf fa : List zfact) : List zfact := nf.flatMap (fun f => fa.filterMap (fun g => if Nat.ble (zlenR (g.1)) 2 && (g.2.1 == f.2.2.1 && (!(f.2.2.1 == 0) && !(g.2.2.1 == 0))) then some (f.1 ++ g.1, f.2.1, g.2.2.1, f.2.2.2 + g.2.2.2) else none))
set_option maxRecDepth 100000 in
theorem ztrF_eq : ztrF = ztr := by
  delta ztrF
  repeat rw [zlenRf]
  first | done | rfl
noncomputable def zCall2F (KS : List zk) (k : zK) (pc : Nat) (con : zcon) (x : zs) (vs st : List zv) (en : zenv) (me : zmem) (fv : List zv) : Bool :=
  let nf := con.2.2.2.2.1.filterMap (zfmapF ((0, 0, 0) :: vs ++ fv ++ zids (zlenR (en)) con.2.2.2.1 ++ ztag con.2.1 ((zlenR (en)) + (zlenR (con.2.2.2.1)))))
  k pc (zpropF nf (en ++ (zmapR (con.2.2.2.1) (fun q => q.2.2)) ++ zrenv con.2.1), x.2.1, ztag con.2.1 ((zlenR (en)) + (zlenR (con.2.2.2.1))) ++ st,
    zfout KS (zlenR (en)) con.2.2.2.1 ++ (zfiltR (me) (fun q => !(con.2.2.2.2.2.1.contains (q.1, q.2.1)))), nf ++ (ztrF nf x.2.2.2.2 ++ x.2.2.2.2))
set_option maxRecDepth 100000 in
theorem zCall2F_eq : zCall2F = zCall2 := by
  delta zCall2F
  rw [zpropF_eq, zfmapF_eq, ztrF_eq]
  repeat rw [zfiltRf]
  repeat rw [zlenRf]
  repeat rw [zmapRf]
  first | done | rfl
noncomputable def zCall1F (KS : List zk) (uq : List Nat) (wq : List (Nat × Nat)) (k : zK) (pc : Nat) (con : zcon) (x : zs) : Bool :=
  zroom (x.2.2.1.drop (zlenR (con.1))) && (zrz (x.2.2.1.take (zlenR (con.1))) && (zfit2F x.1 ((x.2.2.1.take (zlenR (con.1))).reverse) con.1 && ((zallR (con.2.2.2.2.2.1) (fun q => wq.contains q)) && (match zfinF KS uq con.2.2.1 x.1 x.2.2.2.1 with
    | some em => (match zvalsF em.2 con.2.2.1 with
      | some fv => zfallF ((0, 0, 0) :: ((x.2.2.1.take (zlenR (con.1))).reverse) ++ fv) em.1 x.2.2.2.2 con.2.2.2.2.2.2 x.2.2.2.2 && zCall2F KS k pc con x ((x.2.2.1.take (zlenR (con.1))).reverse) (x.2.2.1.drop (zlenR (con.1))) em.1 em.2 fv
      | none => false)
    | none => false))))
set_option maxRecDepth 100000 in
theorem zCall1F_eq : zCall1F = zCall1 := by
  delta zCall1F
  rw [zfinF_eq, zvalsF_eq, zfit2F_eq, zfallF_eq, zCall2F_eq]
  repeat rw [zallRf]
  repeat rw [zlenRf]
  first | done | rfl
noncomputable def zfits1F (en : zenv) (st : List zv) (con : zcon) : Bool := match con.1, st with
  | [t1], v1 :: _ => zfitTF en v1 t1
  | [t1, t2], v2 :: v1 :: _ => (match zfitTF en v2 t2 with
    | true => zfitTF en v1 t1
    | false => false)
  | [t1, t2, t3], v3 :: v2 :: v1 :: _ => (match zfitTF en v3 t3 with
    | true => (match zfitTF en v2 t2 with
      | true => zfitTF en v1 t1
      | false => false)
    | false => false)
  | _, _ => zfit2F en ((st.take con.1.length).reverse) con.1
theorem zfits1F_eq : zfits1F = zfits1 := by
  funext en st con
  obtain ⟨ts, con2⟩ := con
  show (match ts, st with
    | [t1], v1 :: _ => zfitTF en v1 t1
    | [t1, t2], v2 :: v1 :: _ => (match zfitTF en v2 t2 with
      | true => zfitTF en v1 t1
      | false => false)
    | [t1, t2, t3], v3 :: v2 :: v1 :: _ => (match zfitTF en v3 t3 with
      | true => (match zfitTF en v2 t2 with
        | true => zfitTF en v1 t1
        | false => false)
      | false => false)
    | _, _ => zfit2F en ((st.take ts.length).reverse) ts) = zfit2 en ((st.take ts.length).reverse) ts
  rw [zfitTF_eq, zfit2F_eq]
  split
  · rename_i t1 v1 r
    show zfitT en v1 t1 = (zfitT en v1 t1 && true)
    cases zfitT en v1 t1 <;> rfl
  · rename_i t1 t2 v2 v1 r
    show (match zfitT en v2 t2 with | true => zfitT en v1 t1 | false => false) = (zfitT en v1 t1 && (zfitT en v2 t2 && true))
    cases zfitT en v1 t1 <;> cases zfitT en v2 t2 <;> rfl
  · rename_i t1 t2 t3 v3 v2 v1 r
    show (match zfitT en v3 t3 with | true => (match zfitT en v2 t2 with | true => zfitT en v1 t1 | false => false) | false => false) = (zfitT en v1 t1 && (zfitT en v2 t2 && (zfitT en v3 t3 && true)))
    cases zfitT en v1 t1 <;> cases zfitT en v2 t2 <;> cases zfitT en v3 t3 <;> rfl
  · rfl
noncomputable def zCallF (KS : List zk) (uq : List Nat) (wq : List (Nat × Nat)) (cs : List (Nat × Nat × zcon)) (k : zK) (pc kd idx : Nat) (x : zs) : Bool := match (zfindR (cs) (fun q => q.1 == kd && (q.2.1 == idx && zfits1F x.1 x.2.2.1 q.2.2))) with
  | some q => zCall1F KS uq wq k pc q.2.2 x
  | none => false
set_option maxRecDepth 100000 in
theorem zCallF_eq : zCallF = zCall := by
  delta zCallF
  rw [zCall1F_eq, zfits1F_eq]
  repeat rw [zfindRf]
  first | done | rfl
noncomputable def zRetF (con : zcon) (x : zs) : Bool := zfit2F x.1 x.2.2.1 con.2.1.toList && (zrz x.2.2.1 && (match zvalsF x.2.2.2.1 ((zmapR (con.2.2.2.1) (fun q => (q.1, q.2.1)))) with
  | some fv => (zallR ((fv.zip con.2.2.2.1)) (fun q => zsubIF (zrF x.1 q.1) q.2.2.2)) && zfallF (zpers (1 + (zlenR (con.1)) + (zlenR (con.2.2.1))) ++ fv ++ x.2.2.1) x.1 x.2.2.2.2 con.2.2.2.2.1 x.2.2.2.2
  | none => false))
set_option maxRecDepth 100000 in
theorem zRetF_eq : zRetF = zRet := by
  delta zRetF
  rw [zrF_eq, zsubIF_eq, zvalsF_eq, zfit2F_eq, zfallF_eq]
  repeat rw [zallRf]
  repeat rw [zlenRf]
  repeat rw [zmapRf]
  first | done | rfl
noncomputable def zmvF (np : Nat) (tv cv : zv) (acc : List zv) : Option (List zv) :=
  if Nat.ble 2 tv.1 then (if tv.1 == cv.1 then some acc else none)
  else if tv.1 == cv.1 then (if Nat.blt tv.2.1 np then (if tv.2.1 == cv.2.1 && tv.2.2 == cv.2.2 then some acc else none) else if tv.2.1 == np + (zlenR (acc)) && tv.2.2 == 0 then some ((zappR (acc) [cv])) else none) else none
set_option maxRecDepth 100000 in
theorem zmvF_eq : zmvF = zmv := by
  delta zmvF
  repeat rw [zappRf]
  repeat rw [zlenRf]
  first | done | rfl
noncomputable def zmlF (np : Nat) (lo : List (Nat × zv)) : List (Nat × zv) → List zv → Option (List zv)
  | [], acc => some acc
  | q :: r, acc => (match (zfindR (lo) (fun z => z.1 == q.1)) with
    | some z => (match zmvF np q.2 z.2 acc with
      | some acc1 => zmlF np lo r acc1
      | none => none)
    | none => none)
theorem zmlF_eq : zmlF = zml := by
  funext np lo l
  induction l with
  | nil =>
    funext acc
    rfl
  | cons q r ih =>
    funext acc
    have h : zmlF np lo (q :: r) acc = ((match (zfindR (lo) (fun z => z.1 == q.1)) with
          | some z => (match zmvF np q.2 z.2 acc with
            | some acc1 => zmlF np lo r acc1
            | none => none)
          | none => none)) := rfl
    rw [h, ih, zmvF_eq]
    repeat rw [zfindRf]
    first | done | rfl
noncomputable def zmmF (np : Nat) (me : zmem) : zmem → List zv → Option (List zv)
  | [], acc => some acc
  | q :: r, acc => (match zlookF me q.1 q.2.1 with
    | some v => (match (if Nat.blt q.2.2.1 2 then zmvF np q.2.2 v acc else none) with
      | some acc1 => zmmF np me r acc1
      | none => none)
    | none => none)
theorem zmmF_eq : zmmF = zmm := by
  funext np me l
  induction l with
  | nil =>
    funext acc
    rfl
  | cons q r ih =>
    funext acc
    have h : zmmF np me (q :: r) acc = ((match zlookF me q.1 q.2.1 with
          | some v => (match (if Nat.blt q.2.2.1 2 then zmvF np q.2.2 v acc else none) with
            | some acc1 => zmmF np me r acc1
            | none => none)
          | none => none)) := rfl
    rw [h, ih, zlookF_eq, zmvF_eq]
    first | done | rfl
noncomputable def zsubEF (en : zenv) (vs : List zv) (te : zenv) : Bool := (zallR ((vs.zip te)) (fun q => zsubIF (zrF en q.1) q.2))
set_option maxRecDepth 100000 in
theorem zsubEF_eq : zsubEF = zsubE := by
  delta zsubEF
  rw [zrF_eq, zsubIF_eq]
  repeat rw [zallRf]
  first | done | rfl
noncomputable def zadd1F (cs : List Int) (i : Nat) (c : Int) : List Int := match (zgetR (cs) (i)) with
  | some d => cs.set i (d + c)
  | none => cs
set_option maxRecDepth 100000 in
theorem zadd1F_eq : zadd1F = zadd1 := by
  delta zadd1F
  repeat rw [zgetRf]
  first | done | rfl
noncomputable def zelimF (en : zenv) (fa : List zfact) (p : List Int × Int) : List Int × Int := fa.foldl (fun p f => match (zgetR (p.1) (f.2.1)) with
  | some t => if zltB (t) (0) && (zallR (f.1) (zsureF en)) && !(f.2.1 == f.2.2.1) then (zadd1F (p.1.set f.2.1 0) f.2.2.1 t, p.2 + t * f.2.2.2) else p
  | none => p) p
set_option maxRecDepth 100000 in
theorem zelimF_eq : zelimF = zelim := by
  delta zelimF
  rw [zltBf, zsureF_eq, zadd1F_eq]
  repeat rw [zgetRf]
  repeat rw [zallRf]
  first | done | rfl
noncomputable def zqkF (en : zenv) (lo : List (Nat × zv)) (te : zenv) : List (Nat × zv) → Bool
  | [] => true
  | q :: r => (match zfindR lo (fun z => z.1 == q.1) with
    | some z => Nat.ble 2 q.2.1 || (match zgetR te q.2.2.1 with
      | some b => zsubIF (zrF en z.2) b
      | none => false)
    | none => false) && zqkF en lo te r
theorem zqkF_eq : zqkF = zqk := by
  funext en lo te l
  induction l with
  | nil => rfl
  | cons q r ih =>
    have h : zqkF en lo te (q :: r) = ((match zfindR lo (fun z => z.1 == q.1) with
      | some z => Nat.ble 2 q.2.1 || (match zgetR te q.2.2.1 with
        | some b => zsubIF (zrF en z.2) b
        | none => false)
      | none => false) && zqkF en lo te r) := rfl
    rw [h, ih, zsubIF_eq, zrF_eq, zfindR_eq, zgetR_eq]
    first | done | rfl
noncomputable def zCutF (KS : List zk) (uq : List Nat) (np : Nat) (src : Option (Int × List Int)) (T : zcut) (x : zs) : Bool := zqkF x.1 x.2.1 T.2.1.1 T.2.1.2.1 && match zfinF KS uq ((zmapR (T.2.1.2.2.2.1) (fun q => (q.1, q.2.1)))) x.1 x.2.2.2.1 with
  | some em => (match zmlF np x.2.1 T.2.1.2.1 [] with
    | some a1 => (match zms np T.2.1.2.2.1 x.2.2.1 a1 with
      | some a2 => (match zmmF np em.2 T.2.1.2.2.2.1 a2 with
        | some sub => (let vs := zpers np ++ sub
          Nat.ble np (zlenR (x.1)) && ((zlenR (T.2.1.1)) == np + (zlenR (sub)) && (zsubEF em.1 vs T.2.1.1 && (zfallF vs em.1 x.2.2.2.2 T.2.1.2.2.2.2 x.2.2.2.2 && (match src with
          | none => true
          | some (c0, rk0) => Nat.ble (zlenR (rk0)) (zlenR (em.1)) && (let p := zaddl T.2.2.2 vs (zneg (zlenR (em.1)) rk0) (T.2.2.1 - c0); zltB (zub p.1 em.1 + p.2) (0) || (let p := zelimF em.1 x.2.2.2.2 p; zltB (zub p.1 em.1 + p.2) (0))))))))
        | none => false)
      | none => false)
    | none => false)
  | none => false
set_option maxRecDepth 100000 in
theorem zCutF_eq : zCutF = zCut := by
  delta zCutF
  rw [zltBf, zfinF_eq, zfallF_eq, zmlF_eq, zmmF_eq, zsubEF_eq, zelimF_eq, zqkF_eq]
  repeat rw [zlenRf]
  repeat rw [zmapRf]
  first | done | rfl
noncomputable def zjmpF (k : Nat → Bool) (pc : Nat) (off : Int) : Bool := zleB (0) ((pc : Int) + off) && k ((pc : Int) + off).toNat
set_option maxRecDepth 100000 in
theorem zjmpF_eq : zjmpF = zjmp := by
  delta zjmpF
  rw [zleBf]
  first | done | rfl
noncomputable def zSwF (k : zK) (pc : Nat) (d lo hi : Int) (offs : List Int) (x : zs) : Bool := match x.2.2.1 with
  | a :: st => a.1 == 0 && (
    zjmpF (fun t => zgo1F k t (zpropF x.2.2.2.2 (zcondF .lt x.1 a (0, 0, lo))) x.2.2.2.2 x st && zgo1F k t (zpropF x.2.2.2.2 (zcondF .gt x.1 a (0, 0, hi))) x.2.2.2.2 x st) pc d &&
    ((hi - lo + 1).toNat == (zlenR (offs)) && (zallR ((List.range (zlenR (offs)))) (fun j => match (zgetR (offs) (j)) with
      | some o => zjmpF (fun t => zgo1F k t (zpropF x.2.2.2.2 (zcondF .eq x.1 a (0, 0, lo + j))) x.2.2.2.2 x st) pc o
      | none => false))))
  | _ => false
set_option maxRecDepth 100000 in
theorem zSwF_eq : zSwF = zSw := by
  delta zSwF
  rw [zpropF_eq, zcondF_eq, zgo1F_eq, zjmpF_eq]
  repeat rw [zgetRf]
  repeat rw [zallRf]
  repeat rw [zlenRf]
  first | done | rfl
noncomputable def zLdcF (k1 : List (Nat × Int)) (k3 : List (Nat × Nat)) (k : zK) (pc i : Nat) (x : zs) : Bool := match (zfindR (k1) (fun q => q.1 == i)) with
  | some q => zpush k pc (0, 0, q.2) x x.2.2.1
  | none => (match (zfindR (k3) (fun q => q.1 == i)) with
    | some q => q.2 == 54 && zpush k pc (q.2 + 2, 0, 0) x x.2.2.1
    | none => false)
set_option maxRecDepth 100000 in
theorem zLdcF_eq : zLdcF = zLdc := by
  delta zLdcF
  repeat rw [zfindRf]
  first | done | rfl
noncomputable def zGetSF (k3 : List (Nat × Nat)) (k : zK) (pc i : Nat) (x : zs) : Bool := match (zfindR (k3) (fun q => q.1 == i)) with
  | some q => !(q.2 == 54) && zpush k pc (q.2 + 2, 0, 0) x x.2.2.1
  | none => false
set_option maxRecDepth 100000 in
theorem zGetSF_eq : zGetSF = zGetS := by
  delta zGetSF
  repeat rw [zfindRf]
  first | done | rfl
noncomputable def zIaldF (KS : List zk) (uq : List Nat) (k : zK) (pc : Nat) (x : zs) : Bool := match x.2.2.1 with
  | i :: a :: st => if Nat.ble 57 a.1 then i.1 == 0 && (zixF (zlenR ((zSR (a.1 - 2)))) (zrF x.1 i) && zresF k pc 0 (zmm1 (((zSR (a.1 - 2)).drop (zrF x.1 i).1.toNat).take ((zrF x.1 i).2 - (zrF x.1 i).1 + 1).toNat)) x st) else zALdF KS uq k pc 0 [0] x
  | _ => false
set_option maxRecDepth 100000 in
theorem zIaldF_eq : zIaldF = zIald := by
  delta zIaldF
  rw [zrF_eq, zresF_eq, zixF_eq, zALdF_eq]
  repeat rw [zlenRf]
  first | done | rfl
noncomputable def zinsF (KS : List zk) (uq NS : List Nat) (C : zC) (k : zK) (pc : Nat) (x : zs) : ClassFile.Instr → Bool
  | .iload_n i => zLoadF k (pc + 1) 0 i.val x
  | .iload i => zLoadF k (pc + 2) 0 i x
  | .lload_n i => zLoadF k (pc + 1) 1 i.val x
  | .lload i => zLoadF k (pc + 2) 1 i x
  | .aload_n i => zLoadF k (pc + 1) 2 i.val x
  | .aload i => zLoadF k (pc + 2) 2 i x
  | .istore_n i => zStoreF k C.2.1 (pc + 1) 0 i.val x
  | .istore i => zStoreF k C.2.1 (pc + 2) 0 i x
  | .lstore_n i => zStoreF k C.2.1 (pc + 1) 1 i.val x
  | .lstore i => zStoreF k C.2.1 (pc + 2) 1 i x
  | .astore_n i => zStoreF k C.2.1 (pc + 1) 2 i.val x
  | .astore i => zStoreF k C.2.1 (pc + 2) 2 i x
  | .iinc i n => zIncF k C.2.1 (pc + 3) i n x
  | .iconst n => zleB (-1) (n) && (zleB (n) (5) && zpush k (pc + 1) (0, 0, n) x x.2.2.1)
  | .bipush n => zleB (-128) (n) && (zleB (n) (127) && zpush k (pc + 2) (0, 0, n) x x.2.2.1)
  | .sipush n => zleB (-32768) (n) && (zleB (n) (32767) && zpush k (pc + 3) (0, 0, n) x x.2.2.1)
  | .lconst n => zpush k (pc + 1) (1, 0, (n.val : Int)) x x.2.2.1
  | .ldc i => zLdcF C.2.2.2.2.1.1 C.2.2.2.2.1.2.2 k (pc + 2) i x
  | .ldc_w i => zLdcF C.2.2.2.2.1.1 [] k (pc + 3) i x
  | .ldc2_w i => (match (zfindR (C.2.2.2.2.1.2.1) (fun q => q.1 == i)) with
    | some q => zpush k (pc + 3) (1, 0, q.2) x x.2.2.1
    | none => false)
  | .iadd => zAddF k (pc + 1) 0 x
  | .isub => zSubF k (pc + 1) 0 x
  | .imul => zMulF k (pc + 1) 0 x
  | .ladd => zAddF k (pc + 1) 1 x
  | .lsub => zSubF k (pc + 1) 1 x
  | .lmul => zMulF k (pc + 1) 1 x
  | .iand => zAndF k (pc + 1) x
  | .ior => zAny2F k (pc + 1) 0 0 x
  | .ixor => zAny2F k (pc + 1) 0 0 x
  | .ishl => zAny2F k (pc + 1) 0 0 x
  | .ishr => zAny2F k (pc + 1) 0 0 x
  | .iushr => zAny2F k (pc + 1) 0 0 x
  | .lshl => zAny2F k (pc + 1) 1 0 x
  | .land => zAny2F k (pc + 1) 1 1 x
  | .lor => zAny2F k (pc + 1) 1 1 x
  | .irem => zRemF k (pc + 1) x
  | .lrem => zLremF k (pc + 1) x
  | .ldiv => zDivF k (pc + 1) 1 x
  | .i2l => (match x.2.2.1 with
    | a :: st => a.1 == 0 && zpush k (pc + 1) (1, a.2) x st
    | _ => false)
  | .l2i => zNarF k (pc + 1) 1 0 (-2147483648) 2147483647 x
  | .i2b => zNarF k (pc + 1) 0 0 (-128) 127 x
  | .i2s => zNarF k (pc + 1) 0 0 (-32768) 32767 x
  | .dup => (match x.2.2.1 with
    | a :: st => !(a.1 == 1) && zpush k (pc + 1) a x (a :: st)
    | _ => false)
  | .dup2 => (match x.2.2.1 with
    | b :: a :: st => !(a.1 == 1) && (!(b.1 == 1) && zpush k (pc + 1) b x (a :: b :: a :: st))
    | _ => false)
  | .pop => (match x.2.2.1 with
    | a :: st => !(a.1 == 1) && k (pc + 1) (x.1, x.2.1, st, x.2.2.2)
    | _ => false)
  | .pop2 => (match x.2.2.1 with
    | a :: st => a.1 == 1 && k (pc + 1) (x.1, x.2.1, st, x.2.2.2)
    | _ => false)
  | .lcmp => zLcmpF k (pc + 1) x
  | .if_icmp r off => zjmpF (fun t => zIcmpF k (pc + 3) t r x) pc off
  | .ifCond r off => zjmpF (fun t => zIfF k (pc + 3) t r x) pc off
  | .goto off => zjmpF (fun t => k t x) pc off
  | .tableswitch d lo hi offs => zSwF k pc d lo hi offs.toList x
  | .iaload => zIaldF KS uq k (pc + 1) x
  | .getstatic i => zGetSF C.2.2.2.2.1.2.2 k (pc + 3) i x
  | .baload => zALdF KS uq k (pc + 1) 0 [1, 2] x
  | .laload => zALdF KS uq k (pc + 1) 1 [3] x
  | .aaload => zALdRF KS k (pc + 1) x
  | .iastore => zAStF KS uq NS C.2.2.1.2.2.2.2.2.1 k (pc + 1) 0 [0] x
  | .bastore => zAStF KS uq NS C.2.2.1.2.2.2.2.2.1 k (pc + 1) 0 [1, 2] x
  | .lastore => zAStF KS uq NS C.2.2.1.2.2.2.2.2.1 k (pc + 1) 1 [3] x
  | .arraylength => zALenF KS k (pc + 1) x
  | .getfield i => zGetF KS uq C.2.2.2.1.1 k (pc + 3) i x
  | .putfield i => zPutF KS uq NS C.2.2.2.1.1 C.2.2.2.1.2 C.2.2.1.2.2.2.2.2.1 k (pc + 3) i x
  | .invokevirtual i => zCallF KS uq C.2.2.1.2.2.2.2.2.1 C.2.2.2.2.2.1 k (pc + 3) 0 i x
  | .invokestatic i => zCallF KS uq C.2.2.1.2.2.2.2.2.1 C.2.2.2.2.2.1 k (pc + 3) 1 i x
  | .invokespecial i => zCallF KS uq C.2.2.1.2.2.2.2.2.1 C.2.2.2.2.2.1 k (pc + 3) 2 i x
  | .ireturn => zrt C.2.2.1.2.1 == 0 && zRetF C.2.2.1 x
  | .lreturn => zrt C.2.2.1.2.1 == 1 && zRetF C.2.2.1 x
  | .areturn => zrt C.2.2.1.2.1 == 2 && zRetF C.2.2.1 x
  | .return_ => zrt C.2.2.1.2.1 == 9 && zRetF C.2.2.1 x
  | _ => false
set_option maxRecDepth 100000 in
theorem zinsF_eq : zinsF = zins := by
  delta zinsF
  rw [zleBf, zLoadF_eq, zStoreF_eq, zIncF_eq, zAddF_eq, zSubF_eq, zMulF_eq, zAndF_eq, zAny2F_eq, zDivF_eq, zRemF_eq, zLremF_eq, zNarF_eq, zLcmpF_eq, zIcmpF_eq, zIfF_eq, zALdF_eq, zALdRF_eq, zAStF_eq, zALenF_eq, zGetF_eq, zPutF_eq, zCallF_eq, zRetF_eq, zjmpF_eq, zSwF_eq, zLdcF_eq, zGetSF_eq, zIaldF_eq]
  repeat rw [zfindRf]
  first | done | rfl
noncomputable def zsplF (rg : List (Int × Int)) (f : zs → Bool) (x : zs) : Bool := match x.2.2.1 with
  | a :: st => a.1 == 0 && (match rg with
    | [] => zleB ((zrF x.1 a).2 - (zrF x.1 a).1) (64) && (zallR ((List.range ((zrF x.1 a).2 - (zrF x.1 a).1 + 1).toNat)) (fun j => let c := (zrF x.1 a).1 + (j : Int); let en := zcondF .eq x.1 a (0, 0, c); zbadF en || f (en, x.2.1, (0, 0, c) :: st, x.2.2.2)))
    | _ :: _ => zcov rg (zrF x.1 a).1 (zrF x.1 a).2 && (zallR (rg) (fun q => let en := zcondF .le (zcondF .ge x.1 a (0, 0, q.1)) a (0, 0, q.2); zbadF en || f (en, x.2.1, x.2.2))))
  | [] => false
set_option maxRecDepth 100000 in
theorem zsplF_eq : zsplF = zspl := by
  delta zsplF
  rw [zleBf, zrF_eq, zbadF_eq, zcondF_eq]
  repeat rw [zallRf]
  first | done | rfl
noncomputable def zstepF (Z : zDT) (KS : List zk) (uq NS : List Nat) (C : zC) (k : zK) (pc : Nat) (x : zs) : Bool := match pc with
  | 0 => (match zlk2 Z 0 with
    | some q => zinsF KS uq NS C k 0 x q.1
    | none => (match decode C.1 0 with
      | .ok (ins, len) => (zlen ins == 0 || zlen ins == len) && zinsF KS uq NS C k 0 x ins
      | _ => false))
  | n + 1 => (match zlk2 Z (n + 1) with
    | some q => zinsF KS uq NS C k (n + 1) x q.1
    | none => (match decode C.1 (n + 1) with
      | .ok (ins, len) => (zlen ins == 0 || zlen ins == len) && zinsF KS uq NS C k (n + 1) x ins
      | _ => false))
theorem zstepF_eq {Z : zDT} {KS : List zk} {uq NS : List Nat} {C : zC} (hz : zdtok Z C.1) : zstepF Z KS uq NS C = zstep KS uq NS C := by
  funext k pc x
  have e : zstepF Z KS uq NS C k pc x = (match zlk2 Z pc with
    | some q => zinsF KS uq NS C k pc x q.1
    | none => (match decode C.1 pc with
      | .ok (ins, len) => (zlen ins == 0 || zlen ins == len) && zinsF KS uq NS C k pc x ins
      | _ => false)) := by
    cases pc <;> rfl
  have e2 : zstep KS uq NS C k pc x = (match decode C.1 pc with
      | .ok (ins, len) => (zlen ins == 0 || zlen ins == len) && zins KS uq NS C k pc x ins
      | _ => false) := rfl
  rw [e, e2, zinsF_eq]
  cases hq : zlk2 Z pc with
  | none => rfl
  | some q =>
    obtain ⟨c, h1, h2⟩ := zlk2_mem hq
    obtain ⟨h3, h4⟩ := hz c h1 _ h2
    have h3 : decode C.1 pc = .ok q := h3
    have h4 : (zlen q.1 == 0 || zlen q.1 == q.2) = true := h4
    rw [h3]
    show zins KS uq NS C k pc x q.1 = ((zlen q.1 == 0 || zlen q.1 == q.2) && zins KS uq NS C k pc x q.1)
    rw [h4]
    rfl
noncomputable def zchkF (Z : zDT) (KS : List zk) (uq NS : List Nat) (C : zC) (src : Option (Int × List Int)) : Nat → Nat → zs → Bool
  | 0, _, _ => false
  | n + 1, pc, x =>
    let k : zK := fun pc1 x1 => if zanyR C.2.2.2.2.2.2.1 (fun T => Nat.beq T.1 pc1) then zanyR C.2.2.2.2.2.2.1 (fun T => Nat.beq T.1 pc1 && zCutF KS uq (1 + C.2.2.1.1.length + C.2.2.1.2.2.1.length) src T x1) else zchkF Z KS uq NS C src n pc1 x1
    match C.2.2.2.2.2.2.2.find? (fun q => q.1 == pc) with
    | some q => zsplF q.2 (fun x1 => zstepF Z KS uq NS C k pc x1) x
    | none => zstepF Z KS uq NS C k pc x
theorem zchkF_eq {Z : zDT} {KS : List zk} {uq NS : List Nat} {C : zC} {src : Option (Int × List Int)} (hz : zdtok Z C.1) (n : Nat) : zchkF Z KS uq NS C src n = zchk KS uq NS C src n := by
  induction n with
  | zero =>
    funext pc x
    rfl
  | succ n ih =>
    funext pc x
    have h : zchkF Z KS uq NS C src (n + 1) pc x = (let k : zK := fun pc1 x1 => if zanyR C.2.2.2.2.2.2.1 (fun T => Nat.beq T.1 pc1) then zanyR C.2.2.2.2.2.2.1 (fun T => Nat.beq T.1 pc1 && zCutF KS uq (1 + C.2.2.1.1.length + C.2.2.1.2.2.1.length) src T x1) else zchkF Z KS uq NS C src n pc1 x1
      match C.2.2.2.2.2.2.2.find? (fun q => q.1 == pc) with
      | some q => zsplF q.2 (fun x1 => zstepF Z KS uq NS C k pc x1) x
      | none => zstepF Z KS uq NS C k pc x) := rfl
    rw [h, ih, zCutF_eq, zsplF_eq, zstepF_eq hz]
    repeat rw [zanyRf]
    first | done | rfl
noncomputable def zifF (KS : List zk) (q : Nat × Nat) : Int × Int := match zfl2F KS q.1 q.2 with
  | some t => t.2
  | none => (0, 0)
set_option maxRecDepth 100000 in
theorem zifF_eq : zifF = zif := by
  delta zifF
  rw [zfl2F_eq]
  first | done | rfl
noncomputable def zinitF (KS : List zk) (con : zcon) : zs :=
  (zpropF con.2.2.2.2.2.2 ((0, 0) :: (zmapR (con.1) zie) ++ (zmapR (con.2.2.1) (zifF KS))), zpos 0 1 con.1, [], zinitm KS (1 + (zlenR (con.1))) con.2.2.1, con.2.2.2.2.2.2)
set_option maxRecDepth 100000 in
theorem zinitF_eq : zinitF = zinit := by
  delta zinitF
  rw [zpropF_eq, zifF_eq]
  repeat rw [zlenRf]
  repeat rw [zmapRf]
  first | done | rfl
noncomputable def zmethF (Z : zDT) (KS : List zk) (uq NS : List Nat) (C : zC) (fuel : Nat) : Bool :=
  C.2.2.1.2.2.1.all (fun q => uq.contains q.1 && (match zfl2 KS q.1 q.2 with
    | some t => Nat.blt t.1 2
    | none => false)) &&
  (C.2.2.2.2.2.2.1.all (fun T => decide (0 ≤ zlb T.2.2.2 T.2.1.1 + T.2.2.1) && Nat.ble T.2.2.2.length T.2.1.1.length && zchkF Z KS uq NS C (some (T.2.2.1, T.2.2.2)) fuel T.1 T.2.1) &&
  zchkF Z KS uq NS C none fuel 0 (zinitF KS C.2.2.1))
theorem zqF {Z : zDT} {KS : List zk} {uq NS : List Nat} {C : zC} {fuel : Nat} (hz : zdtok Z C.1) (h : zmethF Z KS uq NS C fuel = true) : zmeth KS uq NS C fuel = true := by
  have e : zchkF Z KS uq NS C none fuel = zchk KS uq NS C none fuel := zchkF_eq hz fuel
  have e2 : (fun T : zcut => decide (0 ≤ zlb T.2.2.2 T.2.1.1 + T.2.2.1) && Nat.ble T.2.2.2.length T.2.1.1.length && zchkF Z KS uq NS C (some (T.2.2.1, T.2.2.2)) fuel T.1 T.2.1) = fun T : zcut => decide (0 ≤ zlb T.2.2.2 T.2.1.1 + T.2.2.1) && Nat.ble T.2.2.2.length T.2.1.1.length && zchk KS uq NS C (some (T.2.2.1, T.2.2.2)) fuel T.1 T.2.1 := by
    funext T
    rw [zchkF_eq hz fuel]
  unfold zmethF at h
  unfold zmeth
  rw [e, e2, zinitF_eq] at h
  exact h
noncomputable def zm1F (Z : zDT) (KS : List zk) (uq NS : List Nat) (C : zC) (fuel : Nat) (T : zcut) : Bool :=
  decide (0 ≤ zlb T.2.2.2 T.2.1.1 + T.2.2.1) && Nat.ble T.2.2.2.length T.2.1.1.length && zchkF Z KS uq NS C (some (T.2.2.1, T.2.2.2)) fuel T.1 T.2.1
theorem z1F {Z : zDT} {KS : List zk} {uq NS : List Nat} {C : zC} {fuel : Nat} {T : zcut} (hz : zdtok Z C.1) (h : zm1F Z KS uq NS C fuel T = true) : zm1 KS uq NS C fuel T = true := by
  unfold zm1F at h
  unfold zm1
  rw [zchkF_eq hz fuel] at h
  exact h
noncomputable def zm0F (Z : zDT) (KS : List zk) (uq NS : List Nat) (C : zC) (fuel : Nat) : Bool :=
  C.2.2.1.2.2.1.all (fun q => uq.contains q.1 && (match zfl2 KS q.1 q.2 with
    | some t => Nat.blt t.1 2
    | none => false)) && zchkF Z KS uq NS C none fuel 0 (zinitF KS C.2.2.1)
theorem z0F {Z : zDT} {KS : List zk} {uq NS : List Nat} {C : zC} {fuel : Nat} (hz : zdtok Z C.1) (h : zm0F Z KS uq NS C fuel = true) : zm0 KS uq NS C fuel = true := by
  unfold zm0F at h
  unfold zm0
  rw [zchkF_eq hz fuel, zinitF_eq] at h
  exact h
