/-! values: (tag, id, offset); tag 0 int, 1 long, k + 2 a cell of kind k. types: (tag, low, high). -/
abbrev zv : Type := Nat × Nat × Int
abbrev zt : Type := Nat × Int × Int
abbrev zfact : Type := List (Nat × Nat) × Nat × Nat × Int
abbrev zenv : Type := List (Int × Int)
abbrev zmem : Type := List (Nat × Nat × zv)
abbrev zs : Type := zenv × List (Nat × zv) × List zv × zmem × List zfact
abbrev zk : Type := (Nat × Nat × List zt) ⊕ (Nat × List zt)
/-- a contract: arguments, answer, fields at its start, fields at its end, facts, fields that it may write -/
abbrev zcon : Type := List zt × Option zt × List (Nat × Nat) × List (Nat × Nat × Int × Int) × List zfact × List (Nat × Nat) × List zfact
/-- a cut: place, state, rank (constant, coefficients by id) -/
abbrev zcut : Type := Nat × zs × Int × List Int
def zF2 {α β : Type} (r : α → β → Prop) : List α → List β → Prop
  | [], [] => True
  | a :: as, b :: bs => r a b ∧ zF2 r as bs
  | _, _ => False
/-! ### what it means -/
def znum : Value → Int
  | .int x => x.toInt
  | .long x => x.toInt
  | _ => 0
def zden (ks ad : List Nat) (rho : List Int) (v : zv) (w : Value) : Prop := match v.1 with
  | 0 => ∃ (x : Int32) (r : Int), w = .int x ∧ rho[v.2.1]? = some r ∧ x.toInt = r + v.2.2
  | 1 => ∃ (x : Int64) (r : Int), w = .long x ∧ rho[v.2.1]? = some r ∧ x.toInt = r + v.2.2
  | k + 2 => ∃ a i : Nat, w = .ref a ∧ ks[i]? = some k ∧ ad[i]? = some a
def zok (ks ad : List Nat) (t : zt) (w : Value) : Prop := match t.1 with
  | 0 => ∃ x : Int32, w = .int x ∧ t.2.1 ≤ x.toInt ∧ x.toInt ≤ t.2.2
  | 1 => ∃ x : Int64, w = .long x ∧ t.2.1 ≤ x.toInt ∧ x.toInt ≤ t.2.2
  | k + 2 => ∃ a i : Nat, w = .ref a ∧ ks[i]? = some k ∧ ad[i]? = some a
def zel (el : List zt) (j : Nat) : zt := match el with
  | [q] => q
  | _ => el.getD j (0, 0, 0)
def zty (C : String) : Nat → FieldType
  | 0 => .int
  | 1 => .boolean
  | 2 => .byte
  | 3 => .long
  | _ => .object C
def zrow (ks ad : List Nat) (t n : Nat) (el : List zt) : ((Nat → Int32) ⊕ (Nat → Int64) ⊕ (Nat → UInt32) ⊕ (Nat → UInt64) ⊕ (Nat → Option Nat)) → Prop
  | .inl f => t < 3 ∧ ∀ j, j < n → (zel el j).2.1 ≤ (f j).toInt ∧ (f j).toInt ≤ (zel el j).2.2
  | .inr (.inl f) => t = 3 ∧ ∀ j, j < n → (zel el j).2.1 ≤ (f j).toInt ∧ (f j).toInt ≤ (zel el j).2.2
  | .inr (.inr (.inr (.inr f))) => t = 4 ∧ ∀ j, j < n → ∃ a i : Nat, f j = some a ∧ ks[i]? = some ((zel el j).1 - 2) ∧ ad[i]? = some a
  | _ => False
def zcell (ks ad : List Nat) (C : String) (tys : List (ClassId × FieldType)) : zk → va_E → Prop
  | .inl d, .inl e => e.2.1 = d.2.1 ∧ tys[d.1]? = some (e.1, zty C d.1) ∧ zrow ks ad d.1 d.2.1 d.2.2 e.2.2
  | .inr d, .inr e => e.1 = d.1 ∧ zF2 (zok ks ad) d.2 e.2
  | _, _ => False
def zconf (KS : List zk) (ks ad : List Nat) (C : String) (tys : List (ClassId × FieldType)) (ws : va_W) : Prop :=
  (∃ ex, ad = ws.map (fun q => q.1) ++ ex) ∧ ∀ (i k : Nat) (d : zk), ks[i]? = some k → KS[k]? = some d → ∃ q, ws[i]? = some q ∧ zcell ks ad C tys d q.2
def zpl (k : Nat) : List Nat → Option Nat
  | [] => none
  | j :: r => if j == k then some 0 else (match zpl k r with
    | some i => some (i + 1)
    | none => none)
/-- rows whose numbers are kept in mind by their places -/
def zTA : List Nat := [21, 29, 30, 31, 32, 35, 36, 37, 38, 42, 46, 47]
/-- a field, or (from 1000 on) a number of a row -/
def zav (k f : Nat) : va_E → Int
  | .inr e => (match e.2[f]? with
    | some w => znum w
    | none => 0)
  | .inl (_, _, .inl g) => if zTA.contains k && Nat.ble 1000 f then (g (f - 1000)).toInt else 0
  | .inl (_, _, .inr (.inl g)) => if zTA.contains k && Nat.ble 1000 f then (g (f - 1000)).toInt else 0
  | .inl _ => 0
def zfv (ks : List Nat) (ws : va_W) (k f : Nat) : Int := match zpl k ks with
  | some i => (match ws[i]? with
    | some q => zav k f q.2
    | none => 0)
  | none => 0
def zin (rho : List Int) (en : zenv) : Prop := rho.length = en.length ∧ rho[0]? = some 0 ∧ ∀ (i : Nat) (r : Int) (q : Int × Int), rho[i]? = some r → en[i]? = some q → q.1 ≤ r ∧ r ≤ q.2
def zmh (ks : List Nat) (rho : List Int) (ws : va_W) (me : zmem) : Prop := ∀ q ∈ me, ∃ r : Int, rho[q.2.2.2.1]? = some r ∧ zfv ks ws q.1 q.2.1 = r + q.2.2.2.2
/-- a condition: 0: = 0, 1: ≠ 0, 2: < 0, 3: ≥ 0, 4: > 0, 5: ≤ 0 -/
def zch (kd : Nat) (r : Int) : Prop := match kd with
  | 0 => r = 0
  | 1 => r ≠ 0
  | 2 => r < 0
  | 3 => 0 ≤ r
  | 4 => 0 < r
  | 5 => r ≤ 0
  | n => (n : Int) < r + 100
def zfh (rho : List Int) (f : zfact) : Prop := (∀ q ∈ f.1, ∀ r, rho[q.1]? = some r → zch q.2 r) → ∃ a b : Int, rho[f.2.1]? = some a ∧ rho[f.2.2.1]? = some b ∧ b + f.2.2.2 ≤ a
def zfs (rho : List Int) (fa : List zfact) : Prop := ∀ f ∈ fa, zfh rho f
/-- cells alike: an object keeps its places -/
def zsim (k : Nat) : va_E → va_E → Prop
  | .inr (c, fs), .inr (c', fs') => c' = c ∧ fs'.length = fs.length ∧ (k = 5 ∨ ∀ j a : Nat, fs[j]? = some (.ref a) → fs'[j]? = some (.ref a))
  | .inl _, .inl _ => True
  | _, _ => False
def zkeep (ks : List Nat) (wr : List (Nat × Nat)) (ws ws1 : va_W) : Prop := ∀ k f, (k, f) ∉ wr → zfv ks ws1 k f = zfv ks ws k f
def zpost (ks ad : List Nat) (con : zcon) (As : List Value) (ws ws1 : va_W) (r : List Value) : Prop :=
  zF2 (zok ks ad) con.2.1.toList r ∧ (∀ q ∈ con.2.2.2.1, q.2.2.1 ≤ zfv ks ws1 q.1 q.2.1 ∧ zfv ks ws1 q.1 q.2.1 ≤ q.2.2.2) ∧
  zfs (0 :: As.map znum ++ con.2.2.1.map (fun q => zfv ks ws q.1 q.2) ++ con.2.2.2.1.map (fun q => zfv ks ws1 q.1 q.2.1) ++ r.map znum) con.2.2.2.2.1
/-! ### the checker -/
def zr (en : zenv) (v : zv) : Int × Int := match en[v.2.1]? with
  | some q => (q.1 + v.2.2, q.2 + v.2.2)
  | none => (1, 0)
def zbd (tg : Nat) : Int × Int := match tg with
  | 0 => (-2147483648, 2147483647)
  | _ => (-9223372036854775808, 9223372036854775807)
def zfits (tg : Nat) (lo hi : Int) : Bool := decide ((zbd tg).1 ≤ lo) && decide (hi ≤ (zbd tg).2)
def zfit (tg : Nat) (lo hi : Int) : Int × Int := if zfits tg lo hi then (lo, hi) else zbd tg
abbrev zK : Type := Nat → zs → Bool
/-- a new number of which the bounds are known -/
def zres (k : zK) (pc tg : Nat) (b : Int × Int) (x : zs) (st : List zv) : Bool := k pc (x.1 ++ [b], x.2.1, (tg, x.1.length, 0) :: st, x.2.2.2)
def zpush (k : zK) (pc : Nat) (v : zv) (x : zs) (st : List zv) : Bool := k pc (x.1, x.2.1, v :: st, x.2.2.2)
def ztg (tg : Nat) (v : zv) : Bool := match tg with
  | 0 => v.1 == 0
  | 1 => v.1 == 1
  | _ => Nat.ble 2 v.1
def zLoad (k : zK) (pc tg i : Nat) (x : zs) : Bool := match x.2.1.find? (fun q => q.1 == i) with
  | some q => ztg tg q.2 && zpush k pc q.2 x x.2.2.1
  | none => false
def zdrop (tg i : Nat) (lo : List (Nat × zv)) : List (Nat × zv) := match tg with
  | 1 => lo.filter (fun q => !(q.1 == i) && (!(q.1 == i + 1) && !(q.1 + 1 == i && q.2.1 == 1)))
  | _ => lo.filter (fun q => !(q.1 == i) && !(q.1 + 1 == i && q.2.1 == 1))
def zStore (k : zK) (nL pc tg i : Nat) (x : zs) : Bool := match x.2.2.1 with
  | v :: st => ztg tg v && (Nat.ble (if tg == 1 then i + 2 else i + 1) nL && k pc (x.1, (i, v) :: zdrop tg i x.2.1, st, x.2.2.2))
  | [] => false
def zInc (k : zK) (nL pc i : Nat) (n : Int) (x : zs) : Bool := match x.2.1.find? (fun q => q.1 == i) with
  | some q => q.2.1 == 0 && (Nat.ble (i + 1) nL && (zfits 0 n n && (if zfits 0 ((zr x.1 q.2).1 + n) ((zr x.1 q.2).2 + n) then k pc (x.1, (i, (0, q.2.2.1, q.2.2.2 + n)) :: zdrop 0 i x.2.1, x.2.2) else k pc (x.1 ++ [zbd 0], (i, (0, x.1.length, 0)) :: zdrop 0 i x.2.1, x.2.2))))
  | none => false
/-- + and -, exact where one is a constant -/
def zAdd (k : zK) (pc tg : Nat) (x : zs) : Bool := match x.2.2.1 with
  | b :: a :: st => a.1 == tg && (b.1 == tg && (
    let lo := (zr x.1 a).1 + (zr x.1 b).1; let hi := (zr x.1 a).2 + (zr x.1 b).2
    if zfits tg lo hi && b.2.1 == 0 then zpush k pc (tg, a.2.1, a.2.2 + b.2.2) x st
    else if zfits tg lo hi && a.2.1 == 0 then zpush k pc (tg, b.2.1, b.2.2 + a.2.2) x st
    else zres k pc tg (zfit tg lo hi) x st))
  | _ => false
def zSub (k : zK) (pc tg : Nat) (x : zs) : Bool := match x.2.2.1 with
  | b :: a :: st => a.1 == tg && (b.1 == tg && (
    let lo := (zr x.1 a).1 - (zr x.1 b).2; let hi := (zr x.1 a).2 - (zr x.1 b).1
    if zfits tg lo hi && b.2.1 == 0 then zpush k pc (tg, a.2.1, a.2.2 - b.2.2) x st
    else zres k pc tg (zfit tg lo hi) x st))
  | _ => false
def zmin4 (a b c d : Int) : Int := min (min a b) (min c d)
def zmax4 (a b c d : Int) : Int := max (max a b) (max c d)
def zMul (k : zK) (pc tg : Nat) (x : zs) : Bool := match x.2.2.1 with
  | b :: a :: st => a.1 == tg && (b.1 == tg && (
    let p := zr x.1 a; let q := zr x.1 b
    zres k pc tg (zfit tg (zmin4 (p.1 * q.1) (p.1 * q.2) (p.2 * q.1) (p.2 * q.2)) (zmax4 (p.1 * q.1) (p.1 * q.2) (p.2 * q.1) (p.2 * q.2))) x st))
  | _ => false
def zAnd (k : zK) (pc : Nat) (x : zs) : Bool := match x.2.2.1 with
  | b :: a :: st => a.1 == 0 && (b.1 == 0 && (
    if decide (0 ≤ (zr x.1 b).1) then zres k pc 0 (0, (zr x.1 b).2) x st
    else if decide (0 ≤ (zr x.1 a).1) then zres k pc 0 (0, (zr x.1 a).2) x st
    else zres k pc 0 (zbd 0) x st))
  | _ => false
/-- two numbers to one that may be any -/
def zAny2 (k : zK) (pc tg tb : Nat) (x : zs) : Bool := match x.2.2.1 with
  | b :: a :: st => a.1 == tg && (b.1 == tb && zres k pc tg (zbd tg) x st)
  | _ => false
/-- a quotient, a rest: the divisor isn't 0 -/
def zDiv (k : zK) (pc tg : Nat) (x : zs) : Bool := match x.2.2.1 with
  | b :: a :: st => a.1 == tg && (b.1 == tg && ((decide (0 < (zr x.1 b).1) || decide ((zr x.1 b).2 < 0)) && zres k pc tg (zbd tg) x st))
  | _ => false
/-- a rest: known where both are -/
def zRem (k : zK) (pc : Nat) (x : zs) : Bool := match x.2.2.1 with
  | b :: a :: st => a.1 == 0 && (b.1 == 0 && (if (zr x.1 a).1 == (zr x.1 a).2 && ((zr x.1 b).1 == (zr x.1 b).2 && (decide (0 ≤ (zr x.1 a).1) && decide (0 < (zr x.1 b).1))) then zres k pc 0 ((zr x.1 a).1 % (zr x.1 b).1, (zr x.1 a).1 % (zr x.1 b).1) x st
      else (decide (0 < (zr x.1 b).1) || decide ((zr x.1 b).2 < 0)) && zres k pc 0 (zbd 0) x st))
  | _ => false
def zLrem (k : zK) (pc : Nat) (x : zs) : Bool := match x.2.2.1 with
  | b :: a :: st => a.1 == 1 && (b.1 == 1 && (if decide (0 ≤ (zr x.1 a).1) && decide (0 < (zr x.1 b).1) then zres k pc 1 (0, (zr x.1 b).2 - 1) x st
      else (decide (0 < (zr x.1 b).1) || decide ((zr x.1 b).2 < 0)) && zres k pc 1 (zbd 1) x st))
  | _ => false
/-- a narrower number: the same where it fits -/
def zNar (k : zK) (pc ti tg : Nat) (lo hi : Int) (x : zs) : Bool := match x.2.2.1 with
  | a :: st => a.1 == ti && (if decide (lo ≤ (zr x.1 a).1) && decide ((zr x.1 a).2 ≤ hi) then zpush k pc (tg, a.2) x st else zres k pc tg (lo, hi) x st)
  | _ => false
/-- bounds of a comparison -/
def zcl (a b : Int × Int) : Int × Int := (if decide (b.2 < a.1) then 1 else if decide (b.2 ≤ a.1) then 0 else -1, if decide (a.2 < b.1) then -1 else if decide (a.2 ≤ b.1) then 0 else 1)
def zLcmp (k : zK) (pc : Nat) (x : zs) : Bool := match x.2.2.1 with
  | b :: a :: st => a.1 == 1 && (b.1 == 1 && k pc (x.1 ++ [zcl (zr x.1 a) (zr x.1 b)], x.2.1, (0, x.1.length, 0) :: st, x.2.2.2.1,
      ([(x.1.length, 2)], b.2.1, a.2.1, a.2.2 - b.2.2 + 1) :: ([(x.1.length, 3)], a.2.1, b.2.1, b.2.2 - a.2.2) :: ([(x.1.length, 4)], a.2.1, b.2.1, b.2.2 - a.2.2 + 1) :: ([(x.1.length, 5)], b.2.1, a.2.1, a.2.2 - b.2.2) :: x.2.2.2.2))
  | _ => false
/-! bounds made narrower -/
def zset (en : zenv) (i : Nat) (lo hi : Int) : zenv := match en[i]? with
  | some q => en.set i (max q.1 lo, min q.2 hi)
  | none => en
/-- number i is at least number j and c -/
def zdif (en : zenv) (i j : Nat) (c : Int) : zenv := match en[i]?, en[j]? with
  | some p, some q => (en.set i (max p.1 (q.1 + c), p.2)).set j (if i == j then (max p.1 (q.1 + c), p.2) else (q.1, min q.2 (p.2 - c)))
  | _, _ => en
def zbad (en : zenv) : Bool := en.any (fun q => decide (q.2 < q.1))
/-- the condition is sure -/
def zsure (en : zenv) (q : Nat × Nat) : Bool := match en[q.1]? with
  | some b => (match Nat.ble 6 q.2 with
    | true => decide ((q.2 : Int) < b.1 + 100)
    | false => (match q.2 with
      | 0 => decide (0 ≤ b.1) && decide (b.2 ≤ 0)
      | 1 => decide (0 < b.1) || decide (b.2 < 0)
      | 2 => decide (b.2 < 0)
      | 3 => decide (0 ≤ b.1)
      | 4 => decide (0 < b.1)
      | 5 => decide (b.2 ≤ 0)
      | _ => false))
  | none => false
def zprop : List zfact → zenv → zenv
  | [], en => en
  | f :: r, en => (match f.1.all (zsure en) with
    | true => zprop r (zdif en f.2.1 f.2.2.1 f.2.2.2)
    | false => zprop r en)
/-- v without one number -/
def zne (en : zenv) (v : zv) (c : Int) : zenv := match en[v.2.1]? with
  | some q => en.set v.2.1 (if q.1 + v.2.2 == c then q.1 + 1 else q.1, if q.2 + v.2.2 == c then q.2 - 1 else q.2)
  | none => en
def zcond (r : ClassFile.Cond) (en : zenv) (a b : zv) : zenv := match r with
  | .lt => zdif en b.2.1 a.2.1 (a.2.2 - b.2.2 + 1)
  | .ge => zdif en a.2.1 b.2.1 (b.2.2 - a.2.2)
  | .gt => zdif en a.2.1 b.2.1 (b.2.2 - a.2.2 + 1)
  | .le => zdif en b.2.1 a.2.1 (a.2.2 - b.2.2)
  | .eq => zdif (zdif en a.2.1 b.2.1 (b.2.2 - a.2.2)) b.2.1 a.2.1 (a.2.2 - b.2.2)
  | .ne => zne (if (zr en b).1 == (zr en b).2 then zne en a (zr en b).1 else en) b (if (zr en a).1 == (zr en a).2 then (zr en a).1 else (zr en b).2 + 1)
def znot : ClassFile.Cond → ClassFile.Cond
  | .lt => .ge
  | .ge => .lt
  | .gt => .le
  | .le => .gt
  | .eq => .ne
  | .ne => .eq
def zgo1 (k : zK) (pc : Nat) (en : zenv) (fa : List zfact) (x : zs) (st : List zv) : Bool := zbad en || k pc (en, x.2.1, st, x.2.2.2.1, fa)
/-- two numbers that aren't equal -/
def zstr (fa : List zfact) (a b : zv) : List zfact := match fa with
  | [] => []
  | f :: r => (if f.1.isEmpty && (f.2.1 == a.2.1 && (f.2.2.1 == b.2.1 && f.2.2.2 == b.2.2 - a.2.2)) then [(([] : List (Nat × Nat)), f.2.1, f.2.2.1, f.2.2.2 + 1)] else []) ++
    ((if f.1.isEmpty && (f.2.1 == b.2.1 && (f.2.2.1 == a.2.1 && f.2.2.2 == a.2.2 - b.2.2)) then [(([] : List (Nat × Nat)), f.2.1, f.2.2.1, f.2.2.2 + 1)] else []) ++ zstr r a b)
def zfan (r : ClassFile.Cond) (fa : List zfact) (a b : zv) : List zfact := match r with
  | .ne => zstr fa a b ++ fa
  | .lt => if a.2.1 == 0 || b.2.1 == 0 then fa else ([], b.2.1, a.2.1, a.2.2 - b.2.2 + 1) :: fa
  | .ge => if a.2.1 == 0 || b.2.1 == 0 then fa else ([], a.2.1, b.2.1, b.2.2 - a.2.2) :: fa
  | .gt => if a.2.1 == 0 || b.2.1 == 0 then fa else ([], a.2.1, b.2.1, b.2.2 - a.2.2 + 1) :: fa
  | .le => if a.2.1 == 0 || b.2.1 == 0 then fa else ([], b.2.1, a.2.1, a.2.2 - b.2.2) :: fa
  | .eq => if a.2.1 == 0 || b.2.1 == 0 then fa else ([], a.2.1, b.2.1, b.2.2 - a.2.2) :: ([], b.2.1, a.2.1, a.2.2 - b.2.2) :: fa
def zIcmp (k : zK) (pc tgt : Nat) (r : ClassFile.Cond) (x : zs) : Bool := match x.2.2.1 with
  | b :: a :: st => a.1 == 0 && (b.1 == 0 && (zgo1 k tgt (zprop (zfan r x.2.2.2.2 a b) (zcond r x.1 a b)) (zfan r x.2.2.2.2 a b) x st && zgo1 k pc (zprop (zfan (znot r) x.2.2.2.2 a b) (zcond (znot r) x.1 a b)) (zfan (znot r) x.2.2.2.2 a b) x st))
  | _ => false
def zIf (k : zK) (pc tgt : Nat) (r : ClassFile.Cond) (x : zs) : Bool := match x.2.2.1 with
  | a :: st => a.1 == 0 && (zgo1 k tgt (zprop x.2.2.2.2 (zcond r x.1 a (0, 0, 0))) x.2.2.2.2 x st && zgo1 k pc (zprop x.2.2.2.2 (zcond (znot r) x.1 a (0, 0, 0))) x.2.2.2.2 x st)
  | _ => false
/-! ### the heap -/
def zArr (KS : List zk) (v : zv) : Option (Nat × Nat × List zt) := match v.1 with
  | k + 2 => (match KS[k]? with
    | some (.inl d) => some d
    | _ => none)
  | _ => none
def zjn : List zt → Int × Int
  | [] => (0, 0)
  | [q] => q.2
  | q :: r => (min q.2.1 (zjn r).1, max q.2.2 (zjn r).2)
def zsl (el : List zt) (lo hi : Int) : List zt := match el with
  | [q] => [q]
  | _ => (el.drop lo.toNat).take (hi - lo + 1).toNat
def zix (n : Nat) (b : Int × Int) : Bool := decide (0 ≤ b.1) && (decide (b.1 ≤ b.2) && decide (b.2 < (n : Int)))
def zlook (me : zmem) (kd f : Nat) : Option zv := match me.find? (fun q => match Nat.beq q.2.1 f with | true => Nat.beq q.1 kd | false => false) with
  | some q => some q.2.2
  | none => none
def zALd (KS : List zk) (uq : List Nat) (k : zK) (pc tg : Nat) (ts : List Nat) (x : zs) : Bool := match x.2.2.1 with
  | i :: a :: st => i.1 == 0 && (match zArr KS a with
    | some d => ts.contains d.1 && (zix d.2.1 (zr x.1 i) && (decide (d.2.2.length = 1) || decide (d.2.2.length = d.2.1)) && (
      if zTA.contains (a.1 - 2) && (uq.contains (a.1 - 2) && ((zr x.1 i).1 == (zr x.1 i).2 && (d.1 == 0 || (d.1 == 1 || d.1 == 3)))) then (match zlook x.2.2.2.1 (a.1 - 2) (1000 + (zr x.1 i).1.toNat) with
        | some v => v.1 == tg && zpush k pc v x st
        | none => k pc (x.1 ++ [zjn (zsl d.2.2 (zr x.1 i).1 (zr x.1 i).2)], x.2.1, (tg, x.1.length, 0) :: st, (a.1 - 2, 1000 + (zr x.1 i).1.toNat, (tg, x.1.length, 0)) :: x.2.2.2.1, x.2.2.2.2))
      else zres k pc tg (zjn (zsl d.2.2 (zr x.1 i).1 (zr x.1 i).2)) x st))
    | none => false)
  | _ => false
def zALdR (KS : List zk) (k : zK) (pc : Nat) (x : zs) : Bool := match x.2.2.1 with
  | i :: a :: st => i.1 == 0 && (match zArr KS a with
    | some (4, n, [q]) => zix n (zr x.1 i) && (Nat.ble 2 q.1 && zpush k pc (q.1, 0, 0) x st)
    | _ => false)
  | _ => false
/-- behind a store -/
def zASt2 (uq : List Nat) (wq : List (Nat × Nat)) (k : zK) (pc kd t : Nat) (b : Int × Int) (v : zv) (x : zs) (st : List zv) : Bool :=
  if zTA.contains kd then (t == 0 || (t == 1 || t == 3)) && (uq.contains kd && ((List.range (b.2 - b.1 + 1).toNat).all (fun j => wq.contains (kd, 1000 + (b.1.toNat + j))) &&
    k pc (x.1, x.2.1, st, (if b.1 == b.2 then [(kd, 1000 + b.1.toNat, v)] else []) ++ x.2.2.2.1.filter (fun q => !(q.1 == kd) || (b.1 == b.2 && !(q.2.1 == 1000 + b.1.toNat))), x.2.2.2.2)))
  else k pc (x.1, x.2.1, st, x.2.2.2)
def zASt (KS : List zk) (uq NS : List Nat) (wq : List (Nat × Nat)) (k : zK) (pc tg : Nat) (ts : List Nat) (x : zs) : Bool := match x.2.2.1 with
  | v :: i :: a :: st => i.1 == 0 && (v.1 == tg && (!(NS.contains (a.1 - 2)) && (match zArr KS a with
    | some d => ts.contains d.1 && (zix d.2.1 (zr x.1 i) && ((decide (d.2.2.length = 1) || decide (d.2.2.length = d.2.1)) && (
        let b := if d.1 == 2 then ((-128 : Int), (127 : Int)) else zr x.1 v
        (!(d.1 == 1) || (decide (0 ≤ b.1) && decide (b.2 ≤ 1))) && ((zsl d.2.2 (zr x.1 i).1 (zr x.1 i).2).all (fun q => decide (q.2.1 ≤ b.1) && decide (b.2 ≤ q.2.2)) && zASt2 uq wq k pc (a.1 - 2) d.1 (zr x.1 i) v x st))))
    | none => false)))
  | _ => false
def zALen (KS : List zk) (k : zK) (pc : Nat) (x : zs) : Bool := match x.2.2.1 with
  | a :: st => (match zArr KS a with
    | some d => Nat.ble d.2.1 2147483647 && (Nat.ble d.1 4 && zpush k pc (0, 0, (d.2.1 : Int)) x st)
    | none => false)
  | _ => false
def zcut1 (me : zmem) (kd f : Nat) : zmem := me.filter (fun q => !(q.1 == kd && q.2.1 == f))
def zfld (KS : List zk) (kd f : Nat) : Option zt := match KS[kd]? with
  | some (.inr d) => d.2[f]?
  | _ => none
def zGet (KS : List zk) (uq : List Nat) (fl : List (Nat × Nat × Nat)) (k : zK) (pc idx : Nat) (x : zs) : Bool := match x.2.2.1 with
  | o :: st => (match fl.find? (fun q => q.1 == idx) with
    | some q => o.1 == q.2.1 + 2 && (match zfld KS q.2.1 q.2.2 with
      | some t => if Nat.ble 2 t.1 then zpush k pc (t.1, 0, 0) x st
        else if uq.contains q.2.1 then (match zlook x.2.2.2.1 q.2.1 q.2.2 with
          | some v => v.1 == t.1 && zpush k pc v x st
          | none => k pc (x.1 ++ [t.2], x.2.1, (t.1, x.1.length, 0) :: st, (q.2.1, q.2.2, (t.1, x.1.length, 0)) :: x.2.2.2.1, x.2.2.2.2))
        else zres k pc t.1 t.2 x st
      | none => false)
    | none => false)
  | _ => false
def zsubI (b : Int × Int) (t : Int × Int) : Bool := decide (t.1 ≤ b.1) && decide (b.2 ≤ t.2)
def zfitT (en : zenv) (v : zv) (t : zt) : Bool := v.1 == t.1 && (Nat.ble 2 t.1 || zsubI (zr en v) t.2)
def zPut (KS : List zk) (uq NS : List Nat) (fl wr : List (Nat × Nat × Nat)) (wq : List (Nat × Nat)) (k : zK) (pc idx : Nat) (x : zs) : Bool := match x.2.2.1 with
  | v :: o :: st => (match fl.find? (fun q => q.1 == idx) with
    | some q => o.1 == q.2.1 + 2 && (!(NS.contains q.2.1) && (wr.contains q && (wq.contains q.2 && (match zfld KS q.2.1 q.2.2 with
      | some t => (Nat.blt t.1 2 || q.2.1 == 5) && (zfitT x.1 v t && (if !(Nat.ble 2 t.1) && uq.contains q.2.1 then k pc (x.1, x.2.1, st, (q.2.1, q.2.2, v) :: zcut1 x.2.2.2.1 q.2.1 q.2.2, x.2.2.2.2)
        else k pc (x.1, x.2.1, st, zcut1 x.2.2.2.1 q.2.1 q.2.2, x.2.2.2.2)))
      | none => false))))
    | none => false)
  | _ => false
def zfl2 (KS : List zk) (kd f : Nat) : Option zt := match KS[kd]? with
  | some (.inr d) => d.2[f]?
  | some (.inl d) => if zTA.contains kd && (Nat.ble 1000 f && (Nat.blt (f - 1000) d.2.1 && (d.1 == 0 || (d.1 == 1 || d.1 == 3)))) then some (if d.1 == 3 then 1 else 0, (zel d.2.2 (f - 1000)).2) else none
  | none => none
/-! ### values of the fields that a contract names -/
def zfin (KS : List zk) (uq : List Nat) : List (Nat × Nat) → zenv → zmem → Option (zenv × zmem)
  | [], en, me => some (en, me)
  | q :: r, en, me => (match zlook me q.1 q.2 with
    | some _ => zfin KS uq r en me
    | none => if uq.contains q.1 then (match zfl2 KS q.1 q.2 with
        | some t => if Nat.ble 2 t.1 then none else zfin KS uq r (en ++ [t.2]) ((q.1, q.2, (t.1, en.length, 0)) :: me)
        | none => none) else none)
def zvals (me : zmem) : List (Nat × Nat) → Option (List zv)
  | [] => some []
  | q :: r => (match zlook me q.1 q.2, zvals me r with
    | some v, some l => some (v :: l)
    | _, _ => none)
/-- a fact over a list of values -/
def zfmap (vs : List zv) (f : zfact) : Option zfact := match vs[f.2.1]?, vs[f.2.2.1]? with
  | some a, some b => if f.1.all (fun q => match vs[q.1]? with
      | some v => v.2.2 == 0
      | none => false) then some (f.1.map (fun q => match vs[q.1]? with
      | some v => (v.2.1, q.2)
      | none => (0, 0)), a.2.1, b.2.1, f.2.2.2 + b.2.2 - a.2.2) else none
  | _, _ => none
def zroom (st : List zv) : Bool := Nat.ble ((st.map (fun v => if v.1 == 1 then 2 else 1)).sum) 8
def zfit2 (en : zenv) : List zv → List zt → Bool
  | [], [] => true
  | v :: vs, t :: ts => zfitT en v t && zfit2 en vs ts
  | _, _ => false
def ztag : Option zt → Nat → List zv
  | some t, n => if Nat.ble 2 t.1 then [(t.1, 0, 0)] else [(t.1, n, 0)]
  | none, _ => []
/-- the lower bound of a difference -/
def zdlo (en : zenv) (fa : List zfact) (a b : zv) (c : Int) : Bool :=
  (a.2.1 == b.2.1 && decide (c + b.2.2 ≤ a.2.2)) || (decide (c + (zr en b).2 ≤ (zr en a).1) ||
  fa.any (fun f => f.2.1 == a.2.1 && (f.2.2.1 == b.2.1 && (decide (c + b.2.2 ≤ f.2.2.2 + a.2.2) && f.1.all (zsure en)))))
/-- by way of a third number -/
def zdl2 (en : zenv) (fa : List zfact) (a b : zv) (c : Int) : Bool :=
  fa.any (fun f => f.2.1 == a.2.1 && (f.1.all (zsure en) && zdlo en fa (0, f.2.2.1, 0) b (c - f.2.2.2 - a.2.2)))
def zkind : Nat → ClassFile.Cond
  | 0 => .eq
  | 1 => .ne
  | 2 => .lt
  | 3 => .ge
  | 4 => .gt
  | 5 => .le
  | _ => .gt
def zkc (n : Nat) : Int := if Nat.ble n 5 then 0 else (n : Int) - 100
/-- the conditions assumed -/
def zass (vs : List zv) : List (Nat × Nat) → zenv → zenv
  | [], en => en
  | q :: r, en => zass vs r (match vs[q.1]? with
    | some v => zcond (zkind q.2) en v (0, 0, zkc q.2)
    | none => en)
/-- a condition that can't be -/
def zno (en : zenv) (v : zv) (k : Nat) : Bool := match en[v.2.1]? with
  | some b => (match Nat.ble 6 k with
    | true => decide (b.2 + v.2.2 + 100 ≤ (k : Int))
    | false => (match k with
      | 0 => decide (0 < b.1 + v.2.2) || decide (b.2 + v.2.2 < 0)
      | 2 => decide (0 ≤ b.1 + v.2.2)
      | 3 => decide (b.2 + v.2.2 < 0)
      | 4 => decide (b.2 + v.2.2 ≤ 0)
      | _ => false))
  | none => false
def znov (vs : List zv) (en : zenv) (q : Nat × Nat) : Bool := match vs[q.1]? with
  | some v => zno en v q.2
  | none => false
def zfok (vs : List zv) (en : zenv) (fa : List zfact) (f : zfact) : Bool := match vs[f.2.1]?, vs[f.2.2.1]? with
  | some a, some b => zdlo en [] a b f.2.2.2 || (let en0 := zass vs f.1 en; zbad en0 || (zdlo en0 [] a b f.2.2.2 || (let en1 := zprop fa en0; zbad en1 || (zdlo en1 fa a b f.2.2.2 || zdl2 en1 fa a b f.2.2.2))))
  | _, _ => false
/-- the fact itself, in other numbers -/
def zsamec (vs : List zv) (h q : Nat × Nat) : Bool := match Nat.beq q.2 h.2 with
  | true => (match vs[q.1]? with
    | some v => Nat.beq v.2.1 h.1 && decide (v.2.2 = 0)
    | none => false)
  | false => false
def zsame (vs : List zv) (en : zenv) (fc : List (Nat × Nat)) (a b : zv) (c : Int) (g : zfact) : Bool := match Nat.beq g.2.1 a.2.1 with
  | true => Nat.beq g.2.2.1 b.2.1 && (decide (c + b.2.2 ≤ g.2.2.2 + a.2.2) && g.1.all (fun h => zsure en h || fc.any (zsamec vs h)))
  | false => false
def zskip (p : zfact → Bool) : List zfact → Option (List zfact)
  | [] => none
  | g :: s => (match p g with
    | true => some s
    | false => zskip p s)
/-- all facts, mostly in their order -/
def zfall (vs : List zv) (en : zenv) (fa : List zfact) : List zfact → List zfact → Bool
  | [], _ => true
  | f :: r, s => (match f.1.any (znov vs en) with
    | true => zfall vs en fa r s
    | false => (match vs[f.2.1]?, vs[f.2.2.1]? with
      | some a, some b => (match zskip (zsame vs en f.1 a b f.2.2.2) s with
        | some s1 => zfall vs en fa r s1
        | none => zfok vs en fa f && zfall vs en fa r s)
      | _, _ => false))
def zids {α : Type} : Nat → List α → List zv
  | _, [] => []
  | n, _ :: r => (0, n, 0) :: zids (n + 1) r
def zfout (KS : List zk) : Nat → List (Nat × Nat × Int × Int) → zmem
  | _, [] => []
  | n, q :: r => (match zfl2 KS q.1 q.2.1 with
    | some t => (q.1, q.2.1, (t.1, n, 0)) :: zfout KS (n + 1) r
    | none => zfout KS (n + 1) r)
def zrenv : Option zt → zenv
  | some t => if Nat.ble 2 t.1 then [(0, 0)] else [t.2]
  | none => []
/-- places bear no number -/
def zrz (vs : List zv) : Bool := vs.all (fun v => Nat.blt v.1 2 || (v.2.1 == 0 && v.2.2 == 0))
/-- facts one behind another -/
def ztr (nf fa : List zfact) : List zfact := nf.flatMap (fun f => fa.filterMap (fun g => if Nat.ble g.1.length 2 && (g.2.1 == f.2.2.1 && (!(f.2.2.1 == 0) && !(g.2.2.1 == 0))) then some (f.1 ++ g.1, f.2.1, g.2.2.1, f.2.2.2 + g.2.2.2) else none))
def zCall2 (KS : List zk) (k : zK) (pc : Nat) (con : zcon) (x : zs) (vs st : List zv) (en : zenv) (me : zmem) (fv : List zv) : Bool :=
  let nf := con.2.2.2.2.1.filterMap (zfmap ((0, 0, 0) :: vs ++ fv ++ zids en.length con.2.2.2.1 ++ ztag con.2.1 (en.length + con.2.2.2.1.length)))
  k pc (zprop nf (en ++ con.2.2.2.1.map (fun q => q.2.2) ++ zrenv con.2.1), x.2.1, ztag con.2.1 (en.length + con.2.2.2.1.length) ++ st,
    zfout KS en.length con.2.2.2.1 ++ me.filter (fun q => !(con.2.2.2.2.2.1.contains (q.1, q.2.1))), nf ++ (ztr nf x.2.2.2.2 ++ x.2.2.2.2))
def zCall1 (KS : List zk) (uq : List Nat) (wq : List (Nat × Nat)) (k : zK) (pc : Nat) (con : zcon) (x : zs) : Bool :=
  zroom (x.2.2.1.drop con.1.length) && (zrz (x.2.2.1.take con.1.length) && (zfit2 x.1 ((x.2.2.1.take con.1.length).reverse) con.1 && (con.2.2.2.2.2.1.all (fun q => wq.contains q) && (match zfin KS uq con.2.2.1 x.1 x.2.2.2.1 with
    | some em => (match zvals em.2 con.2.2.1 with
      | some fv => zfall ((0, 0, 0) :: ((x.2.2.1.take con.1.length).reverse) ++ fv) em.1 x.2.2.2.2 con.2.2.2.2.2.2 x.2.2.2.2 && zCall2 KS k pc con x ((x.2.2.1.take con.1.length).reverse) (x.2.2.1.drop con.1.length) em.1 em.2 fv
      | none => false)
    | none => false))))
def zfits1 (en : zenv) (st : List zv) (con : zcon) : Bool := zfit2 en ((st.take con.1.length).reverse) con.1
def zCall (KS : List zk) (uq : List Nat) (wq : List (Nat × Nat)) (cs : List (Nat × Nat × zcon)) (k : zK) (pc kd idx : Nat) (x : zs) : Bool := match cs.find? (fun q => q.1 == kd && (q.2.1 == idx && zfits1 x.1 x.2.2.1 q.2.2)) with
  | some q => zCall1 KS uq wq k pc q.2.2 x
  | none => false
/-! ### ends -/
def zpers (n : Nat) : List zv := zids 0 (List.replicate n ())
def zRet (con : zcon) (x : zs) : Bool := zfit2 x.1 x.2.2.1 con.2.1.toList && (zrz x.2.2.1 && (match zvals x.2.2.2.1 (con.2.2.2.1.map (fun q => (q.1, q.2.1))) with
  | some fv => (fv.zip con.2.2.2.1).all (fun q => zsubI (zr x.1 q.1) q.2.2.2) && zfall (zpers (1 + con.1.length + con.2.2.1.length) ++ fv ++ x.2.2.1) x.1 x.2.2.2.2 con.2.2.2.2.1 x.2.2.2.2
  | none => false))
/-! ### cuts -/
def zmv (np : Nat) (tv cv : zv) (acc : List zv) : Option (List zv) :=
  if Nat.ble 2 tv.1 then (if tv.1 == cv.1 then some acc else none)
  else if tv.1 == cv.1 then (if Nat.blt tv.2.1 np then (if tv.2.1 == cv.2.1 && tv.2.2 == cv.2.2 then some acc else none) else if tv.2.1 == np + acc.length && tv.2.2 == 0 then some (acc ++ [cv]) else none) else none
def zml (np : Nat) (lo : List (Nat × zv)) : List (Nat × zv) → List zv → Option (List zv)
  | [], acc => some acc
  | q :: r, acc => (match lo.find? (fun z => z.1 == q.1) with
    | some z => (match zmv np q.2 z.2 acc with
      | some acc1 => zml np lo r acc1
      | none => none)
    | none => none)
def zms (np : Nat) : List zv → List zv → List zv → Option (List zv)
  | [], [], acc => some acc
  | t :: ts, c :: cs, acc => (match zmv np t c acc with
    | some acc1 => zms np ts cs acc1
    | none => none)
  | _, _, _ => none
def zmm (np : Nat) (me : zmem) : zmem → List zv → Option (List zv)
  | [], acc => some acc
  | q :: r, acc => (match zlook me q.1 q.2.1 with
    | some v => (match (if Nat.blt q.2.2.1 2 then zmv np q.2.2 v acc else none) with
      | some acc1 => zmm np me r acc1
      | none => none)
    | none => none)
def zsubE (en : zenv) (vs : List zv) (te : zenv) : Bool := (vs.zip te).all (fun q => zsubI (zr en q.1) q.2)
def zadd1 (cs : List Int) (i : Nat) (c : Int) : List Int := match cs[i]? with
  | some d => cs.set i (d + c)
  | none => cs
def zaddl : List Int → List zv → List Int → Int → List Int × Int
  | c :: cs, v :: vs, acc, k => zaddl cs vs (zadd1 acc v.2.1 c) (k + c * v.2.2)
  | _, _, acc, k => (acc, k)
/-- a fact takes the place of a number that stands with a minus -/
def zelim (en : zenv) (fa : List zfact) (p : List Int × Int) : List Int × Int := fa.foldl (fun p f => match p.1[f.2.1]? with
  | some t => if decide (t < 0) && f.1.all (zsure en) && !(f.2.1 == f.2.2.1) then (zadd1 (p.1.set f.2.1 0) f.2.2.1 t, p.2 + t * f.2.2.2) else p
  | none => p) p
def zub : List Int → zenv → Int
  | c :: cs, q :: en => (if decide (0 ≤ c) then c * q.2 else c * q.1) + zub cs en
  | _, _ => 0
def zneg (n : Nat) (rk : List Int) : List Int := (rk.map (fun c => -c)) ++ List.replicate (n - rk.length) 0
/-- a first look at the locals, to be quick where a cut isn't the one -/
def zqk (en : zenv) (lo : List (Nat × zv)) (te : zenv) : List (Nat × zv) → Bool
  | [] => true
  | q :: r => (match lo.find? (fun z => z.1 == q.1) with
    | some z => Nat.ble 2 q.2.1 || (match te[q.2.2.1]? with
      | some b => zsubI (zr en z.2) b
      | none => false)
    | none => false) && zqk en lo te r
def zCut (KS : List zk) (uq : List Nat) (np : Nat) (src : Option (Int × List Int)) (T : zcut) (x : zs) : Bool := zqk x.1 x.2.1 T.2.1.1 T.2.1.2.1 && match zfin KS uq (T.2.1.2.2.2.1.map (fun q => (q.1, q.2.1))) x.1 x.2.2.2.1 with
  | some em => (match zml np x.2.1 T.2.1.2.1 [] with
    | some a1 => (match zms np T.2.1.2.2.1 x.2.2.1 a1 with
      | some a2 => (match zmm np em.2 T.2.1.2.2.2.1 a2 with
        | some sub => (let vs := zpers np ++ sub
          Nat.ble np x.1.length && (T.2.1.1.length == np + sub.length && (zsubE em.1 vs T.2.1.1 && (zfall vs em.1 x.2.2.2.2 T.2.1.2.2.2.2 x.2.2.2.2 && (match src with
          | none => true
          | some (c0, rk0) => Nat.ble rk0.length em.1.length && (let p := zaddl T.2.2.2 vs (zneg em.1.length rk0) (T.2.2.1 - c0); decide (zub p.1 em.1 + p.2 < 0) || (let p := zelim em.1 x.2.2.2.2 p; decide (zub p.1 em.1 + p.2 < 0))))))))
        | none => false)
      | none => false)
    | none => false)
  | none => false
def zrt : Option zt → Nat
  | none => 9
  | some t => min t.1 2
/-! ### all instructions -/
abbrev zC : Type := ByteArray × Nat × zcon × (List (Nat × Nat × Nat) × List (Nat × Nat × Nat)) × (List (Nat × Int) × List (Nat × Int) × List (Nat × Nat)) × List (Nat × Nat × zcon) × List zcut × List (Nat × List (Int × Int))
def zjmp (k : Nat → Bool) (pc : Nat) (off : Int) : Bool := decide (0 ≤ (pc : Int) + off) && k ((pc : Int) + off).toNat
def zSw (k : zK) (pc : Nat) (d lo hi : Int) (offs : List Int) (x : zs) : Bool := match x.2.2.1 with
  | a :: st => a.1 == 0 && (
    zjmp (fun t => zgo1 k t (zprop x.2.2.2.2 (zcond .lt x.1 a (0, 0, lo))) x.2.2.2.2 x st && zgo1 k t (zprop x.2.2.2.2 (zcond .gt x.1 a (0, 0, hi))) x.2.2.2.2 x st) pc d &&
    ((hi - lo + 1).toNat == offs.length && (List.range offs.length).all (fun j => match offs[j]? with
      | some o => zjmp (fun t => zgo1 k t (zprop x.2.2.2.2 (zcond .eq x.1 a (0, 0, lo + j))) x.2.2.2.2 x st) pc o
      | none => false)))
  | _ => false
def zLdc (k1 : List (Nat × Int)) (k3 : List (Nat × Nat)) (k : zK) (pc i : Nat) (x : zs) : Bool := match k1.find? (fun q => q.1 == i) with
  | some q => zpush k pc (0, 0, q.2) x x.2.2.1
  | none => (match k3.find? (fun q => q.1 == i) with
    | some q => q.2 == 54 && zpush k pc (q.2 + 2, 0, 0) x x.2.2.1
    | none => false)
/-- a static row -/
def zGetS (k3 : List (Nat × Nat)) (k : zK) (pc i : Nat) (x : zs) : Bool := match k3.find? (fun q => q.1 == i) with
  | some q => !(q.2 == 54) && zpush k pc (q.2 + 2, 0, 0) x x.2.2.1
  | none => false
def zSR (k : Nat) : List Int := if k == 55 then [2, 1, 0, 0, 0, 2, 0] else if k == 56 then [10, 12, 9, 9, 99, 3, 10] else []
def zmm1 : List Int → Int × Int
  | [] => (1, 0)
  | a :: r => (match r with
    | [] => (a, a)
    | _ => (min a (zmm1 r).1, max a (zmm1 r).2))
def zIald (KS : List zk) (uq : List Nat) (k : zK) (pc : Nat) (x : zs) : Bool := match x.2.2.1 with
  | i :: a :: st => if Nat.ble 57 a.1 then i.1 == 0 && (zix (zSR (a.1 - 2)).length (zr x.1 i) && zres k pc 0 (zmm1 (((zSR (a.1 - 2)).drop (zr x.1 i).1.toNat).take ((zr x.1 i).2 - (zr x.1 i).1 + 1).toNat)) x st) else zALd KS uq k pc 0 [0] x
  | _ => false
def zins (KS : List zk) (uq NS : List Nat) (C : zC) (k : zK) (pc : Nat) (x : zs) : ClassFile.Instr → Bool
  | .iload_n i => zLoad k (pc + 1) 0 i.val x
  | .iload i => zLoad k (pc + 2) 0 i x
  | .lload_n i => zLoad k (pc + 1) 1 i.val x
  | .lload i => zLoad k (pc + 2) 1 i x
  | .aload_n i => zLoad k (pc + 1) 2 i.val x
  | .aload i => zLoad k (pc + 2) 2 i x
  | .istore_n i => zStore k C.2.1 (pc + 1) 0 i.val x
  | .istore i => zStore k C.2.1 (pc + 2) 0 i x
  | .lstore_n i => zStore k C.2.1 (pc + 1) 1 i.val x
  | .lstore i => zStore k C.2.1 (pc + 2) 1 i x
  | .astore_n i => zStore k C.2.1 (pc + 1) 2 i.val x
  | .astore i => zStore k C.2.1 (pc + 2) 2 i x
  | .iinc i n => zInc k C.2.1 (pc + 3) i n x
  | .iconst n => decide (-1 ≤ n) && (decide (n ≤ 5) && zpush k (pc + 1) (0, 0, n) x x.2.2.1)
  | .bipush n => decide (-128 ≤ n) && (decide (n ≤ 127) && zpush k (pc + 2) (0, 0, n) x x.2.2.1)
  | .sipush n => decide (-32768 ≤ n) && (decide (n ≤ 32767) && zpush k (pc + 3) (0, 0, n) x x.2.2.1)
  | .lconst n => zpush k (pc + 1) (1, 0, (n.val : Int)) x x.2.2.1
  | .ldc i => zLdc C.2.2.2.2.1.1 C.2.2.2.2.1.2.2 k (pc + 2) i x
  | .ldc_w i => zLdc C.2.2.2.2.1.1 [] k (pc + 3) i x
  | .ldc2_w i => (match C.2.2.2.2.1.2.1.find? (fun q => q.1 == i) with
    | some q => zpush k (pc + 3) (1, 0, q.2) x x.2.2.1
    | none => false)
  | .iadd => zAdd k (pc + 1) 0 x
  | .isub => zSub k (pc + 1) 0 x
  | .imul => zMul k (pc + 1) 0 x
  | .ladd => zAdd k (pc + 1) 1 x
  | .lsub => zSub k (pc + 1) 1 x
  | .lmul => zMul k (pc + 1) 1 x
  | .iand => zAnd k (pc + 1) x
  | .ior => zAny2 k (pc + 1) 0 0 x
  | .ixor => zAny2 k (pc + 1) 0 0 x
  | .ishl => zAny2 k (pc + 1) 0 0 x
  | .ishr => zAny2 k (pc + 1) 0 0 x
  | .iushr => zAny2 k (pc + 1) 0 0 x
  | .lshl => zAny2 k (pc + 1) 1 0 x
  | .land => zAny2 k (pc + 1) 1 1 x
  | .lor => zAny2 k (pc + 1) 1 1 x
  | .irem => zRem k (pc + 1) x
  | .lrem => zLrem k (pc + 1) x
  | .ldiv => zDiv k (pc + 1) 1 x
  | .i2l => (match x.2.2.1 with
    | a :: st => a.1 == 0 && zpush k (pc + 1) (1, a.2) x st
    | _ => false)
  | .l2i => zNar k (pc + 1) 1 0 (-2147483648) 2147483647 x
  | .i2b => zNar k (pc + 1) 0 0 (-128) 127 x
  | .i2s => zNar k (pc + 1) 0 0 (-32768) 32767 x
  | .dup => (match x.2.2.1 with
    | a :: st => !(a.1 == 1) && zpush k (pc + 1) a x (a :: st)
    | _ => false)
  | .dup2 => (match x.2.2.1 with
    | b :: a :: st => !(a.1 == 1) && (!(b.1 == 1) && zpush k (pc + 1) b x (a :: b :: a :: st))
    | _ => false)
  | .pop => (match x.2.2.1 with
    | a :: st => !(a.1 == 1) && k (pc + 1) (x.1, x.2.1, st, x.2.2.2)
    | _ => false)
  | .pop2 => (match x.2.2.1 with
    | a :: st => a.1 == 1 && k (pc + 1) (x.1, x.2.1, st, x.2.2.2)
    | _ => false)
  | .lcmp => zLcmp k (pc + 1) x
  | .if_icmp r off => zjmp (fun t => zIcmp k (pc + 3) t r x) pc off
  | .ifCond r off => zjmp (fun t => zIf k (pc + 3) t r x) pc off
  | .goto off => zjmp (fun t => k t x) pc off
  | .tableswitch d lo hi offs => zSw k pc d lo hi offs.toList x
  | .iaload => zIald KS uq k (pc + 1) x
  | .getstatic i => zGetS C.2.2.2.2.1.2.2 k (pc + 3) i x
  | .baload => zALd KS uq k (pc + 1) 0 [1, 2] x
  | .laload => zALd KS uq k (pc + 1) 1 [3] x
  | .aaload => zALdR KS k (pc + 1) x
  | .iastore => zASt KS uq NS C.2.2.1.2.2.2.2.2.1 k (pc + 1) 0 [0] x
  | .bastore => zASt KS uq NS C.2.2.1.2.2.2.2.2.1 k (pc + 1) 0 [1, 2] x
  | .lastore => zASt KS uq NS C.2.2.1.2.2.2.2.2.1 k (pc + 1) 1 [3] x
  | .arraylength => zALen KS k (pc + 1) x
  | .getfield i => zGet KS uq C.2.2.2.1.1 k (pc + 3) i x
  | .putfield i => zPut KS uq NS C.2.2.2.1.1 C.2.2.2.1.2 C.2.2.1.2.2.2.2.2.1 k (pc + 3) i x
  | .invokevirtual i => zCall KS uq C.2.2.1.2.2.2.2.2.1 C.2.2.2.2.2.1 k (pc + 3) 0 i x
  | .invokestatic i => zCall KS uq C.2.2.1.2.2.2.2.2.1 C.2.2.2.2.2.1 k (pc + 3) 1 i x
  | .invokespecial i => zCall KS uq C.2.2.1.2.2.2.2.2.1 C.2.2.2.2.2.1 k (pc + 3) 2 i x
  | .ireturn => zrt C.2.2.1.2.1 == 0 && zRet C.2.2.1 x
  | .lreturn => zrt C.2.2.1.2.1 == 1 && zRet C.2.2.1 x
  | .areturn => zrt C.2.2.1.2.1 == 2 && zRet C.2.2.1 x
  | .return_ => zrt C.2.2.1.2.1 == 9 && zRet C.2.2.1 x
  | _ => false
def zlen : ClassFile.Instr → Nat
  | .iload _ => 2
  | .lload _ => 2
  | .aload _ => 2
  | .istore _ => 2
  | .lstore _ => 2
  | .astore _ => 2
  | .bipush _ => 2
  | .ldc _ => 2
  | .iinc _ _ => 3
  | .sipush _ => 3
  | .ldc_w _ => 3
  | .ldc2_w _ => 3
  | .if_icmp _ _ => 3
  | .ifCond _ _ => 3
  | .goto _ => 3
  | .getfield _ => 3
  | .getstatic _ => 3
  | .putfield _ => 3
  | .invokevirtual _ => 3
  | .invokestatic _ => 3
  | .invokespecial _ => 3
  | .tableswitch _ _ _ _ => 0
  | _ => 1
/-- case by case: the number on top; every number of the bounds, or by ranges that cover them -/
def zcov : List (Int × Int) → Int → Int → Bool
  | [], lo, hi => decide (hi < lo)
  | q :: r, lo, hi => decide (q.1 ≤ lo) && zcov r (q.2 + 1) hi
def zspl (rg : List (Int × Int)) (f : zs → Bool) (x : zs) : Bool := match x.2.2.1 with
  | a :: st => a.1 == 0 && (match rg with
    | [] => decide ((zr x.1 a).2 - (zr x.1 a).1 ≤ 64) && (List.range ((zr x.1 a).2 - (zr x.1 a).1 + 1).toNat).all (fun j => let c := (zr x.1 a).1 + (j : Int); let en := zcond .eq x.1 a (0, 0, c); zbad en || f (en, x.2.1, (0, 0, c) :: st, x.2.2.2))
    | _ :: _ => zcov rg (zr x.1 a).1 (zr x.1 a).2 && rg.all (fun q => let en := zcond .le (zcond .ge x.1 a (0, 0, q.1)) a (0, 0, q.2); zbad en || f (en, x.2.1, x.2.2)))
  | [] => false
def zstep (KS : List zk) (uq NS : List Nat) (C : zC) (k : zK) (pc : Nat) (x : zs) : Bool := match decode C.1 pc with
  | .ok (ins, len) => (zlen ins == 0 || zlen ins == len) && zins KS uq NS C k pc x ins
  | _ => false
def zchk (KS : List zk) (uq NS : List Nat) (C : zC) (src : Option (Int × List Int)) : Nat → Nat → zs → Bool
  | 0, _, _ => false
  | n + 1, pc, x =>
    let k : zK := fun pc1 x1 => if C.2.2.2.2.2.2.1.any (fun T => Nat.beq T.1 pc1) then C.2.2.2.2.2.2.1.any (fun T => Nat.beq T.1 pc1 && zCut KS uq (1 + C.2.2.1.1.length + C.2.2.1.2.2.1.length) src T x1) else zchk KS uq NS C src n pc1 x1
    match C.2.2.2.2.2.2.2.find? (fun q => q.1 == pc) with
    | some q => zspl q.2 (fun x1 => zstep KS uq NS C k pc x1) x
    | none => zstep KS uq NS C k pc x
def zlb : List Int → zenv → Int
  | c :: cs, q :: en => (if decide (0 ≤ c) then c * q.1 else c * q.2) + zlb cs en
  | _, _ => 0
def zpos (i : Nat) (n : Nat) : List zt → List (Nat × zv)
  | [] => []
  | t :: r => (i, if Nat.ble 2 t.1 then (t.1, 0, 0) else (t.1, n, 0)) :: zpos (if t.1 == 1 then i + 2 else i + 1) (n + 1) r
def zinitm (KS : List zk) : Nat → List (Nat × Nat) → zmem
  | _, [] => []
  | n, q :: r => (match zfl2 KS q.1 q.2 with
    | some t => (q.1, q.2, (t.1, n, 0)) :: zinitm KS (n + 1) r
    | none => zinitm KS (n + 1) r)
def zie (t : zt) : Int × Int := if Nat.ble 2 t.1 then (0, 0) else t.2
def zif (KS : List zk) (q : Nat × Nat) : Int × Int := match zfl2 KS q.1 q.2 with
  | some t => t.2
  | none => (0, 0)
def zinit (KS : List zk) (con : zcon) : zs :=
  (zprop con.2.2.2.2.2.2 ((0, 0) :: con.1.map zie ++ con.2.2.1.map (zif KS)), zpos 0 1 con.1, [], zinitm KS (1 + con.1.length) con.2.2.1, con.2.2.2.2.2.2)
def zmeth (KS : List zk) (uq NS : List Nat) (C : zC) (fuel : Nat) : Bool :=
  C.2.2.1.2.2.1.all (fun q => uq.contains q.1 && (match zfl2 KS q.1 q.2 with
    | some t => Nat.blt t.1 2
    | none => false)) &&
  (C.2.2.2.2.2.2.1.all (fun T => decide (0 ≤ zlb T.2.2.2 T.2.1.1 + T.2.2.1) && Nat.ble T.2.2.2.length T.2.1.1.length && zchk KS uq NS C (some (T.2.2.1, T.2.2.2)) fuel T.1 T.2.1) &&
  zchk KS uq NS C none fuel 0 (zinit KS C.2.2.1))
