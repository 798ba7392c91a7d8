def zm1 (KS : List zk) (uq NS : List Nat) (C : zC) (fuel : Nat) (T : zcut) : Bool :=
  decide (0 ≤ zlb T.2.2.2 T.2.1.1 + T.2.2.1) && Nat.ble T.2.2.2.length T.2.1.1.length && zchk KS uq NS C (some (T.2.2.1, T.2.2.2)) fuel T.1 T.2.1
def zm0 (KS : List zk) (uq NS : List Nat) (C : zC) (fuel : Nat) : Bool :=
  C.2.2.1.2.2.1.all (fun q => uq.contains q.1 && (match zfl2 KS q.1 q.2 with
    | some t => Nat.blt t.1 2
    | none => false)) && zchk KS uq NS C none fuel 0 (zinit KS C.2.2.1)
theorem zmeth_by {KS : List zk} {uq NS : List Nat} {C : zC} {fuel : Nat} (h0 : zm0 KS uq NS C fuel = true) (h1 : ∀ T ∈ C.2.2.2.2.2.2.1, zm1 KS uq NS C fuel T = true) : zmeth KS uq NS C fuel = true := by
  unfold zm0 at h0; unfold zmeth
  rw [Bool.and_eq_true] at h0 ⊢
  refine ⟨h0.1, ?_⟩
  rw [Bool.and_eq_true]
  refine ⟨List.all_eq_true.mpr h1, h0.2⟩
/-! a quicker twin of the checker: the same answers -/
def zleB : Int → Int → Bool
  | .ofNat m, .ofNat n => Nat.ble m n
  | .ofNat _, .negSucc _ => false
  | .negSucc _, .ofNat _ => true
  | .negSucc m, .negSucc n => Nat.ble n m
theorem zleB_iff (a b : Int) : zleB a b = true ↔ a ≤ b := by
  match a, b with
  | .ofNat m, .ofNat n => exact ⟨fun h => Int.ofNat_le.mpr (Nat.le_of_ble_eq_true h), fun h => Nat.ble_eq_true_of_le (Int.ofNat_le.mp h)⟩
  | .ofNat m, .negSucc n =>
    have e1 : Int.ofNat m = (m : Int) := rfl
    have e2 : Int.negSucc n = -((n : Int) + 1) := rfl
    refine ⟨fun h => ?_, fun h => ?_⟩
    · have h : false = true := h
      cases h
    · rw [e1, e2] at h
      omega
  | .negSucc m, .ofNat n =>
    have e1 : Int.ofNat n = (n : Int) := rfl
    have e2 : Int.negSucc m = -((m : Int) + 1) := rfl
    refine ⟨fun _ => ?_, fun _ => rfl⟩
    rw [e1, e2]
    omega
  | .negSucc m, .negSucc n =>
    have e1 : Int.negSucc n = -((n : Int) + 1) := rfl
    have e2 : Int.negSucc m = -((m : Int) + 1) := rfl
    refine ⟨fun h => ?_, fun h => ?_⟩
    · have h := Nat.le_of_ble_eq_true (show Nat.ble n m = true from h)
      rw [e1, e2]
      omega
    · rw [e1, e2] at h
      exact Nat.ble_eq_true_of_le (show n ≤ m by omega)
def zltB (a b : Int) : Bool := match zleB b a with
  | true => false
  | false => true
theorem zleBf : zleB = fun a b => decide (a ≤ b) := by
  funext a b
  show zleB a b = decide (a ≤ b)
  by_cases h : a ≤ b
  · rw [(zleB_iff a b).mpr h]
    exact (decide_eq_true h).symm
  · cases e : zleB a b with
    | true => exact absurd ((zleB_iff a b).mp e) h
    | false => exact (decide_eq_false h).symm
theorem zltBf : zltB = fun a b => decide (a < b) := by
  funext a b
  show (match zleB b a with | true => false | false => true) = decide (a < b)
  cases e : zleB b a with
  | true =>
    have h := (zleB_iff b a).mp e
    exact (decide_eq_false (show ¬ a < b by omega)).symm
  | false =>
    have h : ¬ b ≤ a := fun h => by rw [(zleB_iff b a).mpr h] at e; cases e
    exact (decide_eq_true (show a < b by omega)).symm
theorem zset_self {α : Type} : ∀ {l : List α} {i : Nat} {a : α}, l[i]? = some a → l.set i a = l
  | [], _, _, _ => rfl
  | x :: l, 0, a, h => by
    have h : some x = some a := h
    cases h
    rfl
  | x :: l, i + 1, a, h => by
    have h : l[i]? = some a := h
    show x :: l.set i a = x :: l
    rw [zset_self h]
def zfitsF (tg : Nat) (lo hi : Int) : Bool := zleB ((zbd tg).1) (lo) && zleB (hi) ((zbd tg).2)
theorem zfitsF_eq : zfitsF = zfits := by
  delta zfitsF
  rw [zleBf]
  first | done | rfl
def zfitF (tg : Nat) (lo hi : Int) : Int × Int := if zfitsF tg lo hi then (lo, hi) else zbd tg
theorem zfitF_eq : zfitF = zfit := by
  delta zfitF
  rw [zfitsF_eq]
  first | done | rfl
def zIncF (k : zK) (nL pc i : Nat) (n : Int) (x : zs) : Bool := match x.2.1.find? (fun q => q.1 == i) with
  | some q => q.2.1 == 0 && (Nat.ble (i + 1) nL && (zfitsF 0 n n && (if zfitsF 0 ((zr x.1 q.2).1 + n) ((zr x.1 q.2).2 + n) then k pc (x.1, (i, (0, q.2.2.1, q.2.2.2 + n)) :: zdrop 0 i x.2.1, x.2.2) else k pc (x.1 ++ [zbd 0], (i, (0, x.1.length, 0)) :: zdrop 0 i x.2.1, x.2.2))))
  | none => false
theorem zIncF_eq : zIncF = zInc := by
  delta zIncF
  rw [zfitsF_eq]
  first | done | rfl
def zAddF (k : zK) (pc tg : Nat) (x : zs) : Bool := match x.2.2.1 with
  | b :: a :: st => a.1 == tg && (b.1 == tg && (
    let lo := (zr x.1 a).1 + (zr x.1 b).1; let hi := (zr x.1 a).2 + (zr x.1 b).2
    if zfitsF tg lo hi && b.2.1 == 0 then zpush k pc (tg, a.2.1, a.2.2 + b.2.2) x st
    else if zfitsF tg lo hi && a.2.1 == 0 then zpush k pc (tg, b.2.1, b.2.2 + a.2.2) x st
    else zres k pc tg (zfitF tg lo hi) x st))
  | _ => false
theorem zAddF_eq : zAddF = zAdd := by
  delta zAddF
  rw [zfitsF_eq, zfitF_eq]
  first | done | rfl
def zSubF (k : zK) (pc tg : Nat) (x : zs) : Bool := match x.2.2.1 with
  | b :: a :: st => a.1 == tg && (b.1 == tg && (
    let lo := (zr x.1 a).1 - (zr x.1 b).2; let hi := (zr x.1 a).2 - (zr x.1 b).1
    if zfitsF tg lo hi && b.2.1 == 0 then zpush k pc (tg, a.2.1, a.2.2 - b.2.2) x st
    else zres k pc tg (zfitF tg lo hi) x st))
  | _ => false
theorem zSubF_eq : zSubF = zSub := by
  delta zSubF
  rw [zfitsF_eq, zfitF_eq]
  first | done | rfl
def zMulF (k : zK) (pc tg : Nat) (x : zs) : Bool := match x.2.2.1 with
  | b :: a :: st => a.1 == tg && (b.1 == tg && (
    let p := zr x.1 a; let q := zr x.1 b
    zres k pc tg (zfitF tg (zmin4 (p.1 * q.1) (p.1 * q.2) (p.2 * q.1) (p.2 * q.2)) (zmax4 (p.1 * q.1) (p.1 * q.2) (p.2 * q.1) (p.2 * q.2))) x st))
  | _ => false
theorem zMulF_eq : zMulF = zMul := by
  delta zMulF
  rw [zfitF_eq]
  first | done | rfl
def zAndF (k : zK) (pc : Nat) (x : zs) : Bool := match x.2.2.1 with
  | b :: a :: st => a.1 == 0 && (b.1 == 0 && (
    if zleB (0) ((zr x.1 b).1) then zres k pc 0 (0, (zr x.1 b).2) x st
    else if zleB (0) ((zr x.1 a).1) then zres k pc 0 (0, (zr x.1 a).2) x st
    else zres k pc 0 (zbd 0) x st))
  | _ => false
theorem zAndF_eq : zAndF = zAnd := by
  delta zAndF
  rw [zleBf]
  first | done | rfl
def zDivF (k : zK) (pc tg : Nat) (x : zs) : Bool := match x.2.2.1 with
  | b :: a :: st => a.1 == tg && (b.1 == tg && ((zltB (0) ((zr x.1 b).1) || zltB ((zr x.1 b).2) (0)) && zres k pc tg (zbd tg) x st))
  | _ => false
theorem zDivF_eq : zDivF = zDiv := by
  delta zDivF
  rw [zltBf]
  first | done | rfl
def zRemF (k : zK) (pc : Nat) (x : zs) : Bool := match x.2.2.1 with
  | b :: a :: st => a.1 == 0 && (b.1 == 0 && (if (zr x.1 a).1 == (zr x.1 a).2 && ((zr x.1 b).1 == (zr x.1 b).2 && (zleB (0) ((zr x.1 a).1) && zltB (0) ((zr x.1 b).1))) then zres k pc 0 ((zr x.1 a).1 % (zr x.1 b).1, (zr x.1 a).1 % (zr x.1 b).1) x st
      else (zltB (0) ((zr x.1 b).1) || zltB ((zr x.1 b).2) (0)) && zres k pc 0 (zbd 0) x st))
  | _ => false
theorem zRemF_eq : zRemF = zRem := by
  delta zRemF
  rw [zleBf, zltBf]
  first | done | rfl
def zLremF (k : zK) (pc : Nat) (x : zs) : Bool := match x.2.2.1 with
  | b :: a :: st => a.1 == 1 && (b.1 == 1 && (if zleB (0) ((zr x.1 a).1) && zltB (0) ((zr x.1 b).1) then zres k pc 1 (0, (zr x.1 b).2 - 1) x st
      else (zltB (0) ((zr x.1 b).1) || zltB ((zr x.1 b).2) (0)) && zres k pc 1 (zbd 1) x st))
  | _ => false
theorem zLremF_eq : zLremF = zLrem := by
  delta zLremF
  rw [zleBf, zltBf]
  first | done | rfl
def zNarF (k : zK) (pc ti tg : Nat) (lo hi : Int) (x : zs) : Bool := match x.2.2.1 with
  | a :: st => a.1 == ti && (if zleB (lo) ((zr x.1 a).1) && zleB ((zr x.1 a).2) (hi) then zpush k pc (tg, a.2) x st else zres k pc tg (lo, hi) x st)
  | _ => false
theorem zNarF_eq : zNarF = zNar := by
  delta zNarF
  rw [zleBf]
  first | done | rfl
def zclF (a b : Int × Int) : Int × Int := (if zltB (b.2) (a.1) then 1 else if zleB (b.2) (a.1) then 0 else -1, if zltB (a.2) (b.1) then -1 else if zleB (a.2) (b.1) then 0 else 1)
theorem zclF_eq : zclF = zcl := by
  delta zclF
  rw [zleBf, zltBf]
  first | done | rfl
def zLcmpF (k : zK) (pc : Nat) (x : zs) : Bool := match x.2.2.1 with
  | b :: a :: st => a.1 == 1 && (b.1 == 1 && k pc (x.1 ++ [zclF (zr x.1 a) (zr x.1 b)], x.2.1, (0, x.1.length, 0) :: st, x.2.2.2.1,
      ([(x.1.length, 2)], b.2.1, a.2.1, a.2.2 - b.2.2 + 1) :: ([(x.1.length, 3)], a.2.1, b.2.1, b.2.2 - a.2.2) :: ([(x.1.length, 4)], a.2.1, b.2.1, b.2.2 - a.2.2 + 1) :: ([(x.1.length, 5)], b.2.1, a.2.1, a.2.2 - b.2.2) :: x.2.2.2.2))
  | _ => false
theorem zLcmpF_eq : zLcmpF = zLcmp := by
  delta zLcmpF
  rw [zclF_eq]
  first | done | rfl
def zdifF (en : zenv) (i j : Nat) (c : Int) : zenv := match en[i]?, en[j]? with
  | some p, some q => (match zleB (q.1 + c) p.1 with
    | true => (match zleB q.2 (p.2 - c) with
      | true => en
      | false => zdif en i j c)
    | false => zdif en i j c)
  | _, _ => en
theorem zdif_same {en : zenv} {i j : Nat} {c : Int} {p q : Int × Int} (hi : en[i]? = some p) (hj : en[j]? = some q) (h1 : q.1 + c ≤ p.1) (h2 : q.2 ≤ p.2 - c) : zdif en i j c = en := by
  have e : zdif en i j c = (en.set i (max p.1 (q.1 + c), p.2)).set j (if i == j then (max p.1 (q.1 + c), p.2) else (q.1, min q.2 (p.2 - c))) := by
    unfold zdif
    rw [hi, hj]
    first | done | rfl
  rw [e, show max p.1 (q.1 + c) = p.1 by omega, show min q.2 (p.2 - c) = q.2 by omega]
  have e1 : en.set i (p.1, p.2) = en := zset_self hi
  rw [e1]
  by_cases hij : i = j
  · subst hij
    rw [if_pos (beq_self_eq_true i)]
    exact e1
  · rw [if_neg (fun h => hij (eq_of_beq h))]
    exact zset_self hj
theorem zdifF_eq : zdifF = zdif := by
  funext en i j c
  cases hi : en[i]? with
  | none =>
    unfold zdifF zdif
    rw [hi]
    first | done | (cases en[j]? <;> rfl)
  | some p => cases hj : en[j]? with
    | none =>
      unfold zdifF zdif
      rw [hi, hj]
      first | done | rfl
    | some q =>
      have e : zdifF en i j c = (match zleB (q.1 + c) p.1 with | true => (match zleB q.2 (p.2 - c) with | true => en | false => zdif en i j c) | false => zdif en i j c) := by
        unfold zdifF
        rw [hi, hj]
        first | done | rfl
      rw [e]
      cases h1 : zleB (q.1 + c) p.1 with
      | false => rfl
      | true => cases h2 : zleB q.2 (p.2 - c) with
        | false => rfl
        | true => exact (zdif_same hi hj ((zleB_iff _ _).mp h1) ((zleB_iff _ _).mp h2)).symm
def zbadF : zenv → Bool
  | [] => false
  | q :: r => (match zltB q.2 q.1 with
    | true => true
    | false => zbadF r)
theorem zbadF_eq : zbadF = zbad := by
  funext en
  induction en with
  | nil => rfl
  | cons q r ih =>
    have h1 : zbadF (q :: r) = (match zltB q.2 q.1 with | true => true | false => zbadF r) := rfl
    have h2 : zbad (q :: r) = (decide (q.2 < q.1) || zbad r) := rfl
    rw [h1, h2, ih, zltBf]
    show (match decide (q.2 < q.1) with | true => true | false => zbad r) = (decide (q.2 < q.1) || zbad r)
    cases decide (q.2 < q.1) <;> rfl
def zsureF (en : zenv) (q : Nat × Nat) : Bool := match en[q.1]? with
  | some b => (match Nat.ble 6 q.2 with
    | true => zltB ((q.2 : Int)) (b.1 + 100)
    | false => (match q.2 with
      | 0 => zleB (0) (b.1) && zleB (b.2) (0)
      | 1 => zltB (0) (b.1) || zltB (b.2) (0)
      | 2 => zltB (b.2) (0)
      | 3 => zleB (0) (b.1)
      | 4 => zltB (0) (b.1)
      | 5 => zleB (b.2) (0)
      | _ => false))
  | none => false
theorem zsureF_eq : zsureF = zsure := by
  delta zsureF
  rw [zleBf, zltBf]
  first | done | rfl
def zpropF : List zfact → zenv → zenv
  | [], en => en
  | f :: r, en => (match f.1.all (zsureF en) with
    | true => zpropF r (zdifF en f.2.1 f.2.2.1 f.2.2.2)
    | false => zpropF r en)
theorem zpropF_eq : zpropF = zprop := by
  funext fa
  induction fa with
  | nil =>
    funext en
    rfl
  | cons f r ih =>
    funext en
    have h : zpropF (f :: r) en = (match f.1.all (zsureF en) with | true => zpropF r (zdifF en f.2.1 f.2.2.1 f.2.2.2) | false => zpropF r en) := rfl
    rw [h, ih, zsureF_eq, zdifF_eq]
    first | done | rfl
def zcondF (r : ClassFile.Cond) (en : zenv) (a b : zv) : zenv := match r with
  | .lt => zdifF en b.2.1 a.2.1 (a.2.2 - b.2.2 + 1)
  | .ge => zdifF en a.2.1 b.2.1 (b.2.2 - a.2.2)
  | .gt => zdifF en a.2.1 b.2.1 (b.2.2 - a.2.2 + 1)
  | .le => zdifF en b.2.1 a.2.1 (a.2.2 - b.2.2)
  | .eq => zdifF (zdifF en a.2.1 b.2.1 (b.2.2 - a.2.2)) b.2.1 a.2.1 (a.2.2 - b.2.2)
  | .ne => zne (if (zr en b).1 == (zr en b).2 then zne en a (zr en b).1 else en) b (if (zr en a).1 == (zr en a).2 then (zr en a).1 else (zr en b).2 + 1)
theorem zcondF_eq : zcondF = zcond := by
  delta zcondF
  rw [zdifF_eq]
  first | done | rfl
def zgo1F (k : zK) (pc : Nat) (en : zenv) (fa : List zfact) (x : zs) (st : List zv) : Bool := zbadF en || k pc (en, x.2.1, st, x.2.2.2.1, fa)
theorem zgo1F_eq : zgo1F = zgo1 := by
  delta zgo1F
  rw [zbadF_eq]
  first | done | rfl
def zIcmpF (k : zK) (pc tgt : Nat) (r : ClassFile.Cond) (x : zs) : Bool := match x.2.2.1 with
  | b :: a :: st => a.1 == 0 && (b.1 == 0 && (zgo1F k tgt (zpropF (zfan r x.2.2.2.2 a b) (zcondF r x.1 a b)) (zfan r x.2.2.2.2 a b) x st && zgo1F k pc (zpropF (zfan (znot r) x.2.2.2.2 a b) (zcondF (znot r) x.1 a b)) (zfan (znot r) x.2.2.2.2 a b) x st))
  | _ => false
set_option maxRecDepth 100000 in
theorem zIcmpF_eq : zIcmpF = zIcmp := by
  delta zIcmpF
  rw [zpropF_eq, zcondF_eq, zgo1F_eq]
  first | done | rfl
def zIfF (k : zK) (pc tgt : Nat) (r : ClassFile.Cond) (x : zs) : Bool := match x.2.2.1 with
  | a :: st => a.1 == 0 && (zgo1F k tgt (zpropF x.2.2.2.2 (zcondF r x.1 a (0, 0, 0))) x.2.2.2.2 x st && zgo1F k pc (zpropF x.2.2.2.2 (zcondF (znot r) x.1 a (0, 0, 0))) x.2.2.2.2 x st)
  | _ => false
theorem zIfF_eq : zIfF = zIf := by
  delta zIfF
  rw [zpropF_eq, zcondF_eq, zgo1F_eq]
  first | done | rfl
def zixF (n : Nat) (b : Int × Int) : Bool := zleB (0) (b.1) && (zleB (b.1) (b.2) && zltB (b.2) ((n : Int)))
theorem zixF_eq : zixF = zix := by
  delta zixF
  rw [zleBf, zltBf]
  first | done | rfl
def zALdF (KS : List zk) (uq : List Nat) (k : zK) (pc tg : Nat) (ts : List Nat) (x : zs) : Bool := match x.2.2.1 with
  | i :: a :: st => i.1 == 0 && (match zArr KS a with
    | some d => ts.contains d.1 && (zixF d.2.1 (zr x.1 i) && (decide (d.2.2.length = 1) || decide (d.2.2.length = d.2.1)) && (
      if zTA.contains (a.1 - 2) && (uq.contains (a.1 - 2) && ((zr x.1 i).1 == (zr x.1 i).2 && (d.1 == 0 || (d.1 == 1 || d.1 == 3)))) then (match zlook x.2.2.2.1 (a.1 - 2) (1000 + (zr x.1 i).1.toNat) with
        | some v => v.1 == tg && zpush k pc v x st
        | none => k pc (x.1 ++ [zjn (zsl d.2.2 (zr x.1 i).1 (zr x.1 i).2)], x.2.1, (tg, x.1.length, 0) :: st, (a.1 - 2, 1000 + (zr x.1 i).1.toNat, (tg, x.1.length, 0)) :: x.2.2.2.1, x.2.2.2.2))
      else zres k pc tg (zjn (zsl d.2.2 (zr x.1 i).1 (zr x.1 i).2)) x st))
    | none => false)
  | _ => false
theorem zALdF_eq : zALdF = zALd := by
  delta zALdF
  rw [zixF_eq]
  first | done | rfl
def zALdRF (KS : List zk) (k : zK) (pc : Nat) (x : zs) : Bool := match x.2.2.1 with
  | i :: a :: st => i.1 == 0 && (match zArr KS a with
    | some (4, n, [q]) => zixF n (zr x.1 i) && (Nat.ble 2 q.1 && zpush k pc (q.1, 0, 0) x st)
    | _ => false)
  | _ => false
theorem zALdRF_eq : zALdRF = zALdR := by
  delta zALdRF
  rw [zixF_eq]
  first | done | rfl
def zAStF (KS : List zk) (uq NS : List Nat) (wq : List (Nat × Nat)) (k : zK) (pc tg : Nat) (ts : List Nat) (x : zs) : Bool := match x.2.2.1 with
  | v :: i :: a :: st => i.1 == 0 && (v.1 == tg && (!(NS.contains (a.1 - 2)) && (match zArr KS a with
    | some d => ts.contains d.1 && (zixF d.2.1 (zr x.1 i) && ((decide (d.2.2.length = 1) || decide (d.2.2.length = d.2.1)) && (
        let b := if d.1 == 2 then ((-128 : Int), (127 : Int)) else zr x.1 v
        (!(d.1 == 1) || (zleB (0) (b.1) && zleB (b.2) (1))) && ((zsl d.2.2 (zr x.1 i).1 (zr x.1 i).2).all (fun q => zleB (q.2.1) (b.1) && zleB (b.2) (q.2.2)) && zASt2 uq wq k pc (a.1 - 2) d.1 (zr x.1 i) v x st))))
    | none => false)))
  | _ => false
set_option maxRecDepth 100000 in
theorem zAStF_eq : zAStF = zASt := by
  delta zAStF
  rw [zleBf, zixF_eq]
  first | done | rfl
def zsubIF (b : Int × Int) (t : Int × Int) : Bool := zleB (t.1) (b.1) && zleB (b.2) (t.2)
theorem zsubIF_eq : zsubIF = zsubI := by
  delta zsubIF
  rw [zleBf]
  first | done | rfl
def zfitTF (en : zenv) (v : zv) (t : zt) : Bool := v.1 == t.1 && (Nat.ble 2 t.1 || zsubIF (zr en v) t.2)
theorem zfitTF_eq : zfitTF = zfitT := by
  delta zfitTF
  rw [zsubIF_eq]
  first | done | rfl
def zPutF (KS : List zk) (uq NS : List Nat) (fl wr : List (Nat × Nat × Nat)) (wq : List (Nat × Nat)) (k : zK) (pc idx : Nat) (x : zs) : Bool := match x.2.2.1 with
  | v :: o :: st => (match fl.find? (fun q => q.1 == idx) with
    | some q => o.1 == q.2.1 + 2 && (!(NS.contains q.2.1) && (wr.contains q && (wq.contains q.2 && (match zfld KS q.2.1 q.2.2 with
      | some t => (Nat.blt t.1 2 || q.2.1 == 5) && (zfitTF x.1 v t && (if !(Nat.ble 2 t.1) && uq.contains q.2.1 then k pc (x.1, x.2.1, st, (q.2.1, q.2.2, v) :: zcut1 x.2.2.2.1 q.2.1 q.2.2, x.2.2.2.2)
        else k pc (x.1, x.2.1, st, zcut1 x.2.2.2.1 q.2.1 q.2.2, x.2.2.2.2)))
      | none => false))))
    | none => false)
  | _ => false
theorem zPutF_eq : zPutF = zPut := by
  delta zPutF
  rw [zfitTF_eq]
  first | done | rfl
def zfit2F (en : zenv) : List zv → List zt → Bool
  | [], [] => true
  | v :: vs, t :: ts => zfitTF en v t && zfit2F en vs ts
  | _, _ => false
theorem zfit2F_eq : zfit2F = zfit2 := by
  funext en vs
  induction vs with
  | nil =>
    funext ts
    cases ts <;> rfl
  | cons v vs ih =>
    funext ts
    cases ts with
    | nil => rfl
    | cons t ts =>
      have h : zfit2F en (v :: vs) (t :: ts) = (zfitTF en v t && zfit2F en vs ts) := rfl
      rw [h, ih, zfitTF_eq]
      first | done | rfl
def zdloF (en : zenv) (fa : List zfact) (a b : zv) (c : Int) : Bool :=
  (a.2.1 == b.2.1 && zleB (c + b.2.2) (a.2.2)) || (zleB (c + (zr en b).2) ((zr en a).1) ||
  fa.any (fun f => f.2.1 == a.2.1 && (f.2.2.1 == b.2.1 && (zleB (c + b.2.2) (f.2.2.2 + a.2.2) && f.1.all (zsureF en)))))
theorem zdloF_eq : zdloF = zdlo := by
  delta zdloF
  rw [zleBf, zsureF_eq]
  first | done | rfl
def zdl2F (en : zenv) (fa : List zfact) (a b : zv) (c : Int) : Bool :=
  fa.any (fun f => f.2.1 == a.2.1 && (f.1.all (zsureF en) && zdloF en fa (0, f.2.2.1, 0) b (c - f.2.2.2 - a.2.2)))
theorem zdl2F_eq : zdl2F = zdl2 := by
  delta zdl2F
  rw [zsureF_eq, zdloF_eq]
  first | done | rfl
def zassF (vs : List zv) : List (Nat × Nat) → zenv → zenv
  | [], en => en
  | q :: r, en => zassF vs r (match vs[q.1]? with
    | some v => zcondF (zkind q.2) en v (0, 0, zkc q.2)
    | none => en)
theorem zassF_eq : zassF = zass := by
  funext vs cs
  induction cs with
  | nil =>
    funext en
    rfl
  | cons q r ih =>
    funext en
    have h : zassF vs (q :: r) en = zassF vs r (match vs[q.1]? with | some v => zcondF (zkind q.2) en v (0, 0, zkc q.2) | none => en) := rfl
    rw [h, ih, zcondF_eq]
    first | done | rfl
def znoF (en : zenv) (v : zv) (k : Nat) : Bool := match en[v.2.1]? with
  | some b => (match Nat.ble 6 k with
    | true => zleB (b.2 + v.2.2 + 100) ((k : Int))
    | false => (match k with
      | 0 => zltB (0) (b.1 + v.2.2) || zltB (b.2 + v.2.2) (0)
      | 2 => zleB (0) (b.1 + v.2.2)
      | 3 => zltB (b.2 + v.2.2) (0)
      | 4 => zleB (b.2 + v.2.2) (0)
      | _ => false))
  | none => false
theorem znoF_eq : znoF = zno := by
  delta znoF
  rw [zleBf, zltBf]
  first | done | rfl
def znovF (vs : List zv) (en : zenv) (q : Nat × Nat) : Bool := match vs[q.1]? with
  | some v => znoF en v q.2
  | none => false
theorem znovF_eq : znovF = znov := by
  delta znovF
  rw [znoF_eq]
  first | done | rfl
def zfokF (vs : List zv) (en : zenv) (fa : List zfact) (f : zfact) : Bool := match vs[f.2.1]?, vs[f.2.2.1]? with
  | some a, some b => zdloF en [] a b f.2.2.2 || (let en0 := zassF vs f.1 en; zbadF en0 || (zdloF en0 [] a b f.2.2.2 || (let en1 := zpropF fa en0; zbadF en1 || (zdloF en1 fa a b f.2.2.2 || zdl2F en1 fa a b f.2.2.2))))
  | _, _ => false
theorem zfokF_eq : zfokF = zfok := by
  delta zfokF
  rw [zbadF_eq, zpropF_eq, zdloF_eq, zdl2F_eq, zassF_eq]
  first | done | rfl
def zsameF (vs : List zv) (en : zenv) (fc : List (Nat × Nat)) (a b : zv) (c : Int) (g : zfact) : Bool := match Nat.beq g.2.1 a.2.1 with
  | true => Nat.beq g.2.2.1 b.2.1 && (zleB (c + b.2.2) (g.2.2.2 + a.2.2) && g.1.all (fun h => zsureF en h || fc.any (zsamec vs h)))
  | false => false
theorem zsameF_eq : zsameF = zsame := by
  delta zsameF
  rw [zleBf, zsureF_eq]
  first | done | rfl
def zfallF (vs : List zv) (en : zenv) (fa : List zfact) : List zfact → List zfact → Bool
  | [], _ => true
  | f :: r, s => (match f.1.any (znovF vs en) with
    | true => zfallF vs en fa r s
    | false => (match vs[f.2.1]?, vs[f.2.2.1]? with
      | some a, some b => (match zskip (zsameF vs en f.1 a b f.2.2.2) s with
        | some s1 => zfallF vs en fa r s1
        | none => zfokF vs en fa f && zfallF vs en fa r s)
      | _, _ => false))
theorem zfallF_eq : zfallF = zfall := by
  funext vs en fa l
  induction l with
  | nil =>
    funext s
    rfl
  | cons f r ih =>
    funext s
    have h : zfallF vs en fa (f :: r) s = (match f.1.any (znovF vs en) with
      | true => zfallF vs en fa r s
      | false => (match vs[f.2.1]?, vs[f.2.2.1]? with
        | some a, some b => (match zskip (zsameF vs en f.1 a b f.2.2.2) s with
          | some s1 => zfallF vs en fa r s1
          | none => zfokF vs en fa f && zfallF vs en fa r s)
        | _, _ => false)) := rfl
    rw [h, ih, znovF_eq, zsameF_eq, zfokF_eq]
    first | done | rfl
def zCall2F (KS : List zk) (k : zK) (pc : Nat) (con : zcon) (x : zs) (vs st : List zv) (en : zenv) (me : zmem) (fv : List zv) : Bool :=
  let nf := con.2.2.2.2.1.filterMap (zfmap ((0, 0, 0) :: vs ++ fv ++ zids en.length con.2.2.2.1 ++ ztag con.2.1 (en.length + con.2.2.2.1.length)))
  k pc (zpropF nf (en ++ con.2.2.2.1.map (fun q => q.2.2) ++ zrenv con.2.1), x.2.1, ztag con.2.1 (en.length + con.2.2.2.1.length) ++ st,
    zfout KS en.length con.2.2.2.1 ++ me.filter (fun q => !(con.2.2.2.2.2.1.contains (q.1, q.2.1))), nf ++ (ztr nf x.2.2.2.2 ++ x.2.2.2.2))
theorem zCall2F_eq : zCall2F = zCall2 := by
  delta zCall2F
  rw [zpropF_eq]
  first | done | rfl
def zCall1F (KS : List zk) (uq : List Nat) (wq : List (Nat × Nat)) (k : zK) (pc : Nat) (con : zcon) (x : zs) : Bool :=
  zroom (x.2.2.1.drop con.1.length) && (zrz (x.2.2.1.take con.1.length) && (zfit2F x.1 ((x.2.2.1.take con.1.length).reverse) con.1 && (con.2.2.2.2.2.1.all (fun q => wq.contains q) && (match zfin KS uq con.2.2.1 x.1 x.2.2.2.1 with
    | some em => (match zvals em.2 con.2.2.1 with
      | some fv => zfallF ((0, 0, 0) :: ((x.2.2.1.take con.1.length).reverse) ++ fv) em.1 x.2.2.2.2 con.2.2.2.2.2.2 x.2.2.2.2 && zCall2F KS k pc con x ((x.2.2.1.take con.1.length).reverse) (x.2.2.1.drop con.1.length) em.1 em.2 fv
      | none => false)
    | none => false))))
theorem zCall1F_eq : zCall1F = zCall1 := by
  delta zCall1F
  rw [zfit2F_eq, zfallF_eq, zCall2F_eq]
  first | done | rfl
def zfits1F (en : zenv) (st : List zv) (con : zcon) : Bool := zfit2F en ((st.take con.1.length).reverse) con.1
theorem zfits1F_eq : zfits1F = zfits1 := by
  delta zfits1F
  rw [zfit2F_eq]
  first | done | rfl
def zCallF (KS : List zk) (uq : List Nat) (wq : List (Nat × Nat)) (cs : List (Nat × Nat × zcon)) (k : zK) (pc kd idx : Nat) (x : zs) : Bool := match cs.find? (fun q => q.1 == kd && (q.2.1 == idx && zfits1F x.1 x.2.2.1 q.2.2)) with
  | some q => zCall1F KS uq wq k pc q.2.2 x
  | none => false
theorem zCallF_eq : zCallF = zCall := by
  delta zCallF
  rw [zCall1F_eq, zfits1F_eq]
  first | done | rfl
def zRetF (con : zcon) (x : zs) : Bool := zfit2F x.1 x.2.2.1 con.2.1.toList && (zrz x.2.2.1 && (match zvals x.2.2.2.1 (con.2.2.2.1.map (fun q => (q.1, q.2.1))) with
  | some fv => (fv.zip con.2.2.2.1).all (fun q => zsubIF (zr x.1 q.1) q.2.2.2) && zfallF (zpers (1 + con.1.length + con.2.2.1.length) ++ fv ++ x.2.2.1) x.1 x.2.2.2.2 con.2.2.2.2.1 x.2.2.2.2
  | none => false))
theorem zRetF_eq : zRetF = zRet := by
  delta zRetF
  rw [zsubIF_eq, zfit2F_eq, zfallF_eq]
  first | done | rfl
def zsubEF (en : zenv) (vs : List zv) (te : zenv) : Bool := (vs.zip te).all (fun q => zsubIF (zr en q.1) q.2)
theorem zsubEF_eq : zsubEF = zsubE := by
  delta zsubEF
  rw [zsubIF_eq]
  first | done | rfl
def zelimF (en : zenv) (fa : List zfact) (p : List Int × Int) : List Int × Int := fa.foldl (fun p f => match p.1[f.2.1]? with
  | some t => if zltB (t) (0) && f.1.all (zsureF en) && !(f.2.1 == f.2.2.1) then (zadd1 (p.1.set f.2.1 0) f.2.2.1 t, p.2 + t * f.2.2.2) else p
  | none => p) p
theorem zelimF_eq : zelimF = zelim := by
  delta zelimF
  rw [zltBf, zsureF_eq]
  first | done | rfl
def zqkF (en : zenv) (lo : List (Nat × zv)) (te : zenv) : List (Nat × zv) → Bool
  | [] => true
  | q :: r => (match lo.find? (fun z => z.1 == q.1) with
    | some z => Nat.ble 2 q.2.1 || (match te[q.2.2.1]? with
      | some b => zsubIF (zr en z.2) b
      | none => false)
    | none => false) && zqkF en lo te r
theorem zqkF_eq : zqkF = zqk := by
  funext en lo te l
  induction l with
  | nil => rfl
  | cons q r ih =>
    have h : zqkF en lo te (q :: r) = ((match lo.find? (fun z => z.1 == q.1) with
      | some z => Nat.ble 2 q.2.1 || (match te[q.2.2.1]? with
        | some b => zsubIF (zr en z.2) b
        | none => false)
      | none => false) && zqkF en lo te r) := rfl
    rw [h, ih, zsubIF_eq]
    first | done | rfl
def zCutF (KS : List zk) (uq : List Nat) (np : Nat) (src : Option (Int × List Int)) (T : zcut) (x : zs) : Bool := zqkF x.1 x.2.1 T.2.1.1 T.2.1.2.1 && match zfin KS uq (T.2.1.2.2.2.1.map (fun q => (q.1, q.2.1))) x.1 x.2.2.2.1 with
  | some em => (match zml np x.2.1 T.2.1.2.1 [] with
    | some a1 => (match zms np T.2.1.2.2.1 x.2.2.1 a1 with
      | some a2 => (match zmm np em.2 T.2.1.2.2.2.1 a2 with
        | some sub => (let vs := zpers np ++ sub
          Nat.ble np x.1.length && (T.2.1.1.length == np + sub.length && (zsubEF em.1 vs T.2.1.1 && (zfallF vs em.1 x.2.2.2.2 T.2.1.2.2.2.2 x.2.2.2.2 && (match src with
          | none => true
          | some (c0, rk0) => Nat.ble rk0.length em.1.length && (let p := zaddl T.2.2.2 vs (zneg em.1.length rk0) (T.2.2.1 - c0); zltB (zub p.1 em.1 + p.2) (0) || (let p := zelimF em.1 x.2.2.2.2 p; zltB (zub p.1 em.1 + p.2) (0))))))))
        | none => false)
      | none => false)
    | none => false)
  | none => false
set_option maxRecDepth 100000 in
theorem zCutF_eq : zCutF = zCut := by
  delta zCutF
  rw [zltBf, zfallF_eq, zsubEF_eq, zelimF_eq, zqkF_eq]
  first | done | rfl
def zjmpF (k : Nat → Bool) (pc : Nat) (off : Int) : Bool := zleB (0) ((pc : Int) + off) && k ((pc : Int) + off).toNat
theorem zjmpF_eq : zjmpF = zjmp := by
  delta zjmpF
  rw [zleBf]
  first | done | rfl
def zSwF (k : zK) (pc : Nat) (d lo hi : Int) (offs : List Int) (x : zs) : Bool := match x.2.2.1 with
  | a :: st => a.1 == 0 && (
    zjmpF (fun t => zgo1F k t (zpropF x.2.2.2.2 (zcondF .lt x.1 a (0, 0, lo))) x.2.2.2.2 x st && zgo1F k t (zpropF x.2.2.2.2 (zcondF .gt x.1 a (0, 0, hi))) x.2.2.2.2 x st) pc d &&
    ((hi - lo + 1).toNat == offs.length && (List.range offs.length).all (fun j => match offs[j]? with
      | some o => zjmpF (fun t => zgo1F k t (zpropF x.2.2.2.2 (zcondF .eq x.1 a (0, 0, lo + j))) x.2.2.2.2 x st) pc o
      | none => false)))
  | _ => false
theorem zSwF_eq : zSwF = zSw := by
  delta zSwF
  rw [zpropF_eq, zcondF_eq, zgo1F_eq, zjmpF_eq]
  first | done | rfl
def zIaldF (KS : List zk) (uq : List Nat) (k : zK) (pc : Nat) (x : zs) : Bool := match x.2.2.1 with
  | i :: a :: st => if Nat.ble 57 a.1 then i.1 == 0 && (zixF (zSR (a.1 - 2)).length (zr x.1 i) && zres k pc 0 (zmm1 (((zSR (a.1 - 2)).drop (zr x.1 i).1.toNat).take ((zr x.1 i).2 - (zr x.1 i).1 + 1).toNat)) x st) else zALdF KS uq k pc 0 [0] x
  | _ => false
theorem zIaldF_eq : zIaldF = zIald := by
  delta zIaldF
  rw [zixF_eq, zALdF_eq]
  first | done | rfl
def zinsF (KS : List zk) (uq NS : List Nat) (C : zC) (k : zK) (pc : Nat) (x : zs) : ClassFile.Instr → Bool
  | .iload_n i => zLoad k (pc + 1) 0 i.val x
  | .iload i => zLoad k (pc + 2) 0 i x
  | .lload_n i => zLoad k (pc + 1) 1 i.val x
  | .lload i => zLoad k (pc + 2) 1 i x
  | .aload_n i => zLoad k (pc + 1) 2 i.val x
  | .aload i => zLoad k (pc + 2) 2 i x
  | .istore_n i => zStore k C.2.1 (pc + 1) 0 i.val x
  | .istore i => zStore k C.2.1 (pc + 2) 0 i x
  | .lstore_n i => zStore k C.2.1 (pc + 1) 1 i.val x
  | .lstore i => zStore k C.2.1 (pc + 2) 1 i x
  | .astore_n i => zStore k C.2.1 (pc + 1) 2 i.val x
  | .astore i => zStore k C.2.1 (pc + 2) 2 i x
  | .iinc i n => zIncF k C.2.1 (pc + 3) i n x
  | .iconst n => zleB (-1) (n) && (zleB (n) (5) && zpush k (pc + 1) (0, 0, n) x x.2.2.1)
  | .bipush n => zleB (-128) (n) && (zleB (n) (127) && zpush k (pc + 2) (0, 0, n) x x.2.2.1)
  | .sipush n => zleB (-32768) (n) && (zleB (n) (32767) && zpush k (pc + 3) (0, 0, n) x x.2.2.1)
  | .lconst n => zpush k (pc + 1) (1, 0, (n.val : Int)) x x.2.2.1
  | .ldc i => zLdc C.2.2.2.2.1.1 C.2.2.2.2.1.2.2 k (pc + 2) i x
  | .ldc_w i => zLdc C.2.2.2.2.1.1 [] k (pc + 3) i x
  | .ldc2_w i => (match C.2.2.2.2.1.2.1.find? (fun q => q.1 == i) with
    | some q => zpush k (pc + 3) (1, 0, q.2) x x.2.2.1
    | none => false)
  | .iadd => zAddF k (pc + 1) 0 x
  | .isub => zSubF k (pc + 1) 0 x
  | .imul => zMulF k (pc + 1) 0 x
  | .ladd => zAddF k (pc + 1) 1 x
  | .lsub => zSubF k (pc + 1) 1 x
  | .lmul => zMulF k (pc + 1) 1 x
  | .iand => zAndF k (pc + 1) x
  | .ior => zAny2 k (pc + 1) 0 0 x
  | .ixor => zAny2 k (pc + 1) 0 0 x
  | .ishl => zAny2 k (pc + 1) 0 0 x
  | .ishr => zAny2 k (pc + 1) 0 0 x
  | .iushr => zAny2 k (pc + 1) 0 0 x
  | .lshl => zAny2 k (pc + 1) 1 0 x
  | .land => zAny2 k (pc + 1) 1 1 x
  | .lor => zAny2 k (pc + 1) 1 1 x
  | .irem => zRemF k (pc + 1) x
  | .lrem => zLremF k (pc + 1) x
  | .ldiv => zDivF k (pc + 1) 1 x
  | .i2l => (match x.2.2.1 with
    | a :: st => a.1 == 0 && zpush k (pc + 1) (1, a.2) x st
    | _ => false)
  | .l2i => zNarF k (pc + 1) 1 0 (-2147483648) 2147483647 x
  | .i2b => zNarF k (pc + 1) 0 0 (-128) 127 x
  | .i2s => zNarF k (pc + 1) 0 0 (-32768) 32767 x
  | .dup => (match x.2.2.1 with
    | a :: st => !(a.1 == 1) && zpush k (pc + 1) a x (a :: st)
    | _ => false)
  | .dup2 => (match x.2.2.1 with
    | b :: a :: st => !(a.1 == 1) && (!(b.1 == 1) && zpush k (pc + 1) b x (a :: b :: a :: st))
    | _ => false)
  | .pop => (match x.2.2.1 with
    | a :: st => !(a.1 == 1) && k (pc + 1) (x.1, x.2.1, st, x.2.2.2)
    | _ => false)
  | .pop2 => (match x.2.2.1 with
    | a :: st => a.1 == 1 && k (pc + 1) (x.1, x.2.1, st, x.2.2.2)
    | _ => false)
  | .lcmp => zLcmpF k (pc + 1) x
  | .if_icmp r off => zjmpF (fun t => zIcmpF k (pc + 3) t r x) pc off
  | .ifCond r off => zjmpF (fun t => zIfF k (pc + 3) t r x) pc off
  | .goto off => zjmpF (fun t => k t x) pc off
  | .tableswitch d lo hi offs => zSwF k pc d lo hi offs.toList x
  | .iaload => zIaldF KS uq k (pc + 1) x
  | .getstatic i => zGetS C.2.2.2.2.1.2.2 k (pc + 3) i x
  | .baload => zALdF KS uq k (pc + 1) 0 [1, 2] x
  | .laload => zALdF KS uq k (pc + 1) 1 [3] x
  | .aaload => zALdRF KS k (pc + 1) x
  | .iastore => zAStF KS uq NS C.2.2.1.2.2.2.2.2.1 k (pc + 1) 0 [0] x
  | .bastore => zAStF KS uq NS C.2.2.1.2.2.2.2.2.1 k (pc + 1) 0 [1, 2] x
  | .lastore => zAStF KS uq NS C.2.2.1.2.2.2.2.2.1 k (pc + 1) 1 [3] x
  | .arraylength => zALen KS k (pc + 1) x
  | .getfield i => zGet KS uq C.2.2.2.1.1 k (pc + 3) i x
  | .putfield i => zPutF KS uq NS C.2.2.2.1.1 C.2.2.2.1.2 C.2.2.1.2.2.2.2.2.1 k (pc + 3) i x
  | .invokevirtual i => zCallF KS uq C.2.2.1.2.2.2.2.2.1 C.2.2.2.2.2.1 k (pc + 3) 0 i x
  | .invokestatic i => zCallF KS uq C.2.2.1.2.2.2.2.2.1 C.2.2.2.2.2.1 k (pc + 3) 1 i x
  | .invokespecial i => zCallF KS uq C.2.2.1.2.2.2.2.2.1 C.2.2.2.2.2.1 k (pc + 3) 2 i x
  | .ireturn => zrt C.2.2.1.2.1 == 0 && zRetF C.2.2.1 x
  | .lreturn => zrt C.2.2.1.2.1 == 1 && zRetF C.2.2.1 x
  | .areturn => zrt C.2.2.1.2.1 == 2 && zRetF C.2.2.1 x
  | .return_ => zrt C.2.2.1.2.1 == 9 && zRetF C.2.2.1 x
  | _ => false
set_option maxRecDepth 100000 in
theorem zinsF_eq : zinsF = zins := by
  delta zinsF
  rw [zleBf, zIncF_eq, zAddF_eq, zSubF_eq, zMulF_eq, zAndF_eq, zDivF_eq, zRemF_eq, zLremF_eq, zNarF_eq, zLcmpF_eq, zIcmpF_eq, zIfF_eq, zALdF_eq, zALdRF_eq, zAStF_eq, zPutF_eq, zCallF_eq, zRetF_eq, zjmpF_eq, zSwF_eq, zIaldF_eq]
  first | done | rfl
def zsplF (rg : List (Int × Int)) (f : zs → Bool) (x : zs) : Bool := match x.2.2.1 with
  | a :: st => a.1 == 0 && (match rg with
    | [] => zleB ((zr x.1 a).2 - (zr x.1 a).1) (64) && (List.range ((zr x.1 a).2 - (zr x.1 a).1 + 1).toNat).all (fun j => let c := (zr x.1 a).1 + (j : Int); let en := zcondF .eq x.1 a (0, 0, c); zbadF en || f (en, x.2.1, (0, 0, c) :: st, x.2.2.2))
    | _ :: _ => zcov rg (zr x.1 a).1 (zr x.1 a).2 && rg.all (fun q => let en := zcondF .le (zcondF .ge x.1 a (0, 0, q.1)) a (0, 0, q.2); zbadF en || f (en, x.2.1, x.2.2)))
  | [] => false
theorem zsplF_eq : zsplF = zspl := by
  delta zsplF
  rw [zleBf, zbadF_eq, zcondF_eq]
  first | done | rfl
def zstepF (KS : List zk) (uq NS : List Nat) (C : zC) (k : zK) (pc : Nat) (x : zs) : Bool := match pc with
  | 0 => (match decode C.1 0 with
    | .ok (ins, len) => (zlen ins == 0 || zlen ins == len) && zinsF KS uq NS C k 0 x ins
    | _ => false)
  | n + 1 => (match decode C.1 (n + 1) with
    | .ok (ins, len) => (zlen ins == 0 || zlen ins == len) && zinsF KS uq NS C k (n + 1) x ins
    | _ => false)
theorem zstepF_eq : zstepF = zstep := by
  funext KS uq NS C k pc x
  cases pc with
  | zero =>
    delta zstepF
    rw [zinsF_eq]
    first | done | rfl
  | succ n =>
    delta zstepF
    rw [zinsF_eq]
    first | done | rfl
def zchkF (KS : List zk) (uq NS : List Nat) (C : zC) (src : Option (Int × List Int)) : Nat → Nat → zs → Bool
  | 0, _, _ => false
  | n + 1, pc, x =>
    let k : zK := fun pc1 x1 => if C.2.2.2.2.2.2.1.any (fun T => Nat.beq T.1 pc1) then C.2.2.2.2.2.2.1.any (fun T => Nat.beq T.1 pc1 && zCutF KS uq (1 + C.2.2.1.1.length + C.2.2.1.2.2.1.length) src T x1) else zchkF KS uq NS C src n pc1 x1
    match C.2.2.2.2.2.2.2.find? (fun q => q.1 == pc) with
    | some q => zsplF q.2 (fun x1 => zstepF KS uq NS C k pc x1) x
    | none => zstepF KS uq NS C k pc x
theorem zchkF_eq : zchkF = zchk := by
  funext KS uq NS C src n
  induction n with
  | zero =>
    funext pc x
    rfl
  | succ n ih =>
    funext pc x
    have h : zchkF KS uq NS C src (n + 1) pc x = (let k : zK := fun pc1 x1 => if C.2.2.2.2.2.2.1.any (fun T => Nat.beq T.1 pc1) then C.2.2.2.2.2.2.1.any (fun T => Nat.beq T.1 pc1 && zCutF KS uq (1 + C.2.2.1.1.length + C.2.2.1.2.2.1.length) src T x1) else zchkF KS uq NS C src n pc1 x1
      match C.2.2.2.2.2.2.2.find? (fun q => q.1 == pc) with
      | some q => zsplF q.2 (fun x1 => zstepF KS uq NS C k pc x1) x
      | none => zstepF KS uq NS C k pc x) := rfl
    rw [h, ih, zCutF_eq, zsplF_eq, zstepF_eq]
    first | done | rfl
def zinitF (KS : List zk) (con : zcon) : zs :=
  (zpropF con.2.2.2.2.2.2 ((0, 0) :: con.1.map zie ++ con.2.2.1.map (zif KS)), zpos 0 1 con.1, [], zinitm KS (1 + con.1.length) con.2.2.1, con.2.2.2.2.2.2)
theorem zinitF_eq : zinitF = zinit := by
  delta zinitF
  rw [zpropF_eq]
  first | done | rfl
def zmethF (KS : List zk) (uq NS : List Nat) (C : zC) (fuel : Nat) : Bool :=
  C.2.2.1.2.2.1.all (fun q => uq.contains q.1 && (match zfl2 KS q.1 q.2 with
    | some t => Nat.blt t.1 2
    | none => false)) &&
  (C.2.2.2.2.2.2.1.all (fun T => zleB (0) (zlb T.2.2.2 T.2.1.1 + T.2.2.1) && Nat.ble T.2.2.2.length T.2.1.1.length && zchkF KS uq NS C (some (T.2.2.1, T.2.2.2)) fuel T.1 T.2.1) &&
  zchkF KS uq NS C none fuel 0 (zinitF KS C.2.2.1))
theorem zmethF_eq : zmethF = zmeth := by
  delta zmethF
  rw [zleBf, zchkF_eq, zinitF_eq]
  first | done | rfl
def zm1F (KS : List zk) (uq NS : List Nat) (C : zC) (fuel : Nat) (T : zcut) : Bool :=
  zleB (0) (zlb T.2.2.2 T.2.1.1 + T.2.2.1) && Nat.ble T.2.2.2.length T.2.1.1.length && zchkF KS uq NS C (some (T.2.2.1, T.2.2.2)) fuel T.1 T.2.1
theorem zm1F_eq : zm1F = zm1 := by
  delta zm1F
  rw [zleBf, zchkF_eq]
  first | done | rfl
def zm0F (KS : List zk) (uq NS : List Nat) (C : zC) (fuel : Nat) : Bool :=
  C.2.2.1.2.2.1.all (fun q => uq.contains q.1 && (match zfl2 KS q.1 q.2 with
    | some t => Nat.blt t.1 2
    | none => false)) && zchkF KS uq NS C none fuel 0 (zinitF KS C.2.2.1)
theorem zm0F_eq : zm0F = zm0 := by
  delta zm0F
  rw [zchkF_eq, zinitF_eq]
  first | done | rfl
theorem zqF {KS : List zk} {uq NS : List Nat} {C : zC} {fuel : Nat} (h : zmethF KS uq NS C fuel = true) : zmeth KS uq NS C fuel = true := by rw [← zmethF_eq]; exact h
theorem z1F {KS : List zk} {uq NS : List Nat} {C : zC} {fuel : Nat} {T : zcut} (h : zm1F KS uq NS C fuel T = true) : zm1 KS uq NS C fuel T = true := by rw [← zm1F_eq]; exact h
theorem z0F {KS : List zk} {uq NS : List Nat} {C : zC} {fuel : Nat} (h : zm0F KS uq NS C fuel = true) : zm0 KS uq NS C fuel = true := by rw [← zm0F_eq]; exact h
