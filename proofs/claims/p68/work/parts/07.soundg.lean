theorem zl1 {n : Nat} (h : ((1 : Nat) == 0 || (1 : Nat) == n) = true) : n = 1 := by
  have h : ((1 : Nat) == n) = true := h
  rw [beq_iff_eq] at h; exact h.symm
theorem zl2 {n : Nat} (h : ((2 : Nat) == 0 || (2 : Nat) == n) = true) : n = 2 := by
  have h : ((2 : Nat) == n) = true := h
  rw [beq_iff_eq] at h; exact h.symm
theorem zl3 {n : Nat} (h : ((3 : Nat) == 0 || (3 : Nat) == n) = true) : n = 3 := by
  have h : ((3 : Nat) == n) = true := h
  rw [beq_iff_eq] at h; exact h.symm
theorem zcov_ok : ∀ {rg : List (Int × Int)} {lo hi v : Int}, zcov rg lo hi = true → lo ≤ v → v ≤ hi → ∃ z ∈ rg, z.1 ≤ v ∧ v ≤ z.2
  | [], lo, hi, v, h, h1, h2 => by
    unfold zcov at h
    rw [decide_eq_true_eq] at h
    omega
  | q :: r, lo, hi, v, h, h1, h2 => by
    unfold zcov at h
    rw [Bool.and_eq_true, decide_eq_true_eq] at h
    by_cases c : v ≤ q.2
    · exact ⟨q, List.mem_cons_self, by omega, c⟩
    · obtain ⟨z, z1, z2⟩ := zcov_ok h.2 (show q.2 + 1 ≤ v by omega) h2
      exact ⟨z, List.mem_cons_of_mem _ z1, z2⟩
section ZM
variable {p : Program} {l : Launch} {e : Env} {R : Room} {s : State} {m : MethodId} {args : Array Value} {below : List Frame} {meth : Method} {c : Code} {cells slots : Nat} {Q : State → Prop}
variable {D : va_G} {cl : List vw_C} {A : Nat → Prop} {tys : List (ClassId × FieldType)} {KS : List zk} {uq NS : List Nat} {RC : String} {Psi : va_W → Prop} {ws0 : va_W} {As0 : List Value}
variable {cc : ByteArray} {ks ad : List Nat} {nL : Nat} {con : zcon} {fl wr : List (Nat × Nat × Nat)} {k1 k2 : List (Nat × Int)} {k3 : List (Nat × Nat)} {cs : List (Nat × Nat × zcon)} {cuts : List zcut} {sp : List (Nat × List (Int × Int))}
theorem zins_ok (hx : p.tables.exec = Jvm.exec) (hb : c.code = cc) (hK : va_K D cl tys s) (hU : ∀ k ∈ uq, ∀ i j : Nat, ks[i]? = some k → ks[j]? = some k → i = j) (hX : ∀ k ∈ uq, ∃ i : Nat, ks[i]? = some k) (hL : ks.length = ad.length) (hPs : ∀ (ws : va_W) (i k a : Nat) (e e' : va_E), ks[i]? = some k → NS.contains k = false → zsim k e e' → ws[i]? = some (a, e) → Psi ws → Psi (ws.set i (a, e'))) (hget : ∀ q ∈ fl, zGetP p l e R s m args below meth c cells slots Q cc D cl KS q) (hput : ∀ q ∈ wr, zPutP p l e R s m args below meth c cells slots Q cc D cl A ks ad KS q) (hc1 : ∀ q ∈ k1, zLdcP p l e R s m args below meth c cells slots Q cc q) (hc2 : ∀ q ∈ k2, zLdLP p l e R s m args below meth c cells slots Q cc q) (hc3 : (∀ q ∈ k3, zLdSP p l e R s m args below meth c cells slots Q cc A ks ad q) ∧ zStP p l e R s m args below meth c cells slots Q cc A ks ad) (hcall : ∀ q ∈ cs, zCallP p l e R s m args below meth c cells slots Q cc D cl A tys KS ks ad RC Psi nL q) (hR : zRetP p l e R s m args below meth c cells slots Q cc (zHp D cl A s.heap tys KS ks ad RC Psi con.2.2.2.2.2.1 ws0) ks ad con As0 ws0) (hlA : As0.length = con.1.length) {rs : List Int} (hpe : zpre (0 :: As0.map znum ++ con.2.2.1.map (fun q => zfv ks ws0 q.1 q.2)) rs) {k : zK} (hk : ∀ pc x, k pc x = true → zW p l e R s m args below meth c cells slots Q (zHp D cl A s.heap tys KS ks ad RC Psi con.2.2.2.2.2.1 ws0) ks ad nL rs pc x) {pc len : Nat} {x : zs} {ins : ClassFile.Instr} (hdg : decode cc pc = .ok (ins, len)) (hl : (zlen ins == 0 || zlen ins == len) = true) (h : zins KS uq NS (cc, nL, con, (fl, wr), (k1, k2, k3), cs, cuts, sp) k pc x ins = true) : zW p l e R s m args below meth c cells slots Q (zHp D cl A s.heap tys KS ks ad RC Psi con.2.2.2.2.2.1 ws0) ks ad nL rs pc x := by
  cases ins
  case iload_n i => rw [zl1 hl] at hdg; exact zi_iload_n hx hb hk hdg h
  case lload_n i => rw [zl1 hl] at hdg; exact zi_lload_n hx hb hk hdg h
  case aload_n i => rw [zl1 hl] at hdg; exact zi_aload_n hx hb hk hdg h
  case istore_n i => rw [zl1 hl] at hdg; exact zi_istore_n hx hb hk hdg h
  case lstore_n i => rw [zl1 hl] at hdg; exact zi_lstore_n hx hb hk hdg h
  case astore_n i => rw [zl1 hl] at hdg; exact zi_astore_n hx hb hk hdg h
  case iconst n => rw [zl1 hl] at hdg; exact zi_iconst hx hb hk hdg h
  case lconst n => rw [zl1 hl] at hdg; exact zi_lconst hx hb hk hdg h
  case iload i => rw [zl2 hl] at hdg; exact zi_iload hx hb hk hdg h
  case lload i => rw [zl2 hl] at hdg; exact zi_lload hx hb hk hdg h
  case aload i => rw [zl2 hl] at hdg; exact zi_aload hx hb hk hdg h
  case istore i => rw [zl2 hl] at hdg; exact zi_istore hx hb hk hdg h
  case lstore i => rw [zl2 hl] at hdg; exact zi_lstore hx hb hk hdg h
  case astore i => rw [zl2 hl] at hdg; exact zi_astore hx hb hk hdg h
  case bipush i => rw [zl2 hl] at hdg; exact zi_bipush hx hb hk hdg h
  case iinc i n => rw [zl3 hl] at hdg; exact zi_iinc hx hb hk hdg h
  case sipush n => rw [zl3 hl] at hdg; exact zi_sipush hx hb hk hdg h
  case ldc i => rw [zl2 hl] at hdg; exact zi_ldc hk hc1 hc3.1 hdg h
  case ldc_w i => rw [zl3 hl] at hdg; exact zi_ldc_w hk hc1 hdg h
  case ldc2_w i => rw [zl3 hl] at hdg; exact zi_ldc2_w hk hc2 hdg h
  case iadd => rw [zl1 hl] at hdg; exact zi_iadd hx hb hk hdg h
  case isub => rw [zl1 hl] at hdg; exact zi_isub hx hb hk hdg h
  case imul => rw [zl1 hl] at hdg; exact zi_imul hx hb hk hdg h
  case ladd => rw [zl1 hl] at hdg; exact zi_ladd hx hb hk hdg h
  case lsub => rw [zl1 hl] at hdg; exact zi_lsub hx hb hk hdg h
  case lmul => rw [zl1 hl] at hdg; exact zi_lmul hx hb hk hdg h
  case iand => rw [zl1 hl] at hdg; exact zi_iand hx hb hk hdg h
  case ior => rw [zl1 hl] at hdg; exact zi_ior hx hb hk hdg h
  case ixor => rw [zl1 hl] at hdg; exact zi_ixor hx hb hk hdg h
  case ishl => rw [zl1 hl] at hdg; exact zi_ishl hx hb hk hdg h
  case ishr => rw [zl1 hl] at hdg; exact zi_ishr hx hb hk hdg h
  case iushr => rw [zl1 hl] at hdg; exact zi_iushr hx hb hk hdg h
  case lshl => rw [zl1 hl] at hdg; exact zi_lshl hx hb hk hdg h
  case land => rw [zl1 hl] at hdg; exact zi_land hx hb hk hdg h
  case lor => rw [zl1 hl] at hdg; exact zi_lor hx hb hk hdg h
  case irem => rw [zl1 hl] at hdg; exact zi_irem hx hb hk hdg h
  case lrem => rw [zl1 hl] at hdg; exact zi_lrem hx hb hk hdg h
  case ldiv => rw [zl1 hl] at hdg; exact zi_ldiv hx hb hk hdg h
  case i2l => rw [zl1 hl] at hdg; exact zi_i2l hx hb hk hdg h
  case l2i => rw [zl1 hl] at hdg; exact zi_l2i hx hb hk hdg h
  case i2b => rw [zl1 hl] at hdg; exact zi_i2b hx hb hk hdg h
  case i2s => rw [zl1 hl] at hdg; exact zi_i2s hx hb hk hdg h
  case dup => rw [zl1 hl] at hdg; exact zi_dup hx hb hk hdg h
  case dup2 => rw [zl1 hl] at hdg; exact zi_dup2 hx hb hk hdg h
  case pop => rw [zl1 hl] at hdg; exact zi_pop hx hb hk hdg h
  case pop2 => rw [zl1 hl] at hdg; exact zi_pop2 hx hb hk hdg h
  case lcmp => rw [zl1 hl] at hdg; exact zi_lcmp hx hb hk hdg h
  case if_icmp r off => rw [zl3 hl] at hdg; exact zi_icmp hx hb hk hdg h
  case ifCond r off => rw [zl3 hl] at hdg; exact zi_if hx hb hk hdg h
  case goto off => rw [zl3 hl] at hdg; exact zi_goto hx hb hk hdg h
  case tableswitch d lo hi offs => exact zi_switch hx hb hk hdg h
  case iaload => rw [zl1 hl] at hdg; exact zi_iald hx hb hK hk hU hc3.2 hdg h
  case getstatic i => rw [zl3 hl] at hdg; exact zi_getstatic hk hc3.1 hdg h
  case baload => rw [zl1 hl] at hdg; exact zi_baload hx hb hK hk hU hdg h
  case laload => rw [zl1 hl] at hdg; exact zi_laload hx hb hK hk hU hdg h
  case aaload => rw [zl1 hl] at hdg; exact zi_aaload hx hb hK hk hdg h
  case iastore => rw [zl1 hl] at hdg; exact zi_iastore hx hb hK hk hPs hU hdg h
  case bastore => rw [zl1 hl] at hdg; exact zi_bastore hx hb hK hk hPs hU hdg h
  case lastore => rw [zl1 hl] at hdg; exact zi_lastore hx hb hK hk hPs hU hdg h
  case arraylength => rw [zl1 hl] at hdg; exact zi_arraylength hx hb hK hk hdg h
  case getfield i => rw [zl3 hl] at hdg; exact zi_getfield hk hU hget hdg h
  case putfield i => rw [zl3 hl] at hdg; exact zi_putfield hk hU hPs hput hdg h
  case invokevirtual i => rw [zl3 hl] at hdg; exact zi_call hk hU hX hL hcall (kd := 0) hdg h
  case invokestatic i => rw [zl3 hl] at hdg; exact zi_call hk hU hX hL hcall (kd := 1) hdg h
  case invokespecial i => rw [zl3 hl] at hdg; exact zi_call hk hU hX hL hcall (kd := 2) hdg h
  case ireturn =>
    rw [zl1 hl] at hdg
    have h : (zrt con.2.1 == 0 && zRet con x) = true := h
    rw [Bool.and_eq_true, beq_iff_eq] at h
    exact zi_ret hR hpe hlA (by rw [h.1]; exact hdg) h.2
  case lreturn =>
    rw [zl1 hl] at hdg
    have h : (zrt con.2.1 == 1 && zRet con x) = true := h
    rw [Bool.and_eq_true, beq_iff_eq] at h
    exact zi_ret hR hpe hlA (by rw [h.1]; exact hdg) h.2
  case areturn =>
    rw [zl1 hl] at hdg
    have h : (zrt con.2.1 == 2 && zRet con x) = true := h
    rw [Bool.and_eq_true, beq_iff_eq] at h
    exact zi_ret hR hpe hlA (by rw [h.1]; exact hdg) h.2
  case return_ =>
    rw [zl1 hl] at hdg
    have h : (zrt con.2.1 == 9 && zRet con x) = true := h
    rw [Bool.and_eq_true, beq_iff_eq] at h
    exact zi_ret hR hpe hlA (by rw [h.1]; exact hdg) h.2
  all_goals exact absurd h Bool.false_ne_true
theorem zchk_ok (hx : p.tables.exec = Jvm.exec) (hb : c.code = cc) (hK : va_K D cl tys s) (hU : ∀ k ∈ uq, ∀ i j : Nat, ks[i]? = some k → ks[j]? = some k → i = j) (hX : ∀ k ∈ uq, ∃ i : Nat, ks[i]? = some k) (hL : ks.length = ad.length) (hPs : ∀ (ws : va_W) (i k a : Nat) (e e' : va_E), ks[i]? = some k → NS.contains k = false → zsim k e e' → ws[i]? = some (a, e) → Psi ws → Psi (ws.set i (a, e'))) (hget : ∀ q ∈ fl, zGetP p l e R s m args below meth c cells slots Q cc D cl KS q) (hput : ∀ q ∈ wr, zPutP p l e R s m args below meth c cells slots Q cc D cl A ks ad KS q) (hc1 : ∀ q ∈ k1, zLdcP p l e R s m args below meth c cells slots Q cc q) (hc2 : ∀ q ∈ k2, zLdLP p l e R s m args below meth c cells slots Q cc q) (hc3 : (∀ q ∈ k3, zLdSP p l e R s m args below meth c cells slots Q cc A ks ad q) ∧ zStP p l e R s m args below meth c cells slots Q cc A ks ad) (hcall : ∀ q ∈ cs, zCallP p l e R s m args below meth c cells slots Q cc D cl A tys KS ks ad RC Psi nL q) (hR : zRetP p l e R s m args below meth c cells slots Q cc (zHp D cl A s.heap tys KS ks ad RC Psi con.2.2.2.2.2.1 ws0) ks ad con As0 ws0) (hlA : As0.length = con.1.length) {rs : List Int} (hpe : zpre (0 :: As0.map znum ++ con.2.2.1.map (fun q => zfv ks ws0 q.1 q.2)) rs) {src : Option (Int × List Int)} (hsrc : ∀ q, src = some q → q.2.length ≤ rs.length) (hcut : ∀ T ∈ cuts, ∀ (nu : List Int) (ws : va_W) (H : Heap) (locs : List Loc) (ls : Array Slot) (sv : List Value), zHp D cl A s.heap tys KS ks ad RC Psi con.2.2.2.2.2.1 ws0 ws H locs → zpre (0 :: As0.map znum ++ con.2.2.1.map (fun q => zfv ks ws0 q.1 q.2)) nu → zAb ks ad nL nu T.2.1.1 T.2.1.2.1 T.2.1.2.2.1 T.2.1.2.2.2.1 T.2.1.2.2.2.2 nu ws ls sv → (∀ q, src = some q → T.2.2.1 + zlin T.2.2.2 nu < q.1 + zlin q.2 rs) → W p l e R s m args below meth c H locs cells slots Q (F0 m T.1 ls sv)) : ∀ (n pc : Nat) (x : zs), zchk KS uq NS (cc, nL, con, (fl, wr), (k1, k2, k3), cs, cuts, sp) src n pc x = true → zW p l e R s m args below meth c cells slots Q (zHp D cl A s.heap tys KS ks ad RC Psi con.2.2.2.2.2.1 ws0) ks ad nL rs pc x
  | 0, _, _, h => absurd h Bool.false_ne_true
  | n + 1, pc, x, h => by
    unfold zchk at h
    dsimp only at h
    generalize hke : (fun (pc1 : Nat) (x1 : zs) => if cuts.any (fun T => Nat.beq T.1 pc1) then cuts.any (fun T => Nat.beq T.1 pc1 && zCut KS uq (1 + con.1.length + con.2.2.1.length) src T x1) else zchk KS uq NS (cc, nL, con, (fl, wr), (k1, k2, k3), cs, cuts, sp) src n pc1 x1) = k at h
    have hk : ∀ pc1 x1, k pc1 x1 = true → zW p l e R s m args below meth c cells slots Q (zHp D cl A s.heap tys KS ks ad RC Psi con.2.2.2.2.2.1 ws0) ks ad nL rs pc1 x1 := by
      intro pc1 x1 h1
      rw [← hke] at h1
      dsimp only at h1
      split at h1
      · intro rho ws H locs ls sv hG hA
        obtain ⟨T, hT, h2⟩ := List.any_eq_true.mp h1
        rw [Bool.and_eq_true] at h2
        obtain ⟨e1, h2⟩ := h2
        have e1 := Nat.eq_of_beq_eq_true e1
        obtain ⟨nu, c1, c2, c3⟩ := zi_cut hU hX hL (np := 1 + con.1.length + con.2.2.1.length) (pe := (0 :: As0.map znum ++ con.2.2.1.map (fun q => zfv ks ws0 q.1 q.2))) (by rw [List.length_append, List.length_cons, List.length_map, List.length_map, hlA]; omega) (by omega) hpe hsrc hG.2.2.2.1 hA h2
        rw [← e1]
        exact hcut T hT nu ws H locs ls sv hG c1 c2 c3
      · exact zchk_ok hx hb hK hU hX hL hPs hget hput hc1 hc2 hc3 hcall hR hlA hpe hsrc hcut n pc1 x1 h1
    have hst : ∀ x1, zstep KS uq NS (cc, nL, con, (fl, wr), (k1, k2, k3), cs, cuts, sp) k pc x1 = true → zW p l e R s m args below meth c cells slots Q (zHp D cl A s.heap tys KS ks ad RC Psi con.2.2.2.2.2.1 ws0) ks ad nL rs pc x1 := by
      intro x1 h1
      unfold zstep at h1
      split at h1
      case h_2 => exact absurd h1 Bool.false_ne_true
      rename_i ins len hdg
      rw [Bool.and_eq_true] at h1
      exact zins_ok hx hb hK hU hX hL hPs hget hput hc1 hc2 hc3 hcall hR hlA hpe hk hdg h1.1 h1.2
    split at h
    · rename_i q hq
      intro rho ws H locs ls sv hG hA
      obtain ⟨en, lo, st, me, fa⟩ := x
      unfold zspl at h
      split at h
      case h_2 => exact absurd h Bool.false_ne_true
      rename_i a st' he
      dsimp only at he hA
      subst he
      rw [Bool.and_eq_true, beq_iff_eq] at h
      obtain ⟨h1, h⟩ := h
      obtain ⟨wa, vs, rfl, hda, hr⟩ := zst1 hA.2.2.2.1
      obtain ⟨ya, ra, rfl, ga1, ga2⟩ := zden_int hda h1
      have hA1 := zr_ok hA.1 ga1
      split at h
      · rw [Bool.and_eq_true] at h
        obtain ⟨-, h3⟩ := h
        have h4 := List.all_eq_true.mp h3 (ra + a.2.2 - (zr en a).1).toNat (List.mem_range.mpr (by dsimp only; omega))
        dsimp only at h4
        have hcc : (zr en a).1 + (((ra + a.2.2 - (zr en a).1).toNat : Nat) : Int) = ra + a.2.2 := by omega
        rw [hcc] at h4
        have hen := zcond_ok (r := .eq) (b := (0, 0, ra + a.2.2)) hA.1 ga1 hA.1.2.1 (by simp only [zrel]; omega)
        rw [zbad_ok hen, Bool.false_or] at h4
        exact hst _ h4 rho ws H locs ls _ hG ((hA.narrow hen).stack ⟨⟨ya, 0, rfl, hA.1.2.1, by dsimp only; omega⟩, hr⟩)
      · rename_i q0 qr hrg
        rw [Bool.and_eq_true] at h
        obtain ⟨h2, h3⟩ := h
        dsimp only at h2 h3
        obtain ⟨z, hz1, hz2, hz3⟩ := zcov_ok h2 hA1.1 hA1.2
        have h4 := List.all_eq_true.mp h3 z hz1
        have hen1 := zcond_ok (r := .ge) (b := (0, 0, z.1)) hA.1 ga1 hA.1.2.1 (by simp only [zrel]; omega)
        have hen := zcond_ok (r := .le) (b := (0, 0, z.2)) hen1 ga1 hA.1.2.1 (by simp only [zrel]; omega)
        rw [zbad_ok hen, Bool.false_or] at h4
        exact hst _ h4 rho ws H locs ls _ hG (hA.narrow hen)
    · exact hst x h
theorem zpos_ok : ∀ {ts : List zt} {As : List Value} {i : Nat} {r1 r3 : List Int}, zF2 (zok ks ad) ts As → zF2 (fun a b => a.1 = b.1 ∧ zden ks ad (r1 ++ As.map znum ++ r3) a.2 b.2) (zpos i r1.length ts) (lv_args i As)
  | [], [], _, _, _, _ => trivial
  | t :: ts, w :: As, i, r1, r3, h => by
    have ih := zpos_ok (ts := ts) (As := As) (i := if w.category = 2 then i + 2 else i + 1) (r1 := r1 ++ [znum w]) (r3 := r3) h.2
    rw [List.length_append, List.append_assoc r1] at ih
    have hc : (if t.1 == 1 then i + 2 else i + 1) = (if w.category = 2 then i + 2 else i + 1) := by
      obtain ⟨tg, b⟩ := t
      match tg, h.1 with
      | 0, ⟨y, h1, _⟩ => rw [h1]; rfl
      | 1, ⟨y, h1, _⟩ => rw [h1]; rfl
      | kk + 2, ⟨a, j, h1, _⟩ => rw [h1]; rfl
    refine ⟨⟨rfl, ?_⟩, ?_⟩
    · show zden ks ad (r1 ++ (znum w :: As.map znum) ++ r3) (if Nat.ble 2 t.1 then (t.1, 0, 0) else (t.1, r1.length, 0)) w
      by_cases hb : 2 ≤ t.1
      · rw [if_pos (Nat.ble_eq_true_of_le hb)]
        exact zden_of (r := 0) h.1 rfl (fun h9 => absurd hb (by omega))
      · rw [if_neg (fun h9 => hb (Nat.le_of_ble_eq_true h9))]
        refine zden_of (r := znum w) h.1 rfl (fun _ => ⟨?_, (Int.add_zero _).symm⟩)
        dsimp only
        rw [List.append_assoc, List.getElem?_append_right (Nat.le_refl _), Nat.sub_self]
        rfl
    · show zF2 _ (zpos (if t.1 == 1 then i + 2 else i + 1) (r1.length + 1) ts) (lv_args (if w.category = 2 then i + 2 else i + 1) As)
      rw [hc]
      exact ih
  | [], _ :: _, _, _, _, h => h.elim
  | _ :: _, [], _, _, _, h => h.elim
theorem zinitm_ok {ws : va_W} : ∀ {q : List (Nat × Nat)} {r1 : List Int}, zmh ks (r1 ++ q.map (fun q => zfv ks ws q.1 q.2)) ws (zinitm KS r1.length q)
  | [], _ => by intro z hz; unfold zinitm at hz; cases hz
  | q :: r, r1 => by
    have ih := zinitm_ok (ws := ws) (q := r) (r1 := r1 ++ [zfv ks ws q.1 q.2])
    rw [List.length_append, List.append_assoc r1] at ih
    intro z hz
    unfold zinitm at hz
    split at hz
    · rcases List.mem_cons.mp hz with rfl | hz
      · refine ⟨zfv ks ws q.1 q.2, ?_, (Int.add_zero _).symm⟩
        show (r1 ++ (zfv ks ws q.1 q.2 :: r.map (fun q => zfv ks ws q.1 q.2)))[r1.length]? = _
        rw [List.getElem?_append_right (Nat.le_refl _), Nat.sub_self]
        rfl
      · exact ih z hz
    · exact ih z hz
theorem zF2_at {r : Int → Int × Int → Prop} : ∀ {a : List Int} {b : zenv}, zF2 r a b → ∀ (i : Nat) (u : Int) (v : Int × Int), a[i]? = some u → b[i]? = some v → r u v
  | [], [], _, _, _, _, h, _ => by simp at h
  | x :: a, y :: b, h, 0, u, v, hu, hv => by cases hu; cases hv; exact h.1
  | x :: a, y :: b, h, i + 1, u, v, hu, hv => zF2_at (a := a) (b := b) h.2 i u v hu hv
  | [], _ :: _, h, _, _, _, _, _ => h.elim
  | _ :: _, [], h, _, _, _, _, _ => h.elim
theorem zie_ok : ∀ {ts : List zt} {As : List Value}, zF2 (zok ks ad) ts As → zF2 (fun (r : Int) (b : Int × Int) => b.1 ≤ r ∧ r ≤ b.2) (As.map znum) (ts.map zie)
  | [], [], _ => trivial
  | t :: ts, w :: As, h => by
    refine ⟨?_, zie_ok h.2⟩
    unfold zie
    by_cases hb : 2 ≤ t.1
    · rw [if_pos (Nat.ble_eq_true_of_le hb)]
      obtain ⟨tg, b⟩ := t
      match tg, hb, h.1 with
      | kk + 2, _, ⟨a, j, h1, _⟩ => rw [h1]; exact ⟨Int.le_refl _, Int.le_refl _⟩
    · rw [if_neg (fun h9 => hb (Nat.le_of_ble_eq_true h9))]
      exact zok_num h.1 (by omega)
  | [], _ :: _, h => h.elim
  | _ :: _, [], h => h.elim
theorem zmeth_ok (hx : p.tables.exec = Jvm.exec) (hb : c.code = cc) (hK : va_K D cl tys s) (hU : ∀ k ∈ uq, ∀ i j : Nat, ks[i]? = some k → ks[j]? = some k → i = j) (hX : ∀ k ∈ uq, ∃ i : Nat, ks[i]? = some k) (hL : ks.length = ad.length) (hPs : ∀ (ws : va_W) (i k a : Nat) (e e' : va_E), ks[i]? = some k → NS.contains k = false → zsim k e e' → ws[i]? = some (a, e) → Psi ws → Psi (ws.set i (a, e'))) (hget : ∀ q ∈ fl, zGetP p l e R s m args below meth c cells slots Q cc D cl KS q) (hput : ∀ q ∈ wr, zPutP p l e R s m args below meth c cells slots Q cc D cl A ks ad KS q) (hc1 : ∀ q ∈ k1, zLdcP p l e R s m args below meth c cells slots Q cc q) (hc2 : ∀ q ∈ k2, zLdLP p l e R s m args below meth c cells slots Q cc q) (hc3 : (∀ q ∈ k3, zLdSP p l e R s m args below meth c cells slots Q cc A ks ad q) ∧ zStP p l e R s m args below meth c cells slots Q cc A ks ad) (hcall : ∀ q ∈ cs, zCallP p l e R s m args below meth c cells slots Q cc D cl A tys KS ks ad RC Psi nL q) (hR : zRetP p l e R s m args below meth c cells slots Q cc (zHp D cl A s.heap tys KS ks ad RC Psi con.2.2.2.2.2.1 ws0) ks ad con As0 ws0) (hlA : As0.length = con.1.length) (hpr : zfs (0 :: As0.map znum ++ con.2.2.1.map (fun q => zfv ks ws0 q.1 q.2)) con.2.2.2.2.2.2) (fuel : Nat) (h : zmeth KS uq NS (cc, nL, con, (fl, wr), (k1, k2, k3), cs, cuts, sp) fuel = true) (hAs : zF2 (zok ks ad) con.1 As0) {H : Heap} {locs : List Loc} {ls : Array Slot} (hG : zHp D cl A s.heap tys KS ks ad RC Psi con.2.2.2.2.2.1 ws0 ws0 H locs) (hls : lv_has ls nL (lv_args 0 As0)) : W p l e R s m args below meth c H locs cells slots Q (F0 m 0 ls []) := by
  unfold zmeth at h
  rw [Bool.and_eq_true, Bool.and_eq_true] at h
  obtain ⟨h1, h2, h3⟩ := h
  dsimp only at h1 h2 h3
  have hcut : ∀ n : Nat, ∀ T ∈ cuts, ∀ (nu : List Int) (ws : va_W) (H : Heap) (locs : List Loc) (ls : Array Slot) (sv : List Value), zHp D cl A s.heap tys KS ks ad RC Psi con.2.2.2.2.2.1 ws0 ws H locs → zpre (0 :: As0.map znum ++ con.2.2.1.map (fun q => zfv ks ws0 q.1 q.2)) nu → zAb ks ad nL nu T.2.1.1 T.2.1.2.1 T.2.1.2.2.1 T.2.1.2.2.2.1 T.2.1.2.2.2.2 nu ws ls sv → (T.2.2.1 + zlin T.2.2.2 nu).toNat < n → W p l e R s m args below meth c H locs cells slots Q (F0 m T.1 ls sv) := by
    intro n
    induction n with
    | zero => intro T hT nu ws H locs ls sv _ _ _ hn; exact absurd hn (Nat.not_lt_zero _)
    | succ n ih =>
      intro T hT nu ws H locs ls sv hG hpe hA hn
      have hT2 := List.all_eq_true.mp h2 T hT
      rw [Bool.and_eq_true, Bool.and_eq_true, decide_eq_true_eq] at hT2
      obtain ⟨⟨t1, t2⟩, t3⟩ := hT2
      refine zchk_ok hx hb hK hU hX hL hPs hget hput hc1 hc2 hc3 hcall hR hlA hpe (src := some (T.2.2.1, T.2.2.2)) (fun q hq => ?_) (fun T' hT' nu' ws' H' locs' ls' sv' hG' hpe' hA' hr => ?_) fuel T.1 T.2.1 t3 nu ws H locs ls sv hG hA
      · cases hq
        rw [hA.1.1]; exact Nat.le_of_ble_eq_true t2
      · refine ih T' hT' nu' ws' H' locs' ls' sv' hG' hpe' hA' ?_
        have hr := hr _ rfl
        dsimp only at hr
        have hT3 := List.all_eq_true.mp h2 T' hT'
        rw [Bool.and_eq_true, Bool.and_eq_true, decide_eq_true_eq] at hT3
        have hp := zlb_ok (cs := T'.2.2.2) (zin_F2 hA'.1.1 hA'.1.2.2)
        have := hT3.1.1
        omega
  have hb1 : zF2 (fun (r : Int) (b : Int × Int) => b.1 ≤ r ∧ r ≤ b.2) (con.2.2.1.map (fun q => zfv ks ws0 q.1 q.2)) (con.2.2.1.map (zif KS)) := by
    have hc := hG.2.2.2.1
    clear hcut h3 h2 hR hG
    generalize con.2.2.1 = L at h1
    induction L with
    | nil => trivial
    | cons q L ih =>
      rw [List.all_cons, Bool.and_eq_true, Bool.and_eq_true] at h1
      refine ⟨?_, ih h1.2⟩
      have hu : q.1 ∈ uq := by simpa using h1.1.1
      have ht := h1.1.2
      split at ht
      case h_2 => exact absurd ht (by decide)
      rename_i t ht2
      have := zfv_typed hc hU hX hL hu ht2 (Nat.le_of_ble_eq_true ht)
      unfold zif
      rw [ht2]
      exact this
  have hb2 : zF2 (fun (r : Int) (b : Int × Int) => b.1 ≤ r ∧ r ≤ b.2) (0 :: As0.map znum ++ con.2.2.1.map (fun q => zfv ks ws0 q.1 q.2)) ((0, 0) :: con.1.map zie ++ con.2.2.1.map (zif KS)) := zF2_app ⟨⟨Int.le_refl _, Int.le_refl _⟩, zie_ok hAs⟩ hb1
  have hin : zin (0 :: As0.map znum ++ con.2.2.1.map (fun q => zfv ks ws0 q.1 q.2)) ((0, 0) :: con.1.map zie ++ con.2.2.1.map (zif KS)) := ⟨zF2_len hb2, rfl, zF2_at hb2⟩
  refine zchk_ok hx hb hK hU hX hL hPs hget hput hc1 hc2 hc3 hcall hR hlA (rs := (0 :: As0.map znum ++ con.2.2.1.map (fun q => zfv ks ws0 q.1 q.2))) ⟨[], (List.append_nil _).symm⟩ (src := none) (fun q hq => by cases hq) (fun T hT nu ws H locs ls sv hG hpe hA _ => hcut _ T hT nu ws H locs ls sv hG hpe hA (Nat.lt_succ_self _)) fuel 0 (zinit KS con) h3 (0 :: As0.map znum ++ con.2.2.1.map (fun q => zfv ks ws0 q.1 q.2)) ws0 H locs ls [] hG ⟨zprop_ok hin hpr, ⟨[], (List.append_nil _).symm⟩, ⟨lv_args 0 As0, hls, ?_⟩, trivial, ?_, hpr⟩
  · exact zpos_ok (r1 := [0]) (r3 := con.2.2.1.map (fun q => zfv ks ws0 q.1 q.2)) (i := 0) hAs
  · have := zinitm_ok (KS := KS) (ks := ks) (ws := ws0) (q := con.2.2.1) (r1 := 0 :: As0.map znum)
    rw [List.length_cons, List.length_map, hlA, Nat.add_comm] at this
    exact this
end ZM
