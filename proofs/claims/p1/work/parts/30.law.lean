/-! THE CLAIM OUT OF ONE WALK OF THE LAW'S BODY. Your part is whole_start (and what it stands on); all else here is the same for every law, but numbers. -/
def R_law : String := "AlibiRotaLaw"
def lw_P (b : Addr) (xs : List Int32) (args : Array Value) (s : State) : Prop := args = #[.ref b] ∧ s.IntsAt b xs ∧ xs.length ≤ 6 ∧ (Jvm.Cond.and given_1 narrow_1).before args s = true
def lw_Q (_ : Array Value) (s : State) (o : Outcome) (t : State) : Prop := o = .returned (some (.int 1)) ∧ Framed s o t [] 600000 7302250
def lw_Z (below : List Frame) (a : Array Value) (s : State) : State → Prop := fun t => ∃ o, t.status = .running ∧ Ended t below o ∧ lw_Q a s o t
/-- the law's own end, with 1 on the stack, nothing written that was there before, its room as the claim has it -/
theorem lw_ret {p : Program} {l : Launch} {e : Env} {s : State} {m : MethodId} {below : List Frame} {meth : Method} {c : Code} {b : Nat} (hx : p.tables.exec = Jvm.exec) (hb : c.code = code) (hr : meth.sig.returnType = ret) (hlocks : meth.locks = false) {pc : Nat} {H : Heap} {ls : Array Slot} (hdg : decode code pc = .ok (.ireturn, 1)) : W p l e room_1 s m #[Value.ref b] below meth c H [] 600000 7302250 (lw_Z below #[Value.ref b] s) (F0 m pc ls [.int 1]) := by
  intro T hT X
  obtain ⟨fs, hret, hrun, hended, hW, hframe⟩ := X.leave (v := some (.int 1)) (hlocks := hlocks) (fun h => by rw [hr] at h; cases h)
  have hmeth' : T.vm.method? m = some meth := X.method'
  refine ⟨T.setFrames fs, ?_, .returned (some (.int 1)), hrun, hended, rfl, ⟨_, rfl⟩, hW, hframe⟩
  jvm_step X.here [X.here.top, hx, hb, hdg, hmeth', hr, ret, narrow_b1]
  (try refine ⟨rfl, ?_⟩); (try refine ⟨rfl, ?_⟩)
  first | (intro acts; rw [hret _ acts rfl rfl rfl]) | rw [hret _ _ rfl rfl rfl]
  exact Steps.refl _
/-- what holds at the law's entry: the machine, the code, the tables' words (any of lw_tbl by 'hts w (by decide +kernel)'), the script of L ints xs at the cell b, what the Statement gives of the start (any of its parts by flat_of_before) -/
def lw_At (p : Program) (s : State) (m : MethodId) (meth : Method) (c : Code) (b L : Nat) (xs : Nat → Int32) : Prop :=
  p.tables.exec = Jvm.exec ∧ c.code = code ∧ meth.sig.returnType = ret ∧ c.maxLocals = 4 ∧ s.vm.findClass R_law = some m.cls ∧ (∀ w ∈ lw_tbl, w.before #[Value.ref b] s = true) ∧ va_X b L xs s s.heap ∧ b < s.heap.size ∧ meth.locks = false ∧ (Jvm.Cond.and given_1 narrow_1).before #[Value.ref b] s = true
theorem arr_known {s : State} {args : Array Value} {ty : FieldType} (h : (Cond.arrayClass ty).before args s = true) (hp : refKind ty = false) : ∃ cA : ClassId, ArrOfT s cA ty ∧ va_RA s cA ty := by
  obtain ⟨c, k, comp, h1, h2, h3⟩ := Cond.arrayClass_spec h
  refine ⟨c, fun n z => ⟨fun k h => (by cases h), k, h2, comp, h3⟩, ?_⟩
  cases ty with
  | object C => cases hp
  | _ => exact h1
theorem arr_knownO {s : State} {C : String} (h : va_AO C s) : ∃ cA : ClassId, ArrOfT s cA (.object C) ∧ va_RA s cA (.object C) := by
  obtain ⟨comp, c, k, h1, h2, h3, h4, h5⟩ := Cond.arrayOver_spec h
  exact ⟨c, fun n z => ⟨fun k h => (by cases h), k, h3, comp, h4⟩, k, comp, h3, h4, h1, h5⟩
theorem zN_in : ∀ w ∈ zN, w ∈ lw_tbl := by decide +kernel
abbrev lwW (cI cZ cB cJ cR : ClassId) (h g : Nat) (u : Nat → Nat → Nat) (v : Nat → Nat) : va_W := [(h, .inr (5, [.ref (u 0 0), .ref (u 0 1), .ref (u 0 2), .ref (u 0 3), .ref (u 0 4), .ref (u 0 5), .ref (u 0 6), .ref (u 0 7)])), (u 0 0, .inr (4, [.ref (u 6 0), .int 0, .int 0, .int (-1), .int 0, .int 0, .int 0, .int 0])), (u 6 0, .inl (cB, 1200, .inl (fun _ => 0))), (u 0 1, .inr (3, [.ref (u 7 0), .ref (u 7 1), .ref (u 7 2), .ref (u 7 3)])), (u 7 0, .inl (cZ, 4, .inl (fun _ => 0))), (u 7 1, .inl (cI, 4, .inl (fun _ => 0))), (u 7 2, .inl (cI, 4, .inl (fun _ => 0))), (u 7 3, .inl (cJ, 240, .inr (.inl (fun _ => 0)))), (u 0 2, .inr (2, [.int 0, .int 0, .int 0, .int 0, .ref (u 9 4), .ref (u 9 5), .ref (u 9 6), .ref (u 9 7), .ref (u 9 8), .int 0, .int 0, .int 0, .int 0, .int 0, .ref (u 9 14), .int 0, .ref (u 9 16), .ref (u 9 17)])), (u 0 4, .inl (cR, 3, .inr (.inr (.inr (.inr (va_up (va_up (va_up (fun _ => none) (Int32.toNatClampNeg 0) (some (u 8 0))) (Int32.toNatClampNeg 1) (some (u 8 1))) (Int32.toNatClampNeg 2) (some (u 8 2)))))))), (u 0 5, .inl (cZ, 3, .inl (fun _ => 0))), (u 0 6, .inr (0, [.ref (u 1 0), .int 0, .int 0, .int 0, .ref (u 1 4), .ref (u 1 5), .ref (u 1 6), .ref (u 1 7), .ref (u 1 8), .int 0, .ref (u 1 10), .ref (u 1 11), .ref (u 1 12), .ref (u 1 13)])), (u 1 0, .inl (cI, 7, .inl (fun _ => 0))), (u 1 4, .inl (cI, 7, .inl (fun _ => 0))), (u 1 5, .inl (cI, 7, .inl (fun _ => 0))), (u 1 6, .inl (cI, 84, .inl (fun _ => 0))), (u 1 7, .inl (cI, 7, .inl (fun _ => 0))), (u 1 10, .inl (cI, 40, .inl (fun _ => 0))), (u 1 11, .inl (cI, 40, .inl (fun _ => 0))), (u 1 12, .inl (cI, 40, .inl (fun _ => 0))), (u 1 13, .inl (cI, 40, .inl (fun _ => 0))), (u 0 7, .inr (0, [.ref (u 2 0), .int 0, .int 0, .int 0, .ref (u 2 4), .ref (u 2 5), .ref (u 2 6), .ref (u 2 7), .ref (u 2 8), .int 0, .ref (u 2 10), .ref (u 2 11), .ref (u 2 12), .ref (u 2 13)])), (u 2 0, .inl (cI, 7, .inl (fun _ => 0))), (u 8 0, .inr (0, [.ref (u 3 0), .int 0, .int 0, .int 0, .ref (u 3 4), .ref (u 3 5), .ref (u 3 6), .ref (u 3 7), .ref (u 3 8), .int 0, .ref (u 3 10), .ref (u 3 11), .ref (u 3 12), .ref (u 3 13)])), (u 3 0, .inl (cI, 7, .inl (fun _ => 0))), (u 3 4, .inl (cI, 7, .inl (fun _ => 0))), (u 3 5, .inl (cI, 7, .inl (fun _ => 0))), (u 3 6, .inl (cI, 84, .inl (fun _ => 0))), (u 3 7, .inl (cI, 7, .inl (fun _ => 0))), (u 3 10, .inl (cI, 40, .inl (fun _ => 0))), (u 3 11, .inl (cI, 40, .inl (fun _ => 0))), (u 3 12, .inl (cI, 40, .inl (fun _ => 0))), (u 3 13, .inl (cI, 40, .inl (fun _ => 0))), (u 8 1, .inr (0, [.ref (u 4 0), .int 0, .int 0, .int 0, .ref (u 4 4), .ref (u 4 5), .ref (u 4 6), .ref (u 4 7), .ref (u 4 8), .int 0, .ref (u 4 10), .ref (u 4 11), .ref (u 4 12), .ref (u 4 13)])), (u 4 0, .inl (cI, 7, .inl (fun _ => 0))), (u 4 4, .inl (cI, 7, .inl (fun _ => 0))), (u 4 5, .inl (cI, 7, .inl (fun _ => 0))), (u 4 6, .inl (cI, 84, .inl (fun _ => 0))), (u 4 7, .inl (cI, 7, .inl (fun _ => 0))), (u 4 10, .inl (cI, 40, .inl (fun _ => 0))), (u 4 11, .inl (cI, 40, .inl (fun _ => 0))), (u 4 12, .inl (cI, 40, .inl (fun _ => 0))), (u 4 13, .inl (cI, 40, .inl (fun _ => 0))), (u 8 2, .inr (0, [.ref (u 5 0), .int 0, .int 0, .int 0, .ref (u 5 4), .ref (u 5 5), .ref (u 5 6), .ref (u 5 7), .ref (u 5 8), .int 0, .ref (u 5 10), .ref (u 5 11), .ref (u 5 12), .ref (u 5 13)])), (u 5 0, .inl (cI, 7, .inl (fun _ => 0))), (u 5 4, .inl (cI, 7, .inl (fun _ => 0))), (u 5 5, .inl (cI, 7, .inl (fun _ => 0))), (u 5 6, .inl (cI, 84, .inl (fun _ => 0))), (u 5 7, .inl (cI, 7, .inl (fun _ => 0))), (u 5 10, .inl (cI, 40, .inl (fun _ => 0))), (u 5 11, .inl (cI, 40, .inl (fun _ => 0))), (u 5 12, .inl (cI, 40, .inl (fun _ => 0))), (u 5 13, .inl (cI, 40, .inl (fun _ => 0))), (g, .inr (6, [.int 0, .ref (v 1), .ref (v 2), .ref (v 3), .ref (v 4), .ref (v 5), .int 0, .int 0, .int 0, .int 0, .int 0, .long 0, .int 0, .int 0, .int 0, .int (-1), .ref (v 16), .ref (v 17), .ref (v 18), .ref (v 19), .ref (v 20), .ref (v 21), .ref (v 22), .ref (v 23), .ref (v 24), .int 0, .int 0, .int 0, .int 0, .int 0, .ref (v 30), .ref (v 31), .ref (v 32), .ref (v 33), .int 0, .int 0])), (v 1, .inl (cI, 4, .inl (upd (upd (upd (upd (fun _ => 0) (Int32.toNatClampNeg 0) (-1)) (Int32.toNatClampNeg 1) (-1)) (Int32.toNatClampNeg 2) (-1)) (Int32.toNatClampNeg 3) (-1)))), (v 2, .inl (cI, 4, .inl (fun _ => 0))), (v 3, .inl (cJ, 240, .inr (.inl (fun _ => 0)))), (v 5, .inl (cB, 1200, .inl (fun _ => 0))), (v 16, .inl (cI, 5, .inl (fun _ => 0))), (v 17, .inl (cI, 50, .inl (fun _ => 0))), (v 18, .inl (cI, 70, .inl (fun _ => 0))), (v 19, .inl (cI, 420, .inl (fun _ => 0))), (v 20, .inl (cI, 800, .inl (fun _ => 0))), (v 21, .inl (cZ, 3, .inl (fun _ => 0)))]
theorem wch_ok : ∀ k, k < 4 → (upd (upd (upd (upd (fun _ => 0) (Int32.toNatClampNeg 0) (-1)) (Int32.toNatClampNeg 1) (-1)) (Int32.toNatClampNeg 2) (-1)) (Int32.toNatClampNeg 3) (-1)) k = (-1 : Int32) := by
  intro k hk
  rcases (show k = 0 ∨ k = 1 ∨ k = 2 ∨ k = 3 by omega) with rfl | rfl | rfl | rfl <;> rfl
set_option maxHeartbeats 4000000 in
set_option maxRecDepth 100000 in
theorem law_end {p : Program} {e : Env} {s : State} {m : MethodId} {below : List Frame} {meth : Method} {c : Code} (l : Launch) {b L : Nat} {xs : Nat → Int32} (C0 : lw_At p s m meth c b L xs) {H : Heap} {locs : List Loc} (hS : va_S (fun q : Nat => s.heap.size ≤ q) s.heap H locs) {cells slots : Nat} (hc : cells ≤ 600000) (hs : slots ≤ 7302250) {ls : Array Slot} : W p l e room_1 s m #[Value.ref b] below meth c H locs cells slots (lw_Z below #[Value.ref b] s) (F0 m 2138 ls []) := by
  obtain ⟨hx, hb, hr, hml, hown, hts, hX, hbl, hlocks, hgv⟩ := id C0
  refine lv_iconst (v := 1) hx hb dL_law_2138 (by decide) ?_
  refine va_forget (fun q hq => hS.2.2 q hq) ?_
  refine W.widen (k := 600000) (n := 7302250) hc hs ?_
  exact lw_ret hx hb hr hlocks dL_law_2139
set_option maxHeartbeats 4000000 in
set_option maxRecDepth 100000 in
theorem law_tail {p : Program} {e : Env} {s : State} {m : MethodId} {below : List Frame} {meth : Method} {c : Code} (l : Launch) {b : Nat} {xs : Nat → Int32} (C0 : lw_At p s m meth c b 6 xs) {H : Heap} {locs : List Loc} (hS : va_S (fun q : Nat => s.heap.size ≤ q) s.heap H locs) {cells slots : Nat} (hc : cells ≤ 600000) (hs : slots ≤ 7302250) {ls : Array Slot} (hl : lv_has ls 4 [(0, .ref b), (3, .int 0)]) : W p l e room_1 s m #[Value.ref b] below meth c H locs cells slots (lw_Z below #[Value.ref b] s) (F0 m 2132 ls []) := by
  obtain ⟨hx, hb, hr, hml, hown, hts, hX, hbl, hlocks, hgv⟩ := id C0
  have hts := fun w h => hts w (wsL_law_in w h)
  have hA : ∀ q : Nat, s.heap.size ≤ q → (fun q : Nat => s.heap.size ≤ q) q := fun _ h => h
  have hbA : ¬ (fun q : Nat => s.heap.size ≤ q) b := Nat.not_le.mpr hbl
  refine lv_iinc (v := 6) (lv' := [(3, .int 6), (0, .ref b)]) hx hb dL_law_2132 hl (k := 1) rfl (by decide) (by decide) rfl (fun ls hl => ?_)
  refine lv_goto (tgt := 18) hx hb dL_law_2135 (by decide) ?_
  refine lv_iload_n hx hb dL_law_18 rfl (lv_at hl 0 rfl) ?_
  refine lv_aload_n hx hb dL_law_19 rfl (lv_at hl 1 rfl) ?_
  refine va_slen hx hb hX hbl hbA hS dL_law_20 ?_
  refine lv_bipush (v := 6) hx hb dL_law_21 (by decide) ?_
  refine lv_isub hx hb dL_law_23 ?_
  refine lv_topi (fun v1 ev1 => ?_)
  obtain rfl : v1 = 0 := ev1.trans (by decide)
  refine lv_icmp_gt (tgt := 2138) hx hb dL_law_24 (by decide) (fun _ => ?_) (fun c9 => absurd (by decide) c9)
  exact law_end l C0 hS hc hs
