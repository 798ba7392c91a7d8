def zrl (h b : Int32) : Prop := (h.toInt = -1 → b.toInt ≤ 6) ∧ (h.toInt ≠ -1 → 0 ≤ b.toInt)
def zrl2 (k a : Int32) : Prop := (k.toInt = 0 → a.toInt ≤ 6) ∧ (k.toInt ≠ 0 → 0 ≤ a.toInt)
/-- acts: what was before fits what was done -/
def zPsi (ks ad : List Nat) (w : va_W) : Prop :=
  (∀ i : Nat, ks[i]? = some 0 → ∃ a1 a2 : Nat, ks[i + 8]? = some 14 ∧ ks[i + 9]? = some 15 ∧ ad[i + 8]? = some a1 ∧ ad[i + 9]? = some a2 ∧
    (∀ (a ci : Nat) (fs : List Value), w[i]? = some (a, .inr (ci, fs)) → fs[11]? = some (.ref a1) ∧ fs[12]? = some (.ref a2)) ∧
    (∀ (b1 b2 : Nat) (c1 c2 : ClassId) (n1 n2 : Nat) (h b : Nat → Int32), w[i + 8]? = some (b1, .inl (c1, n1, .inl h)) → w[i + 9]? = some (b2, .inl (c2, n2, .inl b)) → ∀ n : Nat, n < 40 → zrl (h n) (b n))) ∧
  (∀ (i a : Nat) (c : ClassId) (m : Nat) (g : Nat → Int32), ks[i]? = some 45 → w[i]? = some (a, .inl (c, m, .inl g)) → ∀ n : Nat, n < 200 → zrl2 (g (4 * n)) (g (4 * n + 2)))
theorem zPsi_set {ks ad : List Nat} {w : va_W} {i k a : Nat} {e e' : va_E} (h1 : ks[i]? = some k) (h2 : zNS.contains k = false) (hs : zsim k e e') (h3 : w[i]? = some (a, e)) (h : zPsi ks ad w) : zPsi ks ad (w.set i (a, e')) := by
  have n1 : k ≠ 14 := fun e => by subst e; exact absurd h2 (by decide)
  have n2 : k ≠ 15 := fun e => by subst e; exact absurd h2 (by decide)
  have n3 : k ≠ 45 := fun e => by subst e; exact absurd h2 (by decide)
  refine ⟨fun i' hi' => ?_, fun j b c m g hj hg => ?_⟩
  · obtain ⟨a1, a2, q1, q2, q3, q4, q5, q6⟩ := h.1 i' hi'
    refine ⟨a1, a2, q1, q2, q3, q4, fun b ci fs hfs => ?_, fun b1 b2 c1 c2 m1 m2 hh bb g1 g2 => ?_⟩
    · by_cases ei : i = i'
      · subst ei
        rw [List.getElem?_set_self (List.getElem?_eq_some_iff.mp h3).1] at hfs
        have ek : k = 0 := by rw [h1] at hi'; exact Option.some.inj hi'
        obtain ⟨ea, ee⟩ := Prod.mk.inj (Option.some.inj hfs)
        subst ee
        match e, hs, h3 with
        | .inr (c0, fs0), hs, h3 =>
          obtain ⟨-, -, hr⟩ := hs
          rcases hr with hr | hr
          · rw [ek] at hr; exact absurd hr (by decide)
          · have := q5 a c0 fs0 h3
            exact ⟨hr 11 a1 this.1, hr 12 a2 this.2⟩
        | .inl _, hs, _ => exact hs.elim
      · rw [List.getElem?_set_ne ei] at hfs
        exact q5 b ci fs hfs
    · rw [List.getElem?_set_ne (znk h1 q1 n1)] at g1
      rw [List.getElem?_set_ne (znk h1 q2 n2)] at g2
      exact q6 b1 b2 c1 c2 m1 m2 hh bb g1 g2
  · rw [List.getElem?_set_ne (znk h1 hj n3)] at hg
    exact h.2 j b c m g hj hg
theorem zPsi_rel {ks ad : List Nat} {w : va_W} {i : Nat} (h : zPsi ks ad w) (hi : ks[i]? = some 0) {b1 b2 n1 n2 : Nat} {c1 c2 : ClassId} {hh bb : Nat → Int32} (g1 : w[i + 8]? = some (b1, .inl (c1, n1, .inl hh))) (g2 : w[i + 9]? = some (b2, .inl (c2, n2, .inl bb))) (n : Nat) (hn : n < 40) : zrl (hh n) (bb n) := by
  obtain ⟨a1, a2, q1, q2, q3, q4, q5, q6⟩ := h.1 i hi
  exact q6 b1 b2 c1 c2 n1 n2 hh bb g1 g2 n hn
theorem zPsi_pair {ks ad : List Nat} {w : va_W} {i : Nat} (h : zPsi ks ad w) (hi : ks[i]? = some 0) {b1 b2 n1 n2 : Nat} {c1 c2 : ClassId} {hh bb h' b' : Nat → Int32} (g1 : w[i + 8]? = some (b1, .inl (c1, n1, .inl hh))) (g2 : w[i + 9]? = some (b2, .inl (c2, n2, .inl bb))) (hr : ∀ n : Nat, n < 40 → zrl (h' n) (b' n)) : zPsi ks ad ((w.set (i + 8) (b1, .inl (c1, n1, .inl h'))).set (i + 9) (b2, .inl (c2, n2, .inl b'))) := by
  obtain ⟨-, -, k1, k2, -⟩ := h.1 i hi
  refine ⟨fun i' hi' => ?_, fun j b c m g hj hg => ?_⟩
  · obtain ⟨a1, a2, q1, q2, q3, q4, q5, q6⟩ := h.1 i' hi'
    refine ⟨a1, a2, q1, q2, q3, q4, fun b ci fs hfs => ?_, fun d1 d2 c1' c2' m1 m2 hx bx e1 e2 => ?_⟩
    · rw [List.getElem?_set_ne (znk k2 hi' (by decide)), List.getElem?_set_ne (znk k1 hi' (by decide))] at hfs
      exact q5 b ci fs hfs
    · rw [List.getElem?_set_ne (znk k2 q1 (by decide))] at e1
      by_cases ei : i = i'
      · subst ei
        rw [List.getElem?_set_self (List.getElem?_eq_some_iff.mp g1).1] at e1
        rw [List.getElem?_set_self (by rw [List.length_set]; exact (List.getElem?_eq_some_iff.mp g2).1)] at e2
        cases e1
        cases e2
        exact hr
      · rw [List.getElem?_set_ne (by omega)] at e1
        rw [List.getElem?_set_ne (by omega), List.getElem?_set_ne (znk k1 q2 (by decide))] at e2
        exact q6 d1 d2 c1' c2' m1 m2 hx bx e1 e2
  · rw [List.getElem?_set_ne (znk k2 hj (by decide)), List.getElem?_set_ne (znk k1 hj (by decide))] at hg
    exact h.2 j b c m g hj hg
theorem zHp.pair {D : va_G} {cl : List vw_C} {A : Nat → Prop} {cI cZ cB cJ cR : ClassId} {ks ad : List Nat} {wq : List (Nat × Nat)} {ws0 w : va_W} {H H0 H1 : Heap} {locs locs1 : List Loc} (hG : zHp D cl A H0 (tyA cI cZ cB cJ cR) zKS ks ad RX0 (zPsi ks ad) wq ws0 w H locs) {i b1 b2 : Nat} {hh bb h' b' : Nat → Int32} (hi : ks[i]? = some 0) (g1 : w[i + 8]? = some (b1, .inl (cI, 40, .inl hh))) (g2 : w[i + 9]? = some (b2, .inl (cI, 40, .inl bb))) (m1 : ∀ n, n < 40 → -1 ≤ (h' n).toInt ∧ (h' n).toInt ≤ 11) (m2 : ∀ n, n < 40 → -1 ≤ (b' n).toInt ∧ (b' n).toInt ≤ 9) (hr : ∀ n : Nat, n < 40 → zrl (h' n) (b' n))
    (a1 : va_P D cl ((w.set (i + 8) (b1, .inl (cI, 40, .inl h'))).set (i + 9) (b2, .inl (cI, 40, .inl b'))) H1) (a2 : va_D A ((w.set (i + 8) (b1, .inl (cI, 40, .inl h'))).set (i + 9) (b2, .inl (cI, 40, .inl b')))) (a3 : va_S A H0 H1 locs1) : zHp D cl A H0 (tyA cI cZ cB cJ cR) zKS ks ad RX0 (zPsi ks ad) wq ws0 ((w.set (i + 8) (b1, .inl (cI, 40, .inl h'))).set (i + 9) (b2, .inl (cI, 40, .inl b'))) H1 locs1 := by
  obtain ⟨-, -, k1, k2, -⟩ := hG.2.2.2.2.1.1 i hi
  have g2' : (w.set (i + 8) (b1, (.inl (cI, 40, .inl h') : va_E)))[i + 9]? = some (b2, .inl (cI, 40, .inl bb)) := (List.getElem?_set_ne (by omega)).trans g2
  have c1 := zconf_set hG.2.2.2.1 k1 g1 (rfl : zKS[14]? = _) (e' := .inl (cI, 40, .inl h')) ⟨rfl, rfl, by decide, m1⟩
  have c2 := zconf_set c1 k2 g2' (rfl : zKS[15]? = _) (e' := .inl (cI, 40, .inl b')) ⟨rfl, rfl, by decide, m2⟩
  refine ⟨a1, a2, a3, c2, zPsi_pair hG.2.2.2.2.1 hi g1 g2 hr, fun k f hf => ?_⟩
  rw [zfv_set g2' k2 k f (fun e9 => by subst e9; rw [zav_un (by decide), zav_un (by decide)]), zfv_set g1 k1 k f (fun e9 => by subst e9; rw [zav_un (by decide), zav_un (by decide)])]
  exact hG.2.2.2.2.2 k f hf
theorem zcityP {cI cZ cB cJ cR : ClassId} {ks ad : List Nat} {w : va_W} {i a : Nat} (hc : zconf zKS ks ad RX0 (tyA cI cZ cB cJ cR) w) (hp : zPsi ks ad w) (h1 : ks[i]? = some 0) (h2 : ad[i]? = some a) : ∃ (r0 : Nat) (n1 n2 n3 : Int32) (r4 r5 r6 r7 r8 : Nat) (n9 : Int32) (r10 r11 r12 r13 : Nat), w[i]? = some (a, .inr (0, zCf r0 n1 n2 n3 r4 r5 r6 r7 r8 n9 r10 r11 r12 r13)) ∧ (0 ≤ n2.toInt ∧ n2.toInt ≤ 7) ∧ (0 ≤ n9.toInt ∧ n9.toInt ≤ 40) ∧
    (∃ j : Nat, ks[j]? = some 7 ∧ ad[j]? = some r0) ∧ (∃ j : Nat, ks[j]? = some 8 ∧ ad[j]? = some r4) ∧ (∃ j : Nat, ks[j]? = some 9 ∧ ad[j]? = some r5) ∧ (∃ j : Nat, ks[j]? = some 10 ∧ ad[j]? = some r6) ∧ (∃ j : Nat, ks[j]? = some 11 ∧ ad[j]? = some r7) ∧ (∃ j : Nat, ks[j]? = some 12 ∧ ad[j]? = some r8) ∧ (∃ j : Nat, ks[j]? = some 13 ∧ ad[j]? = some r10) ∧ (ks[i + 8]? = some 14 ∧ ad[i + 8]? = some r11) ∧ (ks[i + 9]? = some 15 ∧ ad[i + 9]? = some r12) ∧ (∃ j : Nat, ks[j]? = some 16 ∧ ad[j]? = some r13) := by
  obtain ⟨r0, n1, n2, n3, r4, r5, r6, r7, r8, n9, r10, r11, r12, r13, hcity, q1, q2, q3, q4, q5, q6, q7, q8, q9, q10, q11, q12⟩ := zcity hc h1 h2
  obtain ⟨a1, a2, p1, p2, p3, p4, p5, -⟩ := hp.1 i h1
  obtain ⟨e1, e2⟩ := p5 _ _ _ hcity
  have e1 : some (Value.ref r11) = some (.ref a1) := e1
  have e2 : some (Value.ref r12) = some (.ref a2) := e2
  cases e1
  cases e2
  exact ⟨r0, n1, n2, n3, r4, r5, r6, r7, r8, n9, r10, r11, r12, r13, hcity, q1, q2, q3, q4, q5, q6, q7, q8, q9, ⟨p1, p3⟩, ⟨p2, p4⟩, q12⟩
theorem updB {f : Nat → Int32} {j q : Nat} {y : Int32} {lo hi : Int} (h : lo ≤ (f q).toInt ∧ (f q).toInt ≤ hi) (hy : lo ≤ y.toInt ∧ y.toInt ≤ hi) : lo ≤ (upd f j y q).toInt ∧ (upd f j y q).toInt ≤ hi := by
  unfold upd
  split
  · exact hy
  · exact h
theorem updR {f g : Nat → Int32} {j q : Nat} {y z : Int32} (h : zrl (f q) (g q)) (hy : zrl y z) : zrl (upd f j y q) (upd g j z q) := by
  unfold upd
  split
  · exact hy
  · exact h
