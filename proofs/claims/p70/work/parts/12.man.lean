theorem zPsi_copy {ks ad : List Nat} {w : va_W} {j r a b n : Nat} {c : ClassId} {f : Nat → Int32} (h : zPsi ks ad w) (hj : ks[j]? = some 45) (hu : ∀ i : Nat, ks[i]? = some 45 → i = j) (hg : w[j]? = some (r, .inl (c, n, .inl f))) (ha : a < 5) (hb : b < 5) : zPsi ks ad (w.set j (r, .inl (c, n, .inl (zck f 160 a b 160)))) := by
  refine zPsi_act h hj hu hg (fun n hn => ?_)
  unfold zck
  by_cases hc : 160 * b ≤ 4 * n ∧ 4 * n < 160 * b + 160
  · rw [if_pos hc, if_pos (by omega), show 160 * a + (4 * n - 160 * b) = 4 * (40 * a + (n - 40 * b)) by omega, show 160 * a + (4 * n + 2 - 160 * b) = 4 * (40 * a + (n - 40 * b)) + 2 by omega]
    exact h.2 j r c _ f hj hg _ (by omega)
  · rw [if_neg hc, if_neg (by omega)]
    exact h.2 j r c _ f hj hg n hn
theorem zelA_p : ∀ a : Nat, a < 5 → ∀ b : Nat, b < 5 → ∀ k : Nat, k < 160 → zel zelA (160 * b + k) = zel zelA (160 * a + k) := by decide +kernel
theorem zelH_p : ∀ a : Nat, a < 5 → ∀ b : Nat, b < 5 → ∀ k : Nat, k < 10 → zel zelH (10 * b + k) = zel zelH (10 * a + k) := by decide +kernel
theorem zelP_p : ∀ a : Nat, a < 5 → ∀ b : Nat, b < 5 → ∀ k : Nat, k < 14 → zel zelP (14 * b + k) = zel zelP (14 * a + k) := by decide +kernel
theorem zman0 {l : Launch} {D : va_G} {cI cZ cB cJ cR : ClassId} {ks ad : List Nat} (hw : zworld ks ad zuq zNS (zPsi ks ad)) : zMan l D cI cZ cB cJ cR ks ad (zPsi ks ad) := by
  refine ⟨zh_copyFrom hw, zh_keepAct (fun h b h1 h2 b1 b2 => ⟨⟨fun _ => by omega, fun _ => by omega⟩, by omega, by omega⟩) hw, zh_keepAct (fun h b h1 h2 b1 b2 => ⟨⟨fun _ => by omega, fun _ => by omega⟩, by omega, by omega⟩) hw, zh_settle hw, zh_takeBack hw, zh_isWord, zh_acts (fun k a h1 h2 b1 b2 => ⟨⟨fun _ => by omega, fun _ => by omega⟩, by omega, by omega⟩) hw, zh_acts (fun k a h1 h2 b1 b2 => ⟨⟨fun _ => by omega, fun _ => by omega⟩, by omega, by omega⟩) hw, zh_common, ?_, ?_, ?_, ?_, ?_, zh_lays hw, zh_ringOf, zh_sizeOf, trivial⟩
  · exact zh_copyRow (M := 1) (kk := 41) rfl rfl (by decide) (by decide) (by decide) (fun a b k _ _ _ => rfl) (Or.inl (by decide)) (fun w j r a b f hj hg _ _ hp => hw.2.2.2 w j 41 r (.inl (cI, 5, .inl f)) _ hj (by decide) trivial hg hp)
  · exact zh_copyRow (M := 10) (kk := 42) zks_42 rfl (by decide) (by decide) (by decide) (fun a b k ha hb hk => zelH_p a ha b hb k hk) (Or.inr (fun b k h1 h2 hk => by have h2 : (b : Int) ≤ 3 := h2; exact zrun_mem (f := 1000) (by omega))) (fun w j r a b f hj hg _ _ hp => hw.2.2.2 w j 42 r (.inl (cI, 50, .inl f)) _ hj (by decide) trivial hg hp)
  · exact zh_copyRow (M := 14) (kk := 43) zks_43 rfl (by decide) (by decide) (by decide) (fun a b k ha hb hk => zelP_p a ha b hb k hk) (Or.inl (by decide)) (fun w j r a b f hj hg _ _ hp => hw.2.2.2 w j 43 r (.inl (cI, 70, .inl f)) _ hj (by decide) trivial hg hp)
  · exact zh_copyRow (M := 84) (kk := 44) rfl rfl (by decide) (by decide) (by decide) (fun a b k _ _ _ => rfl) (Or.inl (by decide)) (fun w j r a b f hj hg _ _ hp => hw.2.2.2 w j 44 r (.inl (cI, 420, .inl f)) _ hj (by decide) trivial hg hp)
  · exact zh_copyRow (M := 160) (kk := 45) zks_45 rfl (by decide) (by decide) (by decide) (fun a b k ha hb hk => zelA_p a ha b hb k hk) (Or.inl (by decide)) (fun w j r a b f hj hg ha hb hp => zPsi_copy hp hj (fun i hi => hw.1 45 (by decide) i j hi hj) hg ha hb)
