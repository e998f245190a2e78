/-! draws upon draws: what was drawn before doesn't count -/
theorem drIn_m {i : Nat} (hi : i < 7) : ∀ (j : Nat) (x x' : Int32 × List Nat), j ≤ 7 → x.1 = x'.1 → x.2.length = 49 → x'.2.length = 49 → (drIn i j x).1 = (drIn i j x').1 ∧ ∀ k, ((∃ b, b < j ∧ b ≠ i ∧ k = i * 7 + b) → (drIn i j x).2.getD k 0 = (drIn i j x').2.getD k 0) ∧ ((¬ ∃ b, b < j ∧ b ≠ i ∧ k = i * 7 + b) → (drIn i j x).2.getD k 0 = x.2.getD k 0)
  | 0, x, x', _, h, _, _ => ⟨h, fun k => ⟨fun ⟨b, hb, _⟩ => absurd hb (by omega), fun _ => rfl⟩⟩
  | j + 1, x, x', hj, h, l, l' => by
    obtain ⟨e1, e2⟩ := drIn_m hi j x x' (by omega) h l l'
    rw [drIn, drIn]
    by_cases c : i = j
    · rw [if_pos c, if_pos c]
      refine ⟨e1, fun k => ⟨fun ⟨b, hb, hb2, hk⟩ => (e2 k).1 ⟨b, by omega, hb2, hk⟩, fun hn => (e2 k).2 (fun ⟨b, hb, hb2, hk⟩ => hn ⟨b, by omega, hb2, hk⟩)⟩⟩
    · rw [if_neg c, if_neg c]
      have a1 : ∀ y : Int32 × List Nat, y.2.length = 49 → (drIn i j y).2.length = 49 := fun y hy => by
        have : ∀ (j : Nat) (y : Int32 × List Nat), (drIn i j y).2.length = y.2.length := fun j => by
          induction j with
          | zero => exact fun y => rfl
          | succ j ih =>
            intro y
            rw [drIn]
            by_cases c : i = j
            · rw [if_pos c]; exact ih y
            · rw [if_neg c]
              show ((drIn i j y).2.set _ _).length = _
              rw [List.length_set]; exact ih y
        rw [this]; exact hy
      refine ⟨by show drZ (drIn i j x).1 = drZ (drIn i j x').1; rw [e1], fun k => ?_⟩
      show (_ → ((drIn i j x).2.set (i * 7 + j) (drV (drZ (drIn i j x).1))).getD k 0 = ((drIn i j x').2.set (i * 7 + j) (drV (drZ (drIn i j x').1))).getD k 0) ∧ (_ → ((drIn i j x).2.set (i * 7 + j) (drV (drZ (drIn i j x).1))).getD k 0 = x.2.getD k 0)
      rw [getD_set, getD_set, a1 x l, a1 x' l', ← e1]
      by_cases e : i * 7 + j = k
      · have hlt : i * 7 + j < 49 := by omega
        rw [if_pos ⟨e, hlt⟩, if_pos ⟨e, hlt⟩]
        exact ⟨fun _ => rfl, fun hn => absurd ⟨j, by omega, fun z => c z.symm, e.symm⟩ hn⟩
      · rw [if_neg (fun z => e z.1), if_neg (fun z => e z.1)]
        exact ⟨fun ⟨b, hb, hb2, hk⟩ => (e2 k).1 ⟨b, by
          by_cases q : b = j
          · subst q; exact absurd hk.symm e
          · omega, hb2, hk⟩, fun hn => (e2 k).2 (fun ⟨b, hb, hb2, hk⟩ => hn ⟨b, by omega, hb2, hk⟩)⟩
theorem drOut_m {n : Nat} (hn : n ≤ 7) : ∀ (i : Nat) (x x' : Int32 × List Nat), i ≤ n → x.1 = x'.1 → x.2.length = 49 → x'.2.length = 49 → (∀ k, x.2.getD k 0 ≤ 999) → (∀ k, x'.2.getD k 0 ≤ 999) → (drOut n i x).1 = (drOut n i x').1 ∧ ∀ k, ((∃ a b, a < i ∧ b < n ∧ b ≠ a ∧ k = a * 7 + b) → (drOut n i x).2.getD k 0 = (drOut n i x').2.getD k 0) ∧ ((¬ ∃ a b, a < i ∧ b < n ∧ b ≠ a ∧ k = a * 7 + b) → (drOut n i x).2.getD k 0 = x.2.getD k 0)
  | 0, x, x', _, h, _, _, _, _ => ⟨h, fun k => ⟨fun ⟨a, _, ha, _⟩ => absurd ha (by omega), fun _ => rfl⟩⟩
  | i + 1, x, x', hi, h, l, l', b, b' => by
    obtain ⟨e1, e2⟩ := drOut_m hn i x x' (by omega) h l l' b b'
    obtain ⟨-, f2⟩ := drOut_m hn i x' x (by omega) h.symm l' l b' b
    obtain ⟨g1, g2⟩ := drIn_m (i := i) (by omega) n (drOut n i x) (drOut n i x') hn e1 (drOut_ok n i x l b).1 (drOut_ok n i x' l' b').1
    obtain ⟨-, g3⟩ := drIn_m (i := i) (by omega) n (drOut n i x') (drOut n i x) hn e1.symm (drOut_ok n i x' l' b').1 (drOut_ok n i x l b).1
    rw [drOut, drOut]
    refine ⟨g1, fun k => ⟨fun ⟨a, c, ha, hc, hac, hk⟩ => ?_, fun hno => ?_⟩⟩
    · by_cases q : ∃ b, b < n ∧ b ≠ i ∧ k = i * 7 + b
      · exact (g2 k).1 q
      · rw [(g2 k).2 q, (g3 k).2 q]
        refine (e2 k).1 ⟨a, c, ?_, hc, hac, hk⟩
        by_cases q2 : a = i
        · subst q2; exact absurd ⟨c, hc, hac, hk⟩ q
        · omega
    · rw [(g2 k).2 (fun ⟨b, hb, hb2, hk⟩ => hno ⟨i, b, by omega, hb, hb2, hk⟩)]
      exact (e2 k).2 (fun ⟨a, c, ha, hc, hac, hk⟩ => hno ⟨a, c, by omega, hc, hac, hk⟩)
theorem drOut_again {n : Nat} (hn : n ≤ 7) {s s0 : Int32} {D : List Nat} (l : D.length = 49) (b : ∀ k, D.getD k 0 ≤ 999) : (drOut n n (s, (drOut n n (s0, D)).2)).2 = (drOut n n (s, D)).2 := by
  have o0 := drOut_ok n n (s0, D) l b
  have o1 := drOut_ok n n (s, (drOut n n (s0, D)).2) o0.1 o0.2
  have o2 := drOut_ok n n (s, D) l b
  obtain ⟨-, m1⟩ := drOut_m hn n (s, (drOut n n (s0, D)).2) (s, D) (Nat.le_refl _) rfl o0.1 l o0.2 b
  obtain ⟨-, m2⟩ := drOut_m hn n (s, D) (s, D) (Nat.le_refl _) rfl l l b b
  obtain ⟨-, m3⟩ := drOut_m hn n (s0, D) (s0, D) (Nat.le_refl _) rfl l l b b
  refine List.ext_getElem? (fun k => ?_)
  have e : (drOut n n (s, (drOut n n (s0, D)).2)).2.getD k 0 = (drOut n n (s, D)).2.getD k 0 := by
    by_cases q : ∃ a b, a < n ∧ b < n ∧ b ≠ a ∧ k = a * 7 + b
    · exact (m1 k).1 q
    · rw [(m1 k).2 q, (m2 k).2 q]
      exact (m3 k).2 q
  by_cases hk : k < 49
  · rw [List.getD_eq_getElem?_getD, List.getD_eq_getElem?_getD, List.getElem?_eq_getElem (by rw [o1.1]; exact hk), List.getElem?_eq_getElem (by rw [o2.1]; exact hk)] at e
    rw [List.getElem?_eq_getElem (by rw [o1.1]; exact hk), List.getElem?_eq_getElem (by rw [o2.1]; exact hk)]
    exact congrArg some e
  · rw [List.getElem?_eq_none (by rw [o1.1]; omega), List.getElem?_eq_none (by rw [o2.1]; omega)]
