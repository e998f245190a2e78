/-! where class and reference say the same of a table -/
theorem hsB_iff {rr m : Nat} {t : List Nat} {k w : Nat} : ∀ {j : Nat}, hsB rr m t k w j = true ↔ ∃ i, i < j ∧ t.getD i 0 = w ∧ bsB rr m k i = true
  | 0 => ⟨fun h => (by cases h), fun ⟨i, h, _⟩ => absurd h (by omega)⟩
  | j + 1 => by
    rw [hsB, Bool.or_eq_true, Bool.and_eq_true, decide_eq_true_iff, hsB_iff (j := j)]
    constructor
    · rintro (⟨i, h1, h2, h3⟩ | ⟨h2, h3⟩)
      · exact ⟨i, by omega, h2, h3⟩
      · exact ⟨j, by omega, h2, h3⟩
    · rintro ⟨i, h1, h2, h3⟩
      by_cases e : i = j
      · subst e; exact Or.inr ⟨h2, h3⟩
      · exact Or.inl ⟨i, by omega, h2, h3⟩
theorem rf_cont {rr m k : Nat} {t : List Nat} {wl : List (Option Nat)} (hr : rr ≤ 1) (hk : k < m) (hw : ∀ w, wl.getD (t.getD k 0) none = some w → w ≠ t.getD k 0) : rfB rr m t wl k = contB (decide (rr = 1)) m t wl k := by
  unfold rfB contB
  cases hx : wl.getD (t.getD k 0) none with
  | none => rfl
  | some w =>
    simp only
    have hne := hw w hx
    rw [Bool.eq_iff_iff, hsB_iff, Bool.or_eq_true, Bool.and_eq_true, Bool.and_eq_true, Bool.or_eq_true, Bool.or_eq_true, decide_eq_true_iff, decide_eq_true_iff, decide_eq_true_iff, decide_eq_true_iff, decide_eq_true_iff]
    constructor
    · rintro ⟨i, h1, h2, h3⟩
      have h4 := of_decide_eq_true h3
      by_cases c1 : k = i + 1
      · left
        refine ⟨Or.inl (by omega), ?_⟩
        rw [if_pos (by omega), show k - 1 = i by omega]; exact h2
      · by_cases c2 : i = k + 1
        · right
          refine ⟨Or.inl (by omega), ?_⟩
          rw [nxS_in (by omega), ← c2]; exact h2
        · by_cases c3 : k = i + (m - 1)
          · right
            refine ⟨Or.inr (by omega), ?_⟩
            have e0 : i = 0 := by omega
            rw [e0] at h2
            rw [nxS_last (by omega)]; exact h2
          · left
            refine ⟨Or.inr (by omega), ?_⟩
            have e0 : i = m - 1 := by omega
            rw [e0] at h2
            rw [if_neg (by omega)]; exact h2
    · rintro (⟨h1, h2⟩ | ⟨h1, h2⟩)
      · by_cases c : 0 < k
        · rw [if_pos c] at h2
          exact ⟨k - 1, by omega, h2, decide_eq_true (by omega)⟩
        · rw [if_neg c] at h2
          have : m - 1 ≠ k := fun q => hne (by rw [← q]; exact h2.symm)
          exact ⟨m - 1, by omega, h2, decide_eq_true (by omega)⟩
      · by_cases c : k + 1 < m
        · rw [nxS_in c] at h2
          exact ⟨k + 1, by omega, h2, decide_eq_true (by omega)⟩
        · rw [nxS_last c] at h2
          have : 0 ≠ k := fun q => hne (by rw [← q]; exact h2.symm)
          exact ⟨0, by omega, h2, decide_eq_true (by omega)⟩
theorem ffrom_cong {f g : Nat → Bool} : ∀ {q k : Nat}, (∀ i, k ≤ i → i < k + q → f i = g i) → ffrom f q k = ffrom g q k
  | 0, _, _ => rfl
  | q + 1, k, h => by rw [ffrom, ffrom, h k (Nat.le_refl _) (by omega), ffrom_cong (fun i h1 h2 => h i (by omega) (by omega))]
/-- nobody owes themself -/
def Dg (D : List Nat) : Prop := ∀ i, i < 7 → D.getD (i * 7 + i) 0 = 0
theorem wl_ne {K N D : List Nat} {n A : Nat} {e : Int32} (hd : Dg D) {i w : Nat} (h : (wlS K N D n A e).getD i none = some w) : w ≠ i := by
  intro q
  by_cases hi : i < 7
  · rw [wlS_get hi] at h
    split at h
    · have h2 := (wishO_lt h).2.2
      rw [q, hd i hi] at h2
      omega
    · cases h
  · rw [List.getD_eq_getElem?_getD, List.getElem?_eq_none (by simp [wlS]; omega)] at h
    cases h
theorem unl_eq {rr m n : Nat} {K N D : List Nat} {fr : Int32} {t : List Nat} {A : Nat} (hr : rr ≤ 1) (hd : Dg D) (hA : setS t m = A) : ffrom (fun s => !rfB rr m t (wlS K N D n (setS t m) fr) s) m 0 = ffrom (fun s => !contB (decide (rr = 1)) m t (wlS K N D n A fr) s) m 0 := by
  rw [hA]
  exact ffrom_cong (fun i _ hi => by simp only [rf_cont hr (show i < m by omega) (fun w hw => wl_ne hd hw)])
/-! joy: all neighbours, or all pairs -/
def rowZ (g : Nat → Nat → Int) (bs : Nat → Nat → Bool) (x : Nat) (s : Int) : Nat → Int
  | 0 => s
  | k + 1 => rowZ g bs x s k + (if bs x k = true then g x k else 0)
def allZ (g : Nat → Nat → Int) (bs : Nat → Nat → Bool) (m : Nat) : Nat → Int
  | 0 => 0
  | k + 1 => rowZ g bs k (allZ g bs m k) m
theorem rowJ_Z {g : Nat → Nat → Int32} {bs : Nat → Nat → Bool} {x : Nat} {s : Int32} {z c : Int} (hz : s.toInt = z) (hc : -c ≤ z ∧ z ≤ c) : ∀ (k : Nat), c + 300 * (k : Int) ≤ 2000000000 → (∀ y, y < k → -300 ≤ (g x y).toInt ∧ (g x y).toInt ≤ 300) → (rowJ g bs x s k).toInt = rowZ (fun x y => (g x y).toInt) bs x z k ∧ -(c + 300 * (k : Int)) ≤ rowZ (fun x y => (g x y).toInt) bs x z k ∧ rowZ (fun x y => (g x y).toInt) bs x z k ≤ c + 300 * (k : Int)
  | 0, h1, h2 => by
    rw [rowJ, rowZ]
    exact ⟨hz, by omega, by omega⟩
  | k + 1, h1, h2 => by
    obtain ⟨e, e1, e2⟩ := rowJ_Z (g := g) (bs := bs) (x := x) hz hc k (by omega) (fun y hy => h2 y (by omega))
    have h3 := h2 k (by omega)
    rw [rowJ, rowZ]
    by_cases hb : bs x k = true
    · rw [if_pos hb, if_pos hb, Int32.toInt_add, e, bm32 (by omega) (by omega)]
      exact ⟨rfl, by omega, by omega⟩
    · rw [if_neg hb, if_neg hb, Int32.toInt_add, e, tI_nI (by omega), bm32 (by omega) (by omega)]
      exact ⟨rfl, by omega, by omega⟩
theorem allJ_Z {g : Nat → Nat → Int32} {bs : Nat → Nat → Bool} {m : Nat} (hm : m ≤ 7) : ∀ (k : Nat), k ≤ 7 → (∀ x y, x < k → y < m → -300 ≤ (g x y).toInt ∧ (g x y).toInt ≤ 300) → (allJ g bs m k).toInt = allZ (fun x y => (g x y).toInt) bs m k ∧ -(2100 * (k : Int)) ≤ allZ (fun x y => (g x y).toInt) bs m k ∧ allZ (fun x y => (g x y).toInt) bs m k ≤ 2100 * (k : Int)
  | 0, _, _ => by
    rw [allJ, allZ]
    exact ⟨by decide, by omega, by omega⟩
  | k + 1, hk, h => by
    obtain ⟨e, e1, e2⟩ := allJ_Z (g := g) (bs := bs) hm k (by omega) (fun x y hx hy => h x y (by omega) hy)
    rw [allJ, allZ]
    obtain ⟨f, f1, f2⟩ := rowJ_Z (g := g) (bs := bs) (x := k) (c := 2100 * (k : Int)) e ⟨e1, e2⟩ m (by omega) (fun y hy => h k y (by omega) hy)
    exact ⟨f, by omega, by omega⟩
theorem allZ_pairs {g : Nat → Nat → Int} {rr m : Nat} (hr : rr ≤ 1) (hm : m ≤ 7) : allZ g (bsB rr m) m m = psum (fun s => g s (nxS m s) + g (nxS m s) s) (prS (decide (rr = 1)) m) := by
  rcases (show rr = 0 ∨ rr = 1 by omega) with rfl | rfl <;> rcases (show m = 0 ∨ m = 1 ∨ m = 2 ∨ m = 3 ∨ m = 4 ∨ m = 5 ∨ m = 6 ∨ m = 7 by omega) with rfl | rfl | rfl | rfl | rfl | rfl | rfl | rfl <;> simp [allZ, rowZ, psum, prS, nxS, bsB] <;> omega
/-- how glad one can be -/
theorem gladI_b {k nu : Nat} {v : Int32} {w : Bool} (hn : nu ≤ 9) (h1 : -99 ≤ v.toInt) (h2 : v.toInt ≤ 99) : -300 ≤ (gladI k nu v w).toInt ∧ (gladI k nu v w).toInt ≤ 300 := by
  have e1 : (v + nI 10).toInt = v.toInt + 10 := by rw [Int32.toInt_add, tI_nI (by omega), bm32 (by omega) (by omega)]; rfl
  have e2 : (v - nI 5).toInt = v.toInt - 5 := by rw [Int32.toInt_sub, tI_nI (by omega), bm32 (by omega) (by omega)]; rfl
  have e3 : ∀ x : Int32, -120 ≤ x.toInt → x.toInt ≤ 120 → (nI 2 * x).toInt = 2 * x.toInt := by
    intro x a b
    rw [Int32.toInt_mul, tI_nI (by omega), bm32 (by omega) (by omega)]
    rfl
  have e4 : ∀ x : Int32, -300 ≤ x.toInt → x.toInt ≤ 300 → (x + nI nu).toInt = x.toInt + nu := by
    intro x a b
    rw [Int32.toInt_add, tI_nI (by omega), bm32 (by omega) (by omega)]
  have e5 : (nI 3).toInt = 3 := tI_nI (by omega)
  have e6 := e3 (v + nI 10) (by omega) (by omega)
  have e7 := e3 v (by omega) (by omega)
  have e8 := e4 (nI 2 * (v + nI 10)) (by omega) (by omega)
  have e9 := e4 (nI 2 * v) (by omega) (by omega)
  unfold gladI
  cases w <;> simp only [↓reduceIte, Bool.false_eq_true] <;> (repeat' split) <;> omega
theorem gdI_b {S : List Nat} {jf : Nat} {K N : List Nat} {W : List Int32} {D : List Nat} {a b s m : Nat} (hN : ∀ k, N.getD k 0 ≤ 9) : -300 ≤ (gdI S jf K N W D a b s m).toInt ∧ (gdI S jf K N W D a b s m).toInt ≤ 300 := by
  unfold gdI
  exact gladI_b (hN a) (tellV_b _ _ _ _).1 (tellV_b _ _ _ _).2
theorem jpI_Z {S : List Nat} {jf : Nat} {K N : List Nat} {W : List Int32} {D : List Nat} {a sa b sb m : Nat} (hN : ∀ k, N.getD k 0 ≤ 9) : (jpI S jf K N W D a sa b sb m).toInt = (gdI S jf K N W D a b sa m).toInt + (gdI S jf K N W D b a sb m).toInt := by
  have h1 := gdI_b (S := S) (jf := jf) (K := K) (W := W) (D := D) (a := a) (b := b) (s := sa) (m := m) hN
  have h2 := gdI_b (S := S) (jf := jf) (K := K) (W := W) (D := D) (a := b) (b := a) (s := sb) (m := m) hN
  rw [jpI, Int32.toInt_add, bm32 (by omega) (by omega)]
theorem joy_tot {S : List Nat} {lf jf : Nat} {K N : List Nat} {W : List Int32} {D : List Nat} {rr m : Nat} {t : List Nat} (hr : rr ≤ 1) (hm : m ≤ 7) (hN : ∀ k, N.getD k 0 ≤ 9) : (allJ (fun x y => gdI S jf K N W D (t.getD x 0) (t.getD y 0) x m) (bsB rr m) m m).toInt = totB (vW false S lf jf K N W D m) (decide (rr = 1)) m t := by
  rw [(allJ_Z hm m hm (fun x y _ _ => gdI_b hN)).1, allZ_pairs hr hm, totB]
  refine psum_cong (fun s hs => ?_)
  rw [prI, vW, if_neg (by decide), jpI_Z hN]
/-- a sum over the first pairs -/
theorem sumI_Z {f : Nat → Int32} {P : Nat → Int} : ∀ {k : Nat}, k ≤ 7 → (∀ s, s < k → (f s).toInt = P s ∧ -2000 ≤ P s ∧ P s ≤ 2000) → (sumI f k).toInt = psum P k
  | 0, _, _ => by rw [sumI, psum]; decide
  | k + 1, hk, h => by
    have h1 := psum_b (P := P) (k := k) (fun s hs => (h s (by omega)).2)
    have h2 := h k (by omega)
    rw [sumI, psum, Int32.toInt_add, sumI_Z (by omega) (fun s hs => h s (by omega)), h2.1, bm32 (by omega) (by omega)]
theorem joy_eq {S : List Nat} {jf : Nat} {K N : List Nat} {W : List Int32} {D : List Nat} {rr m : Nat} {t : List Nat} (hr : rr ≤ 1) (hm : m ≤ 7) (hN : ∀ k, N.getD k 0 ≤ 9) : allJ (fun x y => gdI S jf K N W D (t.getD x 0) (t.getD y 0) x m) (bsB rr m) m m = sumI (jyI S jf K N W D t m) (prS (decide (rr = 1)) m) := by
  have hp := prS_le (r := decide (rr = 1)) (m := m)
  rw [← Int32.toInt_inj, (allJ_Z hm m hm (fun x y _ _ => gdI_b hN)).1, allZ_pairs hr hm]
  symm
  refine sumI_Z (by omega) (fun s hs => ?_)
  have h1 := gdI_b (S := S) (jf := jf) (K := K) (W := W) (D := D) (a := t.getD s 0) (b := t.getD (nxS m s) 0) (s := s) (m := m) hN
  have h2 := gdI_b (S := S) (jf := jf) (K := K) (W := W) (D := D) (a := t.getD (nxS m s) 0) (b := t.getD s 0) (s := nxS m s) (m := m) hN
  exact ⟨jpI_Z hN, by omega, by omega⟩
/-! what a dinner clears -/
def fgV (S : List Nat) (lf : Nat) (K N : List Nat) (W : List Int32) (one nb seat size x y : Nat) : Nat :=
  x - min (letsS (K.getD one 0) (N.getD one 0) x (tellN [nI x, nI y, nI (N.getD one 0), nI size, nI seat, bI (decide (W.getD one 0 = nI nb))] S 0 lf)) x
def ldV (S : List Nat) (lf jf : Nat) (K N : List Nat) (W : List Int32) (one nb seat size x y : Nat) : Nat :=
  min (x + lendS (K.getD one 0) (N.getD one 0) (tellN [nI x, nI y, nI (N.getD one 0), nI size, nI seat, bI (decide (W.getD one 0 = nI nb))] S lf jf)) 999
theorem fgD_V {S : List Nat} {lf : Nat} {K N : List Nat} {W : List Int32} {one nb seat size : Nat} {D : List Nat} : fgD S lf K N W one nb seat size D = D.set (nb * 7 + one) (fgV S lf K N W one nb seat size (D.getD (nb * 7 + one) 0) (D.getD (one * 7 + nb) 0)) := rfl
theorem ldD_V {S : List Nat} {lf jf : Nat} {K N : List Nat} {W : List Int32} {one nb seat size : Nat} {D : List Nat} : ldD S lf jf K N W one nb seat size D = D.set (nb * 7 + one) (ldV S lf jf K N W one nb seat size (D.getD (nb * 7 + one) 0) (D.getD (one * 7 + nb) 0)) := rfl
theorem get4 {D : List Nat} {i j x1 y1 x2 y2 : Nat} (hij : i ≠ j) (hi : i < D.length) (hj : j < D.length) : (((D.set i x1).set j y1).set i x2).getD i 0 = x2 ∧ ((((D.set i x1).set j y1).set i x2).set j y2).getD i 0 = x2 ∧ ((((D.set i x1).set j y1).set i x2).set j y2).getD j 0 = y2 ∧ ∀ k, k ≠ i → k ≠ j → ((((D.set i x1).set j y1).set i x2).set j y2).getD k 0 = D.getD k 0 := by
  refine ⟨?_, ?_, ?_, fun k h1 h2 => ?_⟩
  · rw [getD_set, if_pos ⟨rfl, by simp; omega⟩]
  · rw [getD_set, if_neg (fun q => hij q.1.symm), getD_set, if_pos ⟨rfl, by simp; omega⟩]
  · rw [getD_set, if_pos ⟨rfl, by simp; omega⟩]
  · rw [getD_set, if_neg (fun q => h2 q.1.symm), getD_set, if_neg (fun q => h1 q.1.symm), getD_set, if_neg (fun q => h2 q.1.symm), getD_set, if_neg (fun q => h1 q.1.symm)]
/-- a pair's dinner changes what the two owe each other, by what they owe each other -/
theorem mtD_loc (S : List Nat) (lf jf : Nat) (K N : List Nat) (W : List Int32) (a sa b sb size : Nat) (ha : a < 7) (hb : b < 7) (hab : a ≠ b) : ∃ X Y : Nat → Nat → Nat, ∀ D : List Nat, D.length = 49 → ∃ x1 y1 : Nat, mtD S lf jf K N W a sa b sb size D = (((D.set (a * 7 + b) x1).set (b * 7 + a) y1).set (a * 7 + b) (X (D.getD (a * 7 + b) 0) (D.getD (b * 7 + a) 0))).set (b * 7 + a) (Y (D.getD (a * 7 + b) 0) (D.getD (b * 7 + a) 0)) := by
  refine ⟨fun x y => ldV S lf jf K N W b a sb size (fgV S lf K N W b a sb size x y) (fgV S lf K N W a b sa size y (fgV S lf K N W b a sb size x y)), fun x y => ldV S lf jf K N W a b sa size (fgV S lf K N W a b sa size y (fgV S lf K N W b a sb size x y)) (ldV S lf jf K N W b a sb size (fgV S lf K N W b a sb size x y) (fgV S lf K N W a b sa size y (fgV S lf K N W b a sb size x y))), fun D hD => ?_⟩
  have hij : a * 7 + b ≠ b * 7 + a := by omega
  refine ⟨fgV S lf K N W b a sb size (D.getD (a * 7 + b) 0) (D.getD (b * 7 + a) 0), fgV S lf K N W a b sa size (D.getD (b * 7 + a) 0) (fgV S lf K N W b a sb size (D.getD (a * 7 + b) 0) (D.getD (b * 7 + a) 0)), ?_⟩
  have g1 : ∀ {i : Nat} {l : List Nat} {v : Nat}, i < l.length → (l.set i v).getD i 0 = v := fun {i l v} h => by rw [getD_set, if_pos ⟨rfl, h⟩]
  have g2 : ∀ {i j : Nat} {l : List Nat} {v : Nat}, j ≠ i → (l.set j v).getD i 0 = l.getD i 0 := fun {i j l v} h => by rw [getD_set, if_neg (fun q => h q.1)]
  rw [mtD, fgD_V (one := b), fgD_V (one := a), ldD_V (one := b), ldD_V (one := a)]
  rw [g2 (i := b * 7 + a) (j := a * 7 + b) hij, g1 (i := a * 7 + b) (l := D) (by omega)]
  rw [g2 (i := a * 7 + b) (j := b * 7 + a) hij.symm, g1 (i := a * 7 + b) (l := D) (by omega), g1 (i := b * 7 + a) (by rw [List.length_set]; omega)]
  rw [g2 (i := b * 7 + a) (j := a * 7 + b) hij, g1 (i := b * 7 + a) (by rw [List.length_set]; omega), g1 (i := a * 7 + b) (by rw [List.length_set, List.length_set]; omega)]
theorem rowS_set {D : List Nat} {a b v p : Nat} (hb : b < 7) (hl : a * 7 + b < D.length) (hp : p < 7) (ha : a < 7) : ∀ {k : Nat}, k ≤ 7 → ((rowS (D.set (a * 7 + b) v) p k : Nat) : Int) = (rowS D p k : Nat) + (if p = a ∧ b < k then ((v : Nat) : Int) - ((D.getD (a * 7 + b) 0 : Nat) : Int) else 0)
  | 0, _ => by rw [rowS, rowS, if_neg (by omega)]; rfl
  | k + 1, hk => by
    have ih := rowS_set (D := D) (v := v) hb hl hp ha (k := k) (by omega)
    rw [rowS, rowS, Int.natCast_add, ih, getD_set]
    by_cases e : p = a ∧ k = b
    · obtain ⟨rfl, rfl⟩ := e
      rw [if_neg (by omega), if_pos ⟨rfl, hl⟩, if_pos ⟨rfl, by omega⟩]
      omega
    · rw [if_neg (show ¬ (a * 7 + b = p * 7 + k ∧ a * 7 + b < D.length) by omega)]
      by_cases c : p = a ∧ b < k
      · rw [if_pos c, if_pos ⟨c.1, by omega⟩]; omega
      · rw [if_neg c, if_neg (show ¬ (p = a ∧ b < k + 1) by omega)]; omega
theorem allS_set {D : List Nat} {a b v n : Nat} (hn : n ≤ 7) (ha : a < n) (hb : b < n) (hl : a * 7 + b < D.length) : ∀ {k : Nat}, k ≤ 7 → ((allS (D.set (a * 7 + b) v) n k : Nat) : Int) = (allS D n k : Nat) + (if a < k then ((v : Nat) : Int) - ((D.getD (a * 7 + b) 0 : Nat) : Int) else 0)
  | 0, _ => by rw [allS, allS, if_neg (by omega)]; rfl
  | k + 1, hk => by
    have ih := allS_set (D := D) (v := v) hn ha hb hl (k := k) (by omega)
    rw [allS, allS, Int.natCast_add, ih, rowS_set (by omega) hl (by omega) (by omega) hn]
    by_cases e : k = a
    · subst e
      rw [if_neg (by omega), if_pos ⟨rfl, hb⟩, if_pos (by omega)]
      omega
    · rw [if_neg (show ¬ (k = a ∧ b < n) from fun q => e q.1)]
      by_cases c : a < k
      · rw [if_pos c, if_pos (by omega)]; omega
      · rw [if_neg c, if_neg (by omega)]; omega
/-- a pair's dinner clears as much of all as of the two -/
theorem mtD_all {S : List Nat} {lf jf : Nat} {K N : List Nat} {W : List Int32} {a sa b sb size n : Nat} {D : List Nat} (hn : n ≤ 7) (ha : a < n) (hb : b < n) (hab : a ≠ b) (hD : D.length = 49) : ((allS (mtD S lf jf K N W a sa b sb size D) n n : Nat) : Int) = (allS D n n : Nat) - ((D.getD (a * 7 + b) 0 : Nat) : Int) - ((D.getD (b * 7 + a) 0 : Nat) : Int) + (((mtD S lf jf K N W a sa b sb size D).getD (a * 7 + b) 0 : Nat) : Int) + (((mtD S lf jf K N W a sa b sb size D).getD (b * 7 + a) 0 : Nat) : Int) := by
  obtain ⟨X, Y, h⟩ := mtD_loc S lf jf K N W a sa b sb size (by omega) (by omega) hab
  obtain ⟨x1, y1, e⟩ := h D hD
  have hij : a * 7 + b ≠ b * 7 + a := by omega
  rw [e]
  generalize X (D.getD (a * 7 + b) 0) (D.getD (b * 7 + a) 0) = x2
  generalize Y (D.getD (a * 7 + b) 0) (D.getD (b * 7 + a) 0) = y2
  have g := get4 (D := D) (x1 := x1) (y1 := y1) (x2 := x2) (y2 := y2) hij (by omega) (by omega)
  rw [g.2.1, g.2.2.1]
  have g1 : ∀ {i : Nat} {l : List Nat} {v : Nat}, i < l.length → (l.set i v).getD i 0 = v := fun {i l v} h => by rw [getD_set, if_pos ⟨rfl, h⟩]
  have g2 : ∀ {i j : Nat} {l : List Nat} {v : Nat}, j ≠ i → (l.set j v).getD i 0 = l.getD i 0 := fun {i j l v} h => by rw [getD_set, if_neg (fun q => h q.1)]
  rw [allS_set hn hb ha (by simp only [List.length_set]; omega) hn, allS_set hn ha hb (by simp only [List.length_set]; omega) hn, allS_set hn hb ha (by simp only [List.length_set]; omega) hn, allS_set hn ha hb (by omega) hn]
  simp only [if_pos ha, if_pos hb]
  have E1 : (((D.set (a * 7 + b) x1).set (b * 7 + a) y1).set (a * 7 + b) x2).getD (b * 7 + a) 0 = y1 := by rw [g2 hij, g1 (by simp only [List.length_set]; omega)]
  have E2 : ((D.set (a * 7 + b) x1).set (b * 7 + a) y1).getD (a * 7 + b) 0 = x1 := by rw [g2 hij.symm, g1 (by omega)]
  have E3 : (D.set (a * 7 + b) x1).getD (b * 7 + a) 0 = D.getD (b * 7 + a) 0 := g2 hij
  rw [E1, E2]
  try rw [E3]
  omega
theorem clI_Z {S : List Nat} {lf jf : Nat} {K N : List Nat} {W : List Int32} {a sa b sb size : Nat} {D : List Nat} (hD : D49 D) : (clI S lf jf K N W D a sa b sb size).toInt = ((D.getD (a * 7 + b) 0 : Nat) : Int) + ((D.getD (b * 7 + a) 0 : Nat) : Int) - (((mtD S lf jf K N W a sa b sb size D).getD (a * 7 + b) 0 : Nat) : Int) - (((mtD S lf jf K N W a sa b sb size D).getD (b * 7 + a) 0 : Nat) : Int) ∧ -2000 ≤ (clI S lf jf K N W D a sa b sb size).toInt ∧ (clI S lf jf K N W D a sa b sb size).toInt ≤ 2000 := by
  have h1 := hD.2 (a * 7 + b)
  have h2 := hD.2 (b * 7 + a)
  have h3 := (mtD_ok (S := S) (lf := lf) (jf := jf) (K := K) (N := N) (W := W) (a := a) (sa := sa) (b := b) (sb := sb) (size := size) hD).2 (a * 7 + b)
  have h4 := (mtD_ok (S := S) (lf := lf) (jf := jf) (K := K) (N := N) (W := W) (a := a) (sa := sa) (b := b) (sb := sb) (size := size) hD).2 (b * 7 + a)
  have e : (clI S lf jf K N W D a sa b sb size).toInt = ((D.getD (a * 7 + b) 0 : Nat) : Int) + ((D.getD (b * 7 + a) 0 : Nat) : Int) - (((mtD S lf jf K N W a sa b sb size D).getD (a * 7 + b) 0 : Nat) : Int) - (((mtD S lf jf K N W a sa b sb size D).getD (b * 7 + a) 0 : Nat) : Int) := by
    unfold clI
    rw [Int32.toInt_sub, tI_nI (by omega), tI_nI (by omega), bm32 (by omega) (by omega)]
    omega
  exact ⟨e, by omega, by omega⟩
