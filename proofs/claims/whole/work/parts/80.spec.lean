/-! what all dinners of a table clear -/
theorem Dis.inj {n m i j : Nat} {t : List Nat} (h : Dis n m t) (hi : i < m) (hj : j < m) (e : t.getD i 0 = t.getD j 0) : i = j := by
  by_cases c : i = j
  · exact c
  · rcases (show i < j ∨ j < i by omega) with c2 | c2
    · exact absurd e (h.2 i j c2 hj)
    · exact absurd e.symm (h.2 j i c2 hi)
def ce1 (t : List Nat) (m s : Nat) : Nat := t.getD s 0 * 7 + t.getD (nxS m s) 0
def ce2 (t : List Nat) (m s : Nat) : Nat := t.getD (nxS m s) 0 * 7 + t.getD s 0
theorem nx_apart {r : Bool} {m s k : Nat} (hsk : s < k) (hk : k < prS r m) : ¬ (s = nxS m k ∧ nxS m s = k) := by
  rintro ⟨h1, h2⟩
  have hm := prS_le (r := r) (m := m)
  by_cases c1 : k + 1 < m
  · rw [nxS_in c1] at h1; omega
  · rw [nxS_last c1] at h1
    by_cases c2 : s + 1 < m
    · rw [nxS_in c2] at h2
      have : m = 2 := by omega
      subst this
      unfold prS at hk
      rw [if_neg (by omega)] at hk
      omega
    · omega
theorem ce_apart {n m s k : Nat} {r : Bool} {t : List Nat} (hd : Dis n m t) (hn : n ≤ 7) (hsk : s < k) (hk : k < prS r m) : ce1 t m k ≠ ce1 t m s ∧ ce1 t m k ≠ ce2 t m s ∧ ce2 t m k ≠ ce1 t m s ∧ ce2 t m k ≠ ce2 t m s := by
  have hm := prS_le (r := r) (m := m)
  have a1 := hd.1 s (by omega)
  have a2 := hd.1 k (by omega)
  have a3 := hd.1 (nxS m s) (nxS_lt (by omega))
  have a4 := hd.1 (nxS m k) (nxS_lt (by omega))
  have i1 : t.getD k 0 ≠ t.getD s 0 := fun q => by have := hd.inj (by omega) (by omega) q; omega
  have i2 : ¬ (t.getD k 0 = t.getD (nxS m s) 0 ∧ t.getD (nxS m k) 0 = t.getD s 0) := fun q => by
    have h1 := hd.inj (by omega) (nxS_lt (by omega)) q.1
    have h2 := hd.inj (nxS_lt (by omega)) (by omega) q.2
    exact nx_apart hsk hk ⟨h2.symm, h1.symm⟩
  unfold ce1 ce2
  refine ⟨fun q => ?_, fun q => ?_, fun q => ?_, fun q => ?_⟩
  · exact i1 (by omega)
  · exact i2 ⟨by omega, by omega⟩
  · exact i2 ⟨by omega, by omega⟩
  · exact i1 (by omega)
theorem mtD_get {S : List Nat} {lf jf : Nat} {K N : List Nat} {W : List Int32} {a sa b sb size : Nat} {D D' : List Nat} (ha : a < 7) (hb : b < 7) (hab : a ≠ b) (hD : D.length = 49) (hD' : D'.length = 49) : (∀ i, i ≠ a * 7 + b → i ≠ b * 7 + a → (mtD S lf jf K N W a sa b sb size D).getD i 0 = D.getD i 0) ∧ (D.getD (a * 7 + b) 0 = D'.getD (a * 7 + b) 0 → D.getD (b * 7 + a) 0 = D'.getD (b * 7 + a) 0 → (mtD S lf jf K N W a sa b sb size D).getD (a * 7 + b) 0 = (mtD S lf jf K N W a sa b sb size D').getD (a * 7 + b) 0 ∧ (mtD S lf jf K N W a sa b sb size D).getD (b * 7 + a) 0 = (mtD S lf jf K N W a sa b sb size D').getD (b * 7 + a) 0) := by
  obtain ⟨X, Y, h⟩ := mtD_loc S lf jf K N W a sa b sb size ha hb hab
  obtain ⟨x1, y1, e⟩ := h D hD
  obtain ⟨x1', y1', e'⟩ := h D' hD'
  have hij : a * 7 + b ≠ b * 7 + a := by omega
  have g := fun x2 y2 => get4 (D := D) (x1 := x1) (y1 := y1) (x2 := x2) (y2 := y2) hij (by omega) (by omega)
  have g' := fun x2 y2 => get4 (D := D') (x1 := x1') (y1 := y1') (x2 := x2) (y2 := y2) hij (by omega) (by omega)
  rw [e, e']
  refine ⟨fun i h1 h2 => (g _ _).2.2.2 i h1 h2, fun h1 h2 => ?_⟩
  rw [(g _ _).2.1, (g _ _).2.2.1, (g' _ _).2.1, (g' _ _).2.2.1, h1, h2]
  exact ⟨rfl, rfl⟩
theorem hd_clear {S : List Nat} {lf jf : Nat} {K N : List Nat} {W : List Int32} {D : List Nat} {n m : Nat} {r : Bool} {t : List Nat} (hn : n ≤ 7) (hD : D49 D) (hd : Dis n m t) : ∀ k, k ≤ prS r m → (∀ i, (∀ s, s < k → i ≠ ce1 t m s ∧ i ≠ ce2 t m s) → (hdD S lf jf K N W t m k D).getD i 0 = D.getD i 0) ∧ ((allS (hdD S lf jf K N W t m k D) n n : Nat) : Int) = (allS D n n : Nat) - psum (prI (vW true S lf jf K N W D m) m t) k
  | 0, _ => ⟨fun i _ => rfl, by rw [hdD, psum]; omega⟩
  | k + 1, hk => by
    obtain ⟨h1, h2⟩ := hd_clear (r := r) hn hD hd k (by omega)
    have hp := hd.prAll (r := r) (s := k) (by omega)
    have hD1 := hdD_ok (S := S) (lf := lf) (jf := jf) (K := K) (N := N) (W := W) (t := t) (m := m) hD k
    have u1 : (hdD S lf jf K N W t m k D).getD (ce1 t m k) 0 = D.getD (ce1 t m k) 0 := h1 _ (fun s hs => by
      have := ce_apart hd hn hs (show k < prS r m by omega)
      exact ⟨this.1, this.2.1⟩)
    have u2 : (hdD S lf jf K N W t m k D).getD (ce2 t m k) 0 = D.getD (ce2 t m k) 0 := h1 _ (fun s hs => by
      have := ce_apart hd hn hs (show k < prS r m by omega)
      exact ⟨this.2.2.1, this.2.2.2⟩)
    have g := mtD_get (S := S) (lf := lf) (jf := jf) (K := K) (N := N) (W := W) (a := t.getD k 0) (sa := k) (b := t.getD (nxS m k) 0) (sb := nxS m k) (size := m) (by omega) (by omega) hp.2.2 hD1.1 hD.1
    refine ⟨fun i hi => ?_, ?_⟩
    · rw [hdD, g.1 i (hi k (by omega)).1 (hi k (by omega)).2]
      exact h1 i (fun s hs => hi s (by omega))
    · have ga := g.2 u1 u2
      have e1 : prI (vW true S lf jf K N W D m) m t k = (clI S lf jf K N W D (t.getD k 0) k (t.getD (nxS m k) 0) (nxS m k) m).toInt := by rw [prI, vW, if_pos rfl]
      rw [hdD, mtD_all hn hp.1 hp.2.1 hp.2.2 hD1.1, h2, ga.1, ga.2, psum, e1, (clI_Z hD).1]
      have u1' : (hdD S lf jf K N W t m k D).getD (t.getD k 0 * 7 + t.getD (nxS m k) 0) 0 = D.getD (t.getD k 0 * 7 + t.getD (nxS m k) 0) 0 := u1
      have u2' : (hdD S lf jf K N W t m k D).getD (t.getD (nxS m k) 0 * 7 + t.getD k 0) 0 = D.getD (t.getD (nxS m k) 0 * 7 + t.getD k 0) 0 := u2
      rw [u1', u2']
      omega
theorem hd_tot {S : List Nat} {lf jf : Nat} {K N : List Nat} {W : List Int32} {D : List Nat} {n m : Nat} {r : Bool} {t : List Nat} (hn : n ≤ 7) (hD : D49 D) (hd : Dis n m t) : ((allS (hdD S lf jf K N W t m (prS r m) D) n n : Nat) : Int) = (allS D n n : Nat) - totB (vW true S lf jf K N W D m) r m t := (hd_clear hn hD hd _ (Nat.le_refl _)).2
/-! what the reference has found behind all tables -/
section RefFold
variable (U : List Nat → Bool) (J : List Nat → Int32) (G O : List Nat → Nat) (wo : Bool)
def RI5 (q : Q5T) (k : Nat) (o1 o2 : Option (List Nat)) : Prop := q.1.toInt = (k : Int) ∧ (match o1 with
  | none => k = 0 ∧ q.2.1 = nI 0 ∧ q.2.2.1 = nI 0
  | some y => 0 < k ∧ q.2.1 = nI (G y) ∧ q.2.2.1 = J y) ∧ (wo = true → match o2 with
  | none => k = 0 ∧ q.2.2.2.1 = nI 0 ∧ q.2.2.2.2 = -1
  | some y => 0 < k ∧ q.2.2.2.1 = nI (G y) ∧ q.2.2.2.2 = nI (O y))
variable {U J G O wo}
theorem RI5.step {q : Q5T} {k : Nat} {o1 o2 : Option (List Nat)} {t : List Nat} (h : RI5 J G O wo q k o1 o2) (hk : k < 1000000000) (hO : ∀ y, O y < 1000000000) : RI5 J G O wo (lkV false (J t) (G t) (O t) false wo q) (k + 1) (updB (fun y => (J y).toInt) o1 t) (updB (fun y => -((O y : Nat) : Int)) o2 t) := by
  obtain ⟨h1, h2, h3⟩ := h
  have ea : (q.1 + nI 1).toInt = q.1.toInt + 1 := add1 (by omega) (by omega)
  have e : lkV false (J t) (G t) (O t) false wo q = (q.1 + nI 1, (glS q (J t) (G t)).1, (glS q (J t) (G t)).2, (clV wo q (O t) (G t)).1, (clV wo q (O t) (G t)).2) := rfl
  rw [e]
  refine ⟨by simp only [ea]; omega, ?_, fun hw => ?_⟩
  · cases o1 with
    | none =>
      have hg : glS q (J t) (G t) = (nI (G t), J t) := if_pos (Or.inl (by rw [ea]; have := h2.1; omega))
      rw [hg]
      exact ⟨by omega, rfl, rfl⟩
    | some z =>
      simp only [updB]
      by_cases c : (J z).toInt < (J t).toInt
      · have hg : glS q (J t) (G t) = (nI (G t), J t) := if_pos (Or.inr (by rw [h2.2.2]; exact c))
        rw [hg, if_pos c]
        exact ⟨by omega, rfl, rfl⟩
      · have hg : glS q (J t) (G t) = (q.2.1, q.2.2.1) := if_neg (by
          rintro (x | x)
          · rw [ea] at x; have := h2.1; omega
          · rw [h2.2.2] at x; exact c x)
        rw [hg, if_neg c]
        exact ⟨by omega, h2.2.1, h2.2.2⟩
  · have h3 := h3 hw
    have oe : ∀ y, (nI (O y)).toInt = ((O y : Nat) : Int) := fun y => tI_nI (by have := hO y; omega)
    cases o2 with
    | none =>
      have hg : clV wo q (O t) (G t) = (nI (G t), nI (O t)) := if_pos ⟨hw, Or.inl (by rw [h3.2.2]; decide)⟩
      rw [hg]
      exact ⟨by omega, rfl, rfl⟩
    | some z =>
      simp only [updB]
      by_cases c : -((O z : Nat) : Int) < -((O t : Nat) : Int)
      · have hg : clV wo q (O t) (G t) = (nI (G t), nI (O t)) := if_pos ⟨hw, Or.inr (by rw [h3.2.2, oe]; omega)⟩
        rw [hg, if_pos c]
        exact ⟨by omega, rfl, rfl⟩
      · have hg : clV wo q (O t) (G t) = (q.2.2.2.1, q.2.2.2.2) := if_neg (by
          rintro ⟨-, x | x⟩
          · rw [h3.2.2, oe] at x; omega
          · rw [h3.2.2, oe] at x; omega)
        rw [hg, if_neg c]
        exact ⟨by omega, h3.2.1, h3.2.2⟩
theorem ref_fold (hO : ∀ y, O y < 1000000000) : ∀ (l : List (List Nat)) (q : Q5T) (k : Nat) (o1 o2 : Option (List Nat)), RI5 J G O wo q k o1 o2 → k + l.length < 1000000000 → RI5 J G O wo (l.foldl (fun q t => lkV (U t) (J t) (G t) (O t) false wo q) q) (k + (l.filter (fun y => !U y)).length) ((l.filter (fun y => !U y)).foldl (updB (fun y => (J y).toInt)) o1) ((l.filter (fun y => !U y)).foldl (updB (fun y => -((O y : Nat) : Int))) o2)
  | [], q, k, o1, o2, h, _ => h
  | t :: l, q, k, o1, o2, h, hk => by
    rw [List.length_cons] at hk
    rw [List.foldl_cons]
    cases hu : U t with
    | true =>
      rw [List.filter_cons_of_neg (by rw [hu]; decide)]
      exact ref_fold hO l q k o1 o2 h (by omega)
    | false =>
      rw [List.filter_cons_of_pos (by rw [hu]; rfl), List.length_cons, List.foldl_cons, List.foldl_cons]
      have := ref_fold hO l _ (k + 1) _ _ (h.step (t := t) (by omega) hO) (by omega)
      rw [show k + ((l.filter (fun y => !U y)).length + 1) = k + 1 + (l.filter (fun y => !U y)).length by omega]
      exact this
theorem cnt_fold : ∀ (l : List (List Nat)) (q : Q5T), 0 ≤ q.1.toInt → q.1.toInt + (l.length : Int) < 1000000000 → (l.foldl (fun q t => ctV (U t) q) q).1.toInt = q.1.toInt + ((cntU U l : Nat) : Int)
  | [], q, _, _ => by
    have e : cntU U [] = 0 := rfl
    rw [e, List.foldl_nil]
    omega
  | t :: l, q, h0, h1 => by
    rw [List.length_cons] at h1
    rw [List.foldl_cons]
    cases hu : U t with
    | true =>
      have e : (ctV true q).1.toInt = q.1.toInt := by
        show (q.1 + nI 0).toInt = q.1.toInt
        rw [Int32.toInt_add, tI_nI (by omega), bm32 (by have := tI_lo q.1; omega) (by have := tI_hi q.1; omega)]
        omega
      rw [cnt_fold l _ (by rw [e]; exact h0) (by rw [e]; omega), e, cntU, cntU, List.filter_cons_of_neg (by rw [hu]; decide)]
    | false =>
      have e : (ctV false q).1.toInt = q.1.toInt + 1 := add1 (by omega) (by omega)
      rw [cnt_fold l _ (by rw [e]; omega) (by rw [e]; omega), e, cntU, cntU, List.filter_cons_of_pos (by rw [hu]; rfl), List.length_cons]
      omega
end RefFold
theorem lvs_len {r : Bool} : ∀ (f x S : Nat) (t : List Nat), (lvs r f x S t).length ≤ 7 ^ f
  | 0, _, _, _ => by rw [lvs]; exact Nat.le_refl _
  | f + 1, x, S, t => by
    rw [lvs]
    have hcl : (cand r x S).length ≤ 7 := by
      unfold cand
      split
      · exact Nat.le_trans (List.length_take_le _ _) (by omega)
      · exact Nat.le_trans (List.length_filter_le _ _) (by simp)
    have key : ∀ l : List Nat, (l.flatMap (fun p => lvs r f (x + 1) (S &&& (2 ^ p ^^^ 127)) (t.set x p))).length ≤ l.length * 7 ^ f := by
      intro l
      induction l with
      | nil => exact Nat.zero_le _
      | cons p l ih =>
        rw [List.flatMap_cons, List.length_append, List.length_cons, Nat.succ_mul]
        have := lvs_len (r := r) f (x + 1) (S &&& (2 ^ p ^^^ 127)) (t.set x p)
        omega
    have h1 := key (cand r x S)
    have h2 : (cand r x S).length * 7 ^ f ≤ 7 * 7 ^ f := Nat.mul_le_mul_right _ hcl
    rw [Nat.pow_succ]
    omega
/-! the tables of a company, those lawful -/
def tbs (r : Bool) (A : Nat) : List (List Nat) := lvs r (popc A) 0 A t0S
def lwf (r : Bool) (A : Nat) (wl : List (Option Nat)) : List (List Nat) := (tbs r A).filter (fun y => !uC r (popc A) wl y)
theorem tbs_len {r : Bool} {A : Nat} (hA : A < 128) : (tbs r A).length ≤ 823543 := by
  have h1 := lvs_len (r := r) (popc A) 0 A t0S
  have h2 : 7 ^ popc A ≤ 7 ^ 7 := Nat.pow_le_pow_right (by decide) (popc_le A hA)
  exact Nat.le_trans h1 h2
theorem Pl0 {n A : Nat} (hA : A < 128) (hb : ∀ p, A.testBit p = true → p < n) : Pl n A 0 A t0S :=
  ⟨by rfl, hA, hb, ⟨fun i h => absurd h (by omega), fun i j _ h => absurd h (by omega)⟩, fun i h => absurd h (by omega), by rw [setS, Nat.zero_or]⟩
theorem tbs_ok {r : Bool} {n A : Nat} (hA : A < 128) (hb : ∀ p, A.testBit p = true → p < n) {y : List Nat} (hy : y ∈ tbs r A) : y.length = 7 ∧ Dis n (popc A) y ∧ setS y (popc A) = A := by
  have h := lvs_ok (n := n) (A := A) (popc A) 0 A t0S (by have := popc_le A hA; omega) rfl (Pl0 hA hb) y hy
  rw [Nat.zero_add] at h
  exact h.2
section Cls
variable {n : Nat} {r : Bool} {A : Nat} {wl : List (Option Nat)} {Wo Ho : List Int32} {t B : List Nat}
theorem cls_cnt (hA : A < 128) (hb : ∀ p, A.testBit p = true → p < n) (ht : t.length = 7) {mo bw sum : Int32} (hmo : 0 < mo.toInt) : (plS r false A (popc A) wl Wo Ho mo (popc A) 0 0 sum (t, B, bw, nI 0)).2.2.2.toInt = min mo.toInt ((lwf r A wl).length : Nat) := by
  have h7 := popc_le A hA
  have h := plS_cnt (r := r) (A := A) (m := popc A) (wl := wl) (Wo := Wo) (Ho := Ho) (en := mo) (n := n) (A' := A) hA h7 (popc A) 0 0 sum (t, B, bw, nI 0) t0S (by omega) (fun _ => rfl) ht (by rw [xor0 A hA]) (by rw [xor0 A hA]; exact Pl0 hA hb) (fun i h => absurd h (by omega)) (fun k h => absurd h (by omega)) (by show 0 ≤ (nI 0).toInt; decide) (by simp only [tI_nI (show 0 < 2147483648 by decide)]; exact hmo)
  rw [h.2.2, xor0 A hA]
  simp only [tI_nI (show 0 < 2147483648 by decide)]
  rw [lwf, tbs, cntU]
  omega
theorem cls_best (hA : A < 128) (hb : ∀ p, A.testBit p = true → p < n) (ht : t.length = 7) {v : Nat → Nat → Nat → Int32} (hW : Wgh v n r (popc A) Wo Ho) {bw : Int32} : RelB v r (popc A) (plS r true A (popc A) wl Wo Ho (nI 2147483647) (popc A) 0 0 (nI 0) (t, B, bw, nI 0)) (bstB (totB v r (popc A)) (lwf r A wl)) := by
  have h7 := popc_le A hA
  have p8 : 8 ^ popc A ≤ 8 ^ 7 := Nat.pow_le_pow_right (by decide) h7
  have h := plS_best (v := v) (n := n) (r := r) (A := A) (m := popc A) (wl := wl) (Wo := Wo) (Ho := Ho) (en := nI 2147483647) hA h7 hW (tI_nI (by omega)) (popc A) 0 0 (nI 0) (t, B, bw, nI 0) t0S none (by omega) (fun _ => rfl) ht (by rw [xor0 A hA]) ⟨A, by rw [xor0 A hA]; exact Pl0 hA hb⟩ (fun i h => absurd h (by omega)) (fun k h => absurd h (by omega)) (by show 0 ≤ (nI 0).toInt; decide) (by simp only [tI_nI (show 0 < 2147483648 by decide)]; omega) (by show (nI 0).toInt = (0 : Int); decide) (by show (nI 0).toInt = 0; decide)
  rw [xor0 A hA] at h
  exact h.2.2.2.2
end Cls
