/-! manners: pure words -/
theorem gma {σ : ZS} {r k v : Nat} {D : List Nat} (h : zg σ r = some (.inl (0, (D.map nI).set k (nI v)))) : zg σ r = some (.inl (0, (D.set k v).map nI)) := by rw [← gm_set]; exact h
theorem tI_nI {n : Nat} (h : n < 2147483648) : (nI n).toInt = (n : Int) := nI_toInt h
def bndN (x : Int32) : Nat := if x.toInt < 0 then 0 else if 99 < x.toInt then 99 else x.toInt.toNat
theorem bndN_le (x : Int32) : bndN x ≤ 99 := by
  unfold bndN
  split
  · omega
  · split <;> omega
theorem bndN_eq (x : Int32) : bndI x (nI 0) (nI 99) = nI (bndN x) := by
  unfold bndI bndN
  by_cases h1 : x < nI 0
  · have e := Int32.lt_iff_toInt_lt.mp h1
    rw [tI_nI (by omega)] at e
    rw [if_pos h1, if_pos (show x.toInt < 0 by omega)]
  · have e := mt Int32.lt_iff_toInt_lt.mpr h1
    rw [tI_nI (by omega)] at e
    rw [if_neg h1, if_neg (show ¬ x.toInt < 0 by omega)]
    by_cases h2 : nI 99 < x
    · have e2 := Int32.lt_iff_toInt_lt.mp h2
      rw [tI_nI (by omega)] at e2
      rw [if_pos h2, if_pos (show 99 < x.toInt by omega)]
    · have e2 := mt Int32.lt_iff_toInt_lt.mpr h2
      rw [tI_nI (by omega)] at e2
      rw [if_neg h2, if_neg (show ¬ 99 < x.toInt by omega)]
      exact ni_of (by omega)
def tellN (F : List Int32) (S : List Nat) (f0 t0 : Nat) : Nat := bndN ((runE F (segE S f0 (t0 - f0))).getLastD 0)
theorem tellN_le (F : List Int32) (S : List Nat) (f0 t0 : Nat) : tellN F S f0 t0 ≤ 99 := bndN_le _
theorem tellN_eq (F : List Int32) (S : List Nat) (f0 t0 : Nat) : tellV F S f0 t0 (nI 0) = nI (tellN F S f0 t0) := bndN_eq _
theorem bndI_b (x : Int32) : -99 ≤ (bndI x (-99) (nI 99)).toInt ∧ (bndI x (-99) (nI 99)).toInt ≤ 99 := by
  unfold bndI
  by_cases h1 : x < -99
  · rw [if_pos h1]; decide
  · have e := mt Int32.lt_iff_toInt_lt.mpr h1
    rw [show (-99 : Int32).toInt = -99 by decide] at e
    rw [if_neg h1]
    by_cases h2 : nI 99 < x
    · rw [if_pos h2, tI_nI (by omega)]; omega
    · have e2 := mt Int32.lt_iff_toInt_lt.mpr h2
      rw [tI_nI (by omega)] at e2
      rw [if_neg h2]; omega
theorem tellV_b (F : List Int32) (S : List Nat) (f0 t0 : Nat) : -99 ≤ (tellV F S f0 t0 (-99)).toInt ∧ (tellV F S f0 t0 (-99)).toInt ≤ 99 := bndI_b _
/-- what the names tell of one and a neighbour -/
def factsL (N : List Nat) (W : List Int32) (one nb seat size : Nat) (D : List Nat) : List Int32 :=
  [nI (D.getD (nb * 7 + one) 0), nI (D.getD (one * 7 + nb) 0), nI (N.getD one 0), nI size, nI seat, bI (decide (W.getD one 0 = nI nb))]
def fgD (S : List Nat) (lf : Nat) (K N : List Nat) (W : List Int32) (one nb seat size : Nat) (D : List Nat) : List Nat :=
  D.set (nb * 7 + one) (D.getD (nb * 7 + one) 0 - min (letsS (K.getD one 0) (N.getD one 0) (D.getD (nb * 7 + one) 0) (tellN (factsL N W one nb seat size D) S 0 lf)) (D.getD (nb * 7 + one) 0))
def ldD (S : List Nat) (lf jf : Nat) (K N : List Nat) (W : List Int32) (one nb seat size : Nat) (D : List Nat) : List Nat :=
  D.set (nb * 7 + one) (min (D.getD (nb * 7 + one) 0 + lendS (K.getD one 0) (N.getD one 0) (tellN (factsL N W one nb seat size D) S lf jf)) 999)
def mtD (S : List Nat) (lf jf : Nat) (K N : List Nat) (W : List Int32) (a sa b sb size : Nat) (D : List Nat) : List Nat :=
  ldD S lf jf K N W a b sa size (ldD S lf jf K N W b a sb size (fgD S lf K N W a b sa size (fgD S lf K N W b a sb size D)))
def gdI (S : List Nat) (jf : Nat) (K N : List Nat) (W : List Int32) (D : List Nat) (one nb seat size : Nat) : Int32 :=
  gladI (K.getD one 0) (N.getD one 0) (tellV (factsL N W one nb seat size D) S jf S.length (-99)) (decide (W.getD one 0 = nI nb))
def D49 (D : List Nat) : Prop := D.length = 49 ∧ ∀ k, D.getD k 0 ≤ 999
theorem fgD_ok {S : List Nat} {lf : Nat} {K N : List Nat} {W : List Int32} {one nb seat size : Nat} {D : List Nat} (h : D49 D) : D49 (fgD S lf K N W one nb seat size D) :=
  ⟨by rw [fgD, List.length_set]; exact h.1, getD_set_le h.2 (by have := h.2 (nb * 7 + one); omega)⟩
theorem ldD_ok {S : List Nat} {lf jf : Nat} {K N : List Nat} {W : List Int32} {one nb seat size : Nat} {D : List Nat} (h : D49 D) : D49 (ldD S lf jf K N W one nb seat size D) :=
  ⟨by rw [ldD, List.length_set]; exact h.1, getD_set_le h.2 (by omega)⟩
theorem mtD_ok {S : List Nat} {lf jf : Nat} {K N : List Nat} {W : List Int32} {a sa b sb size : Nat} {D : List Nat} (h : D49 D) : D49 (mtD S lf jf K N W a sa b sb size D) := ldD_ok (ldD_ok (fgD_ok (fgD_ok h)))
/-- the manners' cells, and the rule ru's -/
def MaW (σ : ZS) (ru r s k : Nat) (S : List Nat) (lf jf : Nat) : Prop :=
  zg σ 16 = some (.inr (.inr (0, [.ref 17, .ref 18]))) ∧ (∃ rl : List (Option Nat), zg σ 17 = some (.inr (.inl (2, rl))) ∧ rl[ru]? = some (some r)) ∧ RuAt σ r s k S lf jf ∧ (∃ Ks : List Int32, zg σ k = some (.inl (0, Ks)) ∧ Ks.length = S.length) ∧ (∃ F : List Int32, zg σ 18 = some (.inl (0, F)) ∧ F.length = 6) ∧ ((r = 19 ∧ s = 20 ∧ k = 21) ∨ (2000 ≤ r ∧ 2000 ≤ s ∧ 2000 ≤ k)) ∧ ru < 2147483648
theorem MaW.fr {σ σ' : ZS} {ru r s k : Nat} {S : List Nat} {lf jf : Nat} {P : Nat → Prop} (h : MaW σ ru r s k S lf jf) (hF : Fr P σ σ') (hP : ∀ i, (16 ≤ i ∧ i ≤ 18) ∨ i = r ∨ i = s ∨ i = k → ¬ P i) : MaW σ' ru r s k S lf jf := by
  obtain ⟨h1, ⟨rl, h2, h3⟩, ⟨h4, h5, h6⟩, ⟨Ks, h7, h8⟩, ⟨F, h9, h10⟩, h11⟩ := h
  exact ⟨hF.at (hP _ (by omega)) h1, ⟨rl, hF.at (hP _ (by omega)) h2, h3⟩, ⟨hF.at (hP _ (by omega)) h4, hF.at (hP _ (by omega)) h5, h6⟩, ⟨Ks, hF.at (hP _ (by omega)) h7, h8⟩, ⟨F, hF.at (hP _ (by omega)) h9, h10⟩, h11⟩
theorem MaW.of {σ σ' : ZS} {ru r s k : Nat} {S : List Nat} {lf jf : Nat} {P : Nat → Prop} (h : MaW σ ru r s k S lf jf) (hF : Fr P σ σ') (hP : ∀ i, (16 ≤ i ∧ i ≤ 17) ∨ i = r ∨ i = s → ¬ P i) (hk : ∃ Ks : List Int32, zg σ' k = some (.inl (0, Ks)) ∧ Ks.length = S.length) (hf : ∃ F : List Int32, zg σ' 18 = some (.inl (0, F)) ∧ F.length = 6) : MaW σ' ru r s k S lf jf := by
  obtain ⟨h1, ⟨rl, h2, h3⟩, ⟨h4, h5, h6⟩, -, -, h11⟩ := h
  exact ⟨hF.at (hP _ (by omega)) h1, ⟨rl, hF.at (hP _ (by omega)) h2, h3⟩, ⟨hF.at (hP _ (by omega)) h4, hF.at (hP _ (by omega)) h5, h6⟩, hk, hf, h11⟩
theorem len6 {F : List Int32} (h : F.length = 6) (a b c d e f : Int32) : (((((F.set 0 a).set 1 b).set 2 c).set 3 d).set 4 e).set 5 f = [a, b, c, d, e, f] := by
  match F, h with
  | [_, _, _, _, _, _], _ => rfl
theorem bI_if (P : Prop) (i : Decidable P) : bI (@decide P i) = @ite _ P i (nI 1) (nI 0) := by
  by_cases h : P
  · simp [h]; decide
  · simp [h]; decide
