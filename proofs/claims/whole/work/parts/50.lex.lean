/-! texts: pure words of letters, tokens, parsing -/
def isBl (c : Nat) : Bool := decide (c = 32 ∨ c = 10)
def isLt (c : Nat) : Bool := decide (97 ≤ c ∧ c ≤ 122)
def isDg (c : Nat) : Bool := decide (48 ≤ c ∧ c ≤ 57)
def isSg (c : Nat) : Bool := decide (c = 40 ∨ c = 41 ∨ c = 42 ∨ c = 43 ∨ c = 45 ∨ c = 59 ∨ c = 60 ∨ c = 61)
def skp (P : Nat → Bool) (L : List Nat) : Nat → Nat → Nat
  | 0, p => p
  | f + 1, p => if P (L.getD p 0) = true then skp P L f (p + 1) else p
def skip (P : Nat → Bool) (L : List Nat) (p : Nat) : Nat := skp P L (L.length - p) p
theorem skip_t {P : Nat → Bool} {L : List Nat} {p : Nat} (h : p < L.length) (hP : P (L.getD p 0) = true) : skip P L p = skip P L (p + 1) := by
  unfold skip
  rw [show L.length - p = (L.length - (p + 1)) + 1 by omega, skp, if_pos hP]
theorem skip_f {P : Nat → Bool} {L : List Nat} {p : Nat} (hP : P (L.getD p 0) = false) : skip P L p = p := by
  unfold skip
  cases L.length - p with
  | zero => rfl
  | succ f => rw [skp, if_neg (by rw [hP]; decide)]
theorem skip_e {P : Nat → Bool} {L : List Nat} {p : Nat} (h : L.length ≤ p) : skip P L p = p := by
  unfold skip
  rw [show L.length - p = 0 by omega]
  rfl
theorem skp_b (P : Nat → Bool) (L : List Nat) : ∀ f p, p ≤ skp P L f p ∧ skp P L f p ≤ p + f
  | 0, p => ⟨Nat.le_refl _, Nat.le_refl _⟩
  | f + 1, p => by
    rw [skp]
    have h := skp_b P L f (p + 1)
    split <;> omega
theorem skip_b (P : Nat → Bool) {L : List Nat} {p : Nat} (h : p ≤ L.length) : p ≤ skip P L p ∧ skip P L p ≤ L.length := by
  have := skp_b P L (L.length - p) p
  unfold skip
  omega
theorem skp_all (P : Nat → Bool) (L : List Nat) : ∀ f p i, p ≤ i → i < skp P L f p → P (L.getD i 0) = true
  | 0, p, i, h1, h2 => absurd h2 (by rw [skp]; omega)
  | f + 1, p, i, h1, h2 => by
    rw [skp] at h2
    by_cases h : P (L.getD p 0) = true
    · rw [if_pos h] at h2
      by_cases e : i = p
      · rw [e]; exact h
      · exact skp_all P L f (p + 1) i (by omega) h2
    · rw [if_neg h] at h2
      omega
def WD : List (List Nat) := [[102, 111, 114, 103, 105, 118, 101, 115], [108, 101, 110, 100, 115], [106, 111, 121, 115], [111, 114], [97, 110, 100], [110, 111, 116], [100, 101, 98, 116], [98, 97, 99, 107], [110, 117, 109, 98, 101, 114], [115, 101, 97, 116, 115], [115, 101, 97, 116], [119, 97, 110, 116, 101, 100]]
def sub (L : List Nat) (q e : Nat) : List Nat := (L.drop q).take (e - q)
def wIx (w : List Nat) : Nat → Option Nat
  | 0 => none
  | k + 1 => if WD.getD k [] = w then some k else wIx w k
def wK : Option Nat → Nat
  | none => 1
  | some k => if k < 6 then 5 + k else 3
def wV : Option Nat → Nat
  | none => 0
  | some k => k - 6
def numV (L : List Nat) (q : Nat) : Nat → Nat
  | 0 => 0
  | k + 1 => numV L q k * 10 + (L.getD (q + k) 0 - 48)
def lexP (L : List Nat) (p : Nat) : Nat := skip isBl L p
def wordAt (L : List Nat) (q : Nat) : List Nat := sub L q (skip isLt L q)
/-- the token behind a place: its kind, its value, where it ends -/
def tkK (L : List Nat) (p : Nat) : Nat :=
  if L.length ≤ lexP L p then 0
  else if isLt (L.getD (lexP L p) 0) = true then wK (wIx (wordAt L (lexP L p)) 12)
  else if isDg (L.getD (lexP L p) 0) = true then (if 4 < skip isDg L (lexP L p) - lexP L p then 1 else 2)
  else if isSg (L.getD (lexP L p) 0) = true then L.getD (lexP L p) 0 else 1
def tkV (L : List Nat) (p : Nat) : Nat :=
  if isLt (L.getD (lexP L p) 0) = true then wV (wIx (wordAt L (lexP L p)) 12) else numV L (lexP L p) (skip isDg L (lexP L p) - lexP L p)
def tkN (L : List Nat) (p : Nat) : Nat :=
  if L.length ≤ lexP L p then lexP L p
  else if isLt (L.getD (lexP L p) 0) = true then skip isLt L (lexP L p)
  else if isDg (L.getD (lexP L p) 0) = true then skip isDg L (lexP L p)
  else lexP L p + 1
theorem lexP_b {L : List Nat} {p : Nat} (h : p ≤ L.length) : p ≤ lexP L p ∧ lexP L p ≤ L.length := skip_b _ h
theorem skip_lt {P : Nat → Bool} {L : List Nat} {p : Nat} (h : p < L.length) (hP : P (L.getD p 0) = true) : p < skip P L p := by
  rw [skip_t h hP]
  exact (skip_b P (show p + 1 ≤ L.length by omega)).1
theorem tkN_b {L : List Nat} {p : Nat} (h : p ≤ L.length) : p ≤ tkN L p ∧ tkN L p ≤ L.length ∧ (tkK L p ≠ 0 → lexP L p < tkN L p) := by
  have h1 := lexP_b h
  unfold tkN tkK
  by_cases e : L.length ≤ lexP L p
  · rw [if_pos e, if_pos e]
    exact ⟨h1.1, h1.2, fun q => absurd rfl q⟩
  · rw [if_neg e, if_neg e]
    by_cases e2 : isLt (L.getD (lexP L p) 0) = true
    · rw [if_pos e2]
      have := skip_lt (by omega) e2
      have := skip_b isLt h1.2
      omega
    · rw [if_neg e2]
      by_cases e3 : isDg (L.getD (lexP L p) 0) = true
      · rw [if_pos e3]
        have := skip_lt (by omega) e3
        have := skip_b isDg h1.2
        omega
      · rw [if_neg e3]
        omega
theorem wIx_lt {w : List Nat} : ∀ {k j : Nat}, wIx w k = some j → j < k ∧ WD.getD j [] = w
  | 0, j, h => by cases h
  | k + 1, j, h => by
    rw [wIx] at h
    by_cases e : WD.getD k [] = w
    · rw [if_pos e] at h
      cases h
      exact ⟨Nat.lt_succ_self _, e⟩
    · rw [if_neg e] at h
      have := wIx_lt h
      exact ⟨by omega, this.2⟩
/-- of what kinds tokens are -/
theorem tkK_lt {L : List Nat} {p : Nat} : tkK L p < 100 := by
  unfold tkK
  repeat' split
  all_goals first | omega | skip
  · cases h : wIx (wordAt L (lexP L p)) 12 with
    | none => decide
    | some k =>
      have := (wIx_lt h).1
      rw [wK]
      split <;> omega
  · rename_i h
    unfold isSg at h
    have := of_decide_eq_true h
    omega
/-- values: a name's below 6, a numeral's below 10000 -/
theorem numV_lt {L : List Nat} {q : Nat} : ∀ k, (∀ i, i < k → isDg (L.getD (q + i) 0) = true) → numV L q k < 10 ^ k
  | 0, _ => Nat.zero_lt_one
  | k + 1, h => by
    have h1 := numV_lt k (fun i hi => h i (by omega))
    have h2 := of_decide_eq_true (h k (by omega))
    rw [numV, Nat.pow_succ]
    omega
theorem wK_ne (o : Option Nat) : wK o ≠ 2 := by
  cases o with
  | none => decide
  | some k =>
    rw [wK]
    split <;> omega
theorem tkV_num {L : List Nat} {p : Nat} (h : tkK L p = 2) : tkV L p < 10000 := by
  unfold tkK at h
  unfold tkV
  by_cases e : L.length ≤ lexP L p
  · rw [if_pos e] at h; cases h
  · rw [if_neg e] at h
    by_cases e2 : isLt (L.getD (lexP L p) 0) = true
    · rw [if_pos e2] at h
      exact absurd h (wK_ne _)
    · rw [if_neg e2] at h ⊢
      by_cases e3 : isDg (L.getD (lexP L p) 0) = true
      · rw [if_pos e3] at h
        by_cases e4 : 4 < skip isDg L (lexP L p) - lexP L p
        · rw [if_pos e4] at h; cases h
        · have h1 := numV_lt (L := L) (q := lexP L p) (skip isDg L (lexP L p) - lexP L p) (fun i hi => skp_all isDg L (L.length - lexP L p) (lexP L p) _ (by omega) (show _ < skip isDg L (lexP L p) by omega))
          exact Nat.lt_of_lt_of_le h1 (Nat.pow_le_pow_right (n := 10) (j := 4) (by decide) (by omega))
      · rw [if_neg e3] at h
        by_cases e4 : isSg (L.getD (lexP L p) 0) = true
        · rw [if_pos e4] at h
          have := of_decide_eq_true e4
          omega
        · rw [if_neg e4] at h; cases h
theorem tkV_name {L : List Nat} {p : Nat} (h : tkK L p = 3) : tkV L p < 6 := by
  unfold tkK at h
  unfold tkV
  by_cases e : L.length ≤ lexP L p
  · rw [if_pos e] at h; cases h
  · rw [if_neg e] at h
    by_cases e2 : isLt (L.getD (lexP L p) 0) = true
    · rw [if_pos e2]
      cases hw : wIx (wordAt L (lexP L p)) 12 with
      | none => decide
      | some k =>
        have := (wIx_lt hw).1
        rw [wV]
        omega
    · rw [if_neg e2] at h
      by_cases e3 : isDg (L.getD (lexP L p) 0) = true
      · rw [if_pos e3] at h
        by_cases e4 : 4 < skip isDg L (lexP L p) - lexP L p
        · rw [if_pos e4] at h; cases h
        · rw [if_neg e4] at h; cases h
      · rw [if_neg e3] at h
        by_cases e4 : isSg (L.getD (lexP L p) 0) = true
        · rw [if_pos e4] at h
          have := of_decide_eq_true e4
          omega
        · rw [if_neg e4] at h; cases h
/-! parsing: a fault's place, or steps and where they end -/
abbrev PR : Type := Nat ⊕ (List Nat × Nat)
def pLp (op : Nat → Bool) (L : List Nat) (sb : Nat → PR) : Nat → List Nat → Nat → PR
  | 0, s, p => .inr (s, p)
  | f + 1, s, p => if op (tkK L p) = true then (match sb (tkN L p) with
      | .inl e => .inl e
      | .inr q => pLp op L sb f (s ++ q.1 ++ [20000 + tkK L p]) q.2) else .inr (s, p)
def pBin (op : Nat → Bool) (L : List Nat) (sb : Nat → PR) (p : Nat) : PR := match sb p with
  | .inl e => .inl e
  | .inr q => pLp op L sb 160 q.1 q.2
def op42 (k : Nat) : Bool := k == 42
def opPM (k : Nat) : Bool := k == 43 || k == 45
def op9 (k : Nat) : Bool := k == 9
def op8 (k : Nat) : Bool := k == 8
def pCmp (L : List Nat) (sb : Nat → PR) (p : Nat) : PR := match sb p with
  | .inl e => .inl e
  | .inr q => if tkK L q.2 = 60 ∨ tkK L q.2 = 61 then (match sb (tkN L q.2) with
      | .inl e => .inl e
      | .inr q2 => .inr (q.1 ++ q2.1 ++ [20000 + tkK L q.2], q2.2)) else .inr q
def mkOne (L : List Nat) (d : Nat) (uo ue : Nat → PR) (p : Nat) : PR :=
  if tkK L p = 2 then .inr ([tkV L p], tkN L p)
  else if tkK L p = 3 then .inr ([10000 + tkV L p], tkN L p)
  else if tkK L p = 45 then (if d = 0 then .inl (lexP L p) else (match uo (tkN L p) with
      | .inl e => .inl e
      | .inr q => .inr (q.1 ++ [20004], q.2)))
  else if tkK L p = 40 then (if d = 0 then .inl (lexP L p) else (match ue (tkN L p) with
      | .inl e => .inl e
      | .inr q => if tkK L q.2 = 41 then .inr (q.1, tkN L q.2) else .inl (lexP L q.2)))
  else .inl (lexP L p)
def mkNot (L : List Nat) (d : Nat) (un one : Nat → PR) (p : Nat) : PR :=
  if tkK L p = 10 then (if d = 0 then .inl (lexP L p) else (match un (tkN L p) with
      | .inl e => .inl e
      | .inr q => .inr (q.1 ++ [20010], q.2)))
  else pCmp L (pBin opPM L (pBin op42 L one)) p
/-- with d more that may be open: ONE, NOT, E -/
def pTr (L : List Nat) : Nat → (Nat → PR) × (Nat → PR) × (Nat → PR)
  | 0 => (mkOne L 0 (fun _ => .inl 0) (fun _ => .inl 0), mkNot L 0 (fun _ => .inl 0) (mkOne L 0 (fun _ => .inl 0) (fun _ => .inl 0)), pBin op8 L (pBin op9 L (mkNot L 0 (fun _ => .inl 0) (mkOne L 0 (fun _ => .inl 0) (fun _ => .inl 0)))))
  | d + 1 => (mkOne L (d + 1) (pTr L d).1 (pTr L d).2.2, mkNot L (d + 1) (pTr L d).2.1 (mkOne L (d + 1) (pTr L d).1 (pTr L d).2.2), pBin op8 L (pBin op9 L (mkNot L (d + 1) (pTr L d).2.1 (mkOne L (d + 1) (pTr L d).1 (pTr L d).2.2))))
def pOne (L : List Nat) (d : Nat) : Nat → PR := (pTr L d).1
def pNot (L : List Nat) (d : Nat) : Nat → PR := (pTr L d).2.1
def pEi (L : List Nat) (d : Nat) : Nat → PR := (pTr L d).2.2
def pTerm (L : List Nat) (d : Nat) : Nat → PR := pBin op42 L (pOne L d)
def pSum (L : List Nat) (d : Nat) : Nat → PR := pBin opPM L (pTerm L d)
def pBoth (L : List Nat) (d : Nat) : Nat → PR := pBin op9 L (pNot L d)
theorem pEi_eq (L : List Nat) (d : Nat) : pEi L d = pBin op8 L (pBoth L d) := by cases d <;> rfl
theorem pNot_eq (L : List Nat) (d : Nat) (p : Nat) : pNot L d p = if tkK L p = 10 then (if d = 0 then .inl (lexP L p) else (match pNot L (d - 1) (tkN L p) with
      | .inl e => .inl e
      | .inr q => .inr (q.1 ++ [20010], q.2))) else pCmp L (pSum L d) p := by
  cases d with
  | zero => simp only [pNot, pTr, mkNot, ↓reduceIte]; rfl
  | succ d => rfl
theorem pOne_eq (L : List Nat) (d : Nat) (p : Nat) : pOne L d p = if tkK L p = 2 then .inr ([tkV L p], tkN L p)
  else if tkK L p = 3 then .inr ([10000 + tkV L p], tkN L p)
  else if tkK L p = 45 then (if d = 0 then .inl (lexP L p) else (match pOne L (d - 1) (tkN L p) with
      | .inl e => .inl e
      | .inr q => .inr (q.1 ++ [20004], q.2)))
  else if tkK L p = 40 then (if d = 0 then .inl (lexP L p) else (match pEi L (d - 1) (tkN L p) with
      | .inl e => .inl e
      | .inr q => if tkK L q.2 = 41 then .inr (q.1, tkN L q.2) else .inl (lexP L q.2)))
  else .inl (lexP L p) := by
  cases d with
  | zero => simp only [pOne, pTr, mkOne, ↓reduceIte]
  | succ d => rfl
