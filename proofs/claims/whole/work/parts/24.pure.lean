/-! pure words: bits, creditors, sums -/
theorem s_l : ∀ n, n < 32 → ((nI n &&& 31).toBitVec.smod 32).toNat = n := by decide +kernel
theorem tb_dm (x k : Nat) : x.testBit k = decide (x / 2 ^ k % 2 = 1) := Nat.testBit_eq_decide_div_mod_eq
theorem z_bit {S k : Nat} (hS : S < 2147483648) (hk : k < 32) : (nI S >>> (nI k &&& 31)) &&& nI 1 = nI (S / 2 ^ k % 2) := by
  rw [pk_shrN hS _ k (s_l k hk)]
  exact pk_andN (Nat.lt_of_le_of_lt (Nat.div_le_self _ _) (by omega)) 1 (by decide)
def oI : Option Nat → Int32
  | none => -1
  | some k => nI k
/-- whom one owes most among the first k of S, and how much -/
def credF (D : List Nat) (p S : Nat) : Nat → Option Nat × Nat
  | 0 => (none, 0)
  | k + 1 => if S.testBit k = true ∧ (credF D p S k).2 < D.getD (p * 7 + k) 0 then (some k, D.getD (p * 7 + k) 0) else credF D p S k
def cred (D : List Nat) (n p S : Nat) : Option Nat := (credF D p S n).1
theorem credF_ok (D : List Nat) (p S : Nat) : ∀ k, (credF D p S k).2 = (match (credF D p S k).1 with | none => 0 | some j => D.getD (p * 7 + j) 0) ∧ (∀ j, (credF D p S k).1 = some j → j < k ∧ S.testBit j = true ∧ 0 < D.getD (p * 7 + j) 0)
  | 0 => ⟨rfl, fun j h => by cases h⟩
  | k + 1 => by
    obtain ⟨h1, h2⟩ := credF_ok D p S k
    rw [credF]
    by_cases hc : S.testBit k = true ∧ (credF D p S k).2 < D.getD (p * 7 + k) 0
    · rw [if_pos hc]
      refine ⟨rfl, fun j h => ?_⟩
      cases h
      exact ⟨Nat.lt_succ_self _, hc.1, Nat.lt_of_le_of_lt (Nat.zero_le _) hc.2⟩
    · rw [if_neg hc]
      exact ⟨h1, fun j h => ⟨Nat.lt_succ_of_lt (h2 j h).1, (h2 j h).2⟩⟩
theorem credF_le {D : List Nat} (hD : ∀ k, D.getD k 0 ≤ 999) (p S k : Nat) : (credF D p S k).2 ≤ 999 := by
  rw [(credF_ok D p S k).1]
  cases (credF D p S k).1 with
  | none => exact Nat.zero_le _
  | some j => exact hD _
/-- one of a kind must sit beside the one owed d -/
def mustB (kind number d : Nat) : Bool :=
  if kind = 1 then decide (10 * number < d) else if kind = 2 then false else if kind = 3 then (number % 2 == 0 && decide (10 * number < d)) else if kind = 4 then decide (500 < d) else if kind = 5 then d % 2 == 1 else true
/-- whom one must have beside -/
def wishO (K N D : List Nat) (n p S : Nat) : Option Nat := match cred D n p S with
  | none => none
  | some c => if mustB (K.getD p 0) (N.getD p 0) (D.getD (p * 7 + c) 0) = true then some c else none
def rowS (D : List Nat) (p : Nat) : Nat → Nat
  | 0 => 0
  | k + 1 => rowS D p k + D.getD (p * 7 + k) 0
def allS (D : List Nat) (n : Nat) : Nat → Nat
  | 0 => 0
  | k + 1 => allS D n k + rowS D k n
theorem rowS_le {D : List Nat} (hD : ∀ k, D.getD k 0 ≤ 999) (p : Nat) : ∀ k, rowS D p k ≤ 999 * k
  | 0 => Nat.le_refl _
  | k + 1 => by
    have h1 := rowS_le hD p k
    have h2 := hD (p * 7 + k)
    rw [rowS]
    omega
theorem allS_le {D : List Nat} (hD : ∀ k, D.getD k 0 ≤ 999) {n : Nat} (hn : n ≤ 7) : ∀ k, allS D n k ≤ 6993 * k
  | 0 => Nat.le_refl _
  | k + 1 => by
    have h1 := allS_le hD hn k
    have h2 := rowS_le hD k n
    rw [allS]
    omega
def ruinS (D : List Nat) (n : Nat) : Nat → Nat
  | 0 => 0
  | k + 1 => ruinS D n k ||| (if 1000 ≤ rowS D k n then 2 ^ k else 0)
