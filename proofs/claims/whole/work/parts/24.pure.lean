/-! pure words: bits, creditors, sums -/
theorem s_l : ∀ n, n < 32 → ((nI n &&& 31).toBitVec.smod 32).toNat = n := by decide +kernel
theorem tb_dm (x k : Nat) : x.testBit k = decide (x / 2 ^ k % 2 = 1) := Nat.testBit_eq_decide_div_mod_eq
theorem z_bit {S k : Nat} (hS : S < 2147483648) (hk : k < 32) : (nI S >>> (nI k &&& 31)) &&& nI 1 = nI (S / 2 ^ k % 2) := by
  rw [pk_shrN hS _ k (s_l k hk)]
  exact pk_andN (Nat.lt_of_le_of_lt (Nat.div_le_self _ _) (by omega)) 1 (by decide)
def oI : Option Nat → Int32
  | none => -1
  | some k => nI k
/-- whom one owes most among the first k of S, and how much -/
def credF (D : List Nat) (p S : Nat) : Nat → Option Nat × Nat
  | 0 => (none, 0)
  | k + 1 => if S.testBit k = true ∧ (credF D p S k).2 < D.getD (p * 7 + k) 0 then (some k, D.getD (p * 7 + k) 0) else credF D p S k
def cred (D : List Nat) (n p S : Nat) : Option Nat := (credF D p S n).1
theorem credF_ok (D : List Nat) (p S : Nat) : ∀ k, (credF D p S k).2 = (match (credF D p S k).1 with | none => 0 | some j => D.getD (p * 7 + j) 0) ∧ (∀ j, (credF D p S k).1 = some j → j < k ∧ S.testBit j = true ∧ 0 < D.getD (p * 7 + j) 0)
  | 0 => ⟨rfl, fun j h => by cases h⟩
  | k + 1 => by
    obtain ⟨h1, h2⟩ := credF_ok D p S k
    rw [credF]
    by_cases hc : S.testBit k = true ∧ (credF D p S k).2 < D.getD (p * 7 + k) 0
    · rw [if_pos hc]
      refine ⟨rfl, fun j h => ?_⟩
      cases h
      exact ⟨Nat.lt_succ_self _, hc.1, Nat.lt_of_le_of_lt (Nat.zero_le _) hc.2⟩
    · rw [if_neg hc]
      exact ⟨h1, fun j h => ⟨Nat.lt_succ_of_lt (h2 j h).1, (h2 j h).2⟩⟩
theorem credF_le {D : List Nat} (hD : ∀ k, D.getD k 0 ≤ 999) (p S k : Nat) : (credF D p S k).2 ≤ 999 := by
  rw [(credF_ok D p S k).1]
  cases (credF D p S k).1 with
  | none => exact Nat.zero_le _
  | some j => exact hD _
/-- one of a kind must sit beside the one owed d -/
def mustB (kind number d : Nat) : Bool :=
  if kind = 1 then decide (10 * number < d) else if kind = 2 then false else if kind = 3 then (number % 2 == 0 && decide (10 * number < d)) else if kind = 4 then decide (500 < d) else if kind = 5 then d % 2 == 1 else true
/-- whom one must have beside -/
def wishO (K N D : List Nat) (n p S : Nat) : Option Nat := match cred D n p S with
  | none => none
  | some c => if mustB (K.getD p 0) (N.getD p 0) (D.getD (p * 7 + c) 0) = true then some c else none
def rowS (D : List Nat) (p : Nat) : Nat → Nat
  | 0 => 0
  | k + 1 => rowS D p k + D.getD (p * 7 + k) 0
def allS (D : List Nat) (n : Nat) : Nat → Nat
  | 0 => 0
  | k + 1 => allS D n k + rowS D k n
theorem rowS_le {D : List Nat} (hD : ∀ k, D.getD k 0 ≤ 999) (p : Nat) : ∀ k, rowS D p k ≤ 999 * k
  | 0 => Nat.le_refl _
  | k + 1 => by
    have h1 := rowS_le hD p k
    have h2 := hD (p * 7 + k)
    rw [rowS]
    omega
theorem allS_le {D : List Nat} (hD : ∀ k, D.getD k 0 ≤ 999) {n : Nat} (hn : n ≤ 7) : ∀ k, allS D n k ≤ 6993 * k
  | 0 => Nat.le_refl _
  | k + 1 => by
    have h1 := allS_le hD hn k
    have h2 := rowS_le hD k n
    rw [allS]
    omega
def ruinS (D : List Nat) (n : Nat) : Nat → Nat
  | 0 => 0
  | k + 1 => ruinS D n k ||| (if 1000 ≤ rowS D k n then 2 ^ k else 0)
theorem nb_and (a b : Nat) : nI a &&& nI b = nI (a &&& b) := by
  apply Int32.toBitVec_inj.1
  show BitVec.ofNat 32 a &&& BitVec.ofNat 32 b = BitVec.ofNat 32 (a &&& b)
  apply BitVec.eq_of_getLsbD_eq
  intro i hi
  simp [hi]
theorem nb_or (a b : Nat) : nI a ||| nI b = nI (a ||| b) := by
  apply Int32.toBitVec_inj.1
  show BitVec.ofNat 32 a ||| BitVec.ofNat 32 b = BitVec.ofNat 32 (a ||| b)
  apply BitVec.eq_of_getLsbD_eq
  intro i hi
  simp [hi]
section BitRows
variable {M : MD} {d mc ms kc ks pc : Nat} {Q : Option Value → ZS → Prop} {lv : List (Option Value)} {st : List Value} {σ : ZS} {a b : Nat}
theorem x_iorN (hd : decode M.2.1 pc = .ok (.ior, 1)) (k : X M d mc ms Q kc ks (pc + 1) lv (.int (nI (a ||| b)) :: st) σ) : X M d mc ms Q kc ks pc lv (.int (nI b) :: .int (nI a) :: st) σ :=
  x_ior hd (by rw [nb_or]; exact k)
theorem x_iandN (hd : decode M.2.1 pc = .ok (.iand, 1)) (k : X M d mc ms Q kc ks (pc + 1) lv (.int (nI (a &&& b)) :: st) σ) : X M d mc ms Q kc ks pc lv (.int (nI b) :: .int (nI a) :: st) σ :=
  x_iand hd (by rw [nb_and]; exact k)
end BitRows
theorem z_shl1 {k : Nat} (hk : k < 31) : nI 1 <<< (nI k &&& 31) = nI (2 ^ k) := by
  rw [pk_shlN _ k (s_l k (by omega)) (by have := Nat.pow_lt_pow_right (a := 2) (by decide) hk; omega), Nat.one_mul]
theorem nI_nm1 {n : Nat} (h : n < 2147483648) : ¬ nI n = -1 := by
  intro q
  have h1 := congrArg Int32.toInt q
  rw [nI_toInt h] at h1
  have h2 : (-1 : Int32).toInt = -1 := by decide
  omega
theorem zcpy_all {a b : List Int32} {n : Nat} (h1 : a.length = n) (h2 : b.length = n) : zcpy a b 0 0 n = a := by
  refine List.ext_getElem? (fun j => ?_)
  rw [zcpy, List.getElem?_map]
  by_cases hj : j < n
  · rw [List.getElem?_range (by omega), Option.map_some, if_pos ⟨Nat.zero_le _, by omega⟩, z_getD (by omega)]
    simp
  · rw [List.getElem?_eq_none (by simp; omega), List.getElem?_eq_none (by omega)]
    rfl
theorem set_same {D : List Nat} {i : Nat} (hi : i < D.length) (h : D.getD i 0 = 0) : D.set i 0 = D := by
  refine List.ext_getElem? (fun j => ?_)
  by_cases hj : j = i
  · subst hj
    rw [List.getElem?_set_self hi]
    rw [List.getD_eq_getElem?_getD, List.getElem?_eq_getElem hi] at h
    rw [List.getElem?_eq_getElem hi]
    exact congrArg some h.symm
  · rw [List.getElem?_set_ne (fun q => hj q.symm)]
theorem getD_set {l : List Nat} {i j v : Nat} : (l.set i v).getD j 0 = if i = j ∧ i < l.length then v else l.getD j 0 := by
  rw [List.getD_eq_getElem?_getD, List.getD_eq_getElem?_getD, List.getElem?_set]
  by_cases h : i = j
  · subst h
    by_cases h2 : i < l.length
    · rw [if_pos rfl, if_pos h2, if_pos ⟨rfl, h2⟩]; rfl
    · rw [if_pos rfl, if_neg h2, if_neg (fun q => h2 q.2), List.getElem?_eq_none (by omega)]
  · rw [if_neg h, if_neg (fun q => h q.1)]
theorem getD_set_le {l : List Nat} {i v b : Nat} (h : ∀ k, l.getD k 0 ≤ b) (hv : v ≤ b) : ∀ k, (l.set i v).getD k 0 ≤ b := by
  intro k
  rw [getD_set]
  split
  · exact hv
  · exact h k
/-- the next number drawn, and what it makes one owe -/
def drZ (z : Int32) : Int32 := z * nI 1103515245 + nI 12345
def drV (z : Int32) : Nat := z.toBitVec.toNat / 512 % 100
def drIn (i : Nat) : Nat → Int32 × List Nat → Int32 × List Nat
  | 0, x => x
  | j + 1, x => if i = j then drIn i j x else (drZ (drIn i j x).1, (drIn i j x).2.set (i * 7 + j) (drV (drZ (drIn i j x).1)))
def drOut (n : Nat) : Nat → Int32 × List Nat → Int32 × List Nat
  | 0, x => x
  | i + 1, x => drIn i n (drOut n i x)
theorem drV_le (z : Int32) : drV z ≤ 99 := by unfold drV; omega
theorem drV_eq (z : Int32) : (z.toUInt32 >>> ((nI 9).toUInt32 &&& Int32.toUInt32 31)).toInt32 = nI (z.toBitVec.toNat / 512) := by
  have h := pk_ushr z (nI 9) 9 (by decide)
  apply Int32.toBitVec_inj.1
  apply BitVec.eq_of_toNat_eq
  rw [h]
  have hz := z.toBitVec.isLt
  rw [pk_tn (by omega)]
theorem drIn_ok (i : Nat) : ∀ (j : Nat) (x : Int32 × List Nat), x.2.length = 49 → (∀ k, x.2.getD k 0 ≤ 999) → (drIn i j x).2.length = 49 ∧ ∀ k, (drIn i j x).2.getD k 0 ≤ 999
  | 0, x, h1, h2 => ⟨h1, h2⟩
  | j + 1, x, h1, h2 => by
    obtain ⟨e1, e2⟩ := drIn_ok i j x h1 h2
    rw [drIn]
    by_cases hij : i = j
    · rw [if_pos hij]; exact ⟨e1, e2⟩
    · rw [if_neg hij]
      exact ⟨by rw [List.length_set]; exact e1, getD_set_le e2 (Nat.le_trans (drV_le _) (by decide))⟩
theorem drOut_ok (n : Nat) : ∀ (i : Nat) (x : Int32 × List Nat), x.2.length = 49 → (∀ k, x.2.getD k 0 ≤ 999) → (drOut n i x).2.length = 49 ∧ ∀ k, (drOut n i x).2.getD k 0 ≤ 999
  | 0, x, h1, h2 => ⟨h1, h2⟩
  | i + 1, x, h1, h2 => by
    obtain ⟨e1, e2⟩ := drOut_ok n i x h1 h2
    exact drIn_ok i n _ e1 e2
theorem Pa.fr {σ σ' : ZS} {p : Nat} {ro di ru : Int32} {n : Nat} {K N : List Nat} {Wt : List Int32} {D : List Nat} {S : Nat → Prop} (h : Pa σ p ro di ru n K N Wt D) (hF : Fr S σ σ') (hS : ∀ i, p ≤ i → i ≤ p + 4 → ¬ S i) : Pa σ' p ro di ru n K N Wt D := by
  obtain ⟨g0, g1, g2, g3, g4, r⟩ := h
  exact ⟨hF.at (hS _ (by omega) (by omega)) g0, hF.at (hS _ (by omega) (by omega)) g1, hF.at (hS _ (by omega) (by omega)) g2, hF.at (hS _ (by omega) (by omega)) g3, hF.at (hS _ (by omega) (by omega)) g4, r⟩
theorem Pa.setD {σ : ZS} {p : Nat} {ro di ru : Int32} {n : Nat} {K N : List Nat} {Wt : List Int32} {D D' : List Nat} (h : Pa σ p ro di ru n K N Wt D) (hl : D'.length = 49) (hb : ∀ k, D'.getD k 0 ≤ 999) : Pa (zs σ (p + 4) (.inl (0, D'.map nI))) p ro di ru n K N Wt D' := by
  obtain ⟨g0, g1, g2, g3, g4, h5, h6, h7, h8, h9, h10, h11, h12⟩ := h
  exact ⟨zs_ne (by omega) g0, zs_ne (by omega) g1, zs_ne (by omega) g2, zs_ne (by omega) g3, zs_eq g4, h5, h6, h7, h8, hl, h10, h11, hb⟩
