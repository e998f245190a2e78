/-! reading a store behind a writing; frames -/
theorem zs_ne {σ : ZS} {i j : Nat} {e f : ZC} (hij : j ≠ i) (h : zg σ j = some f) : zg (zs σ i e) j = some f := by
  rw [← h]
  unfold zg zs
  by_cases a : i < 1000
  · rw [if_pos a]
    by_cases b : j < 1000
    · rw [if_pos b, if_pos b, List.getElem?_set_ne (fun q => hij q.symm)]
    · rw [if_neg b, if_neg b]
  · rw [if_neg a]
    by_cases a2 : i < 2000
    · rw [if_pos a2]
      by_cases b : j < 1000
      · rw [if_pos b, if_pos b]
      · rw [if_neg b, if_neg b]
        by_cases b2 : j < 2000
        · rw [if_pos b2, if_pos b2, List.getElem?_set_ne (by omega)]
        · rw [if_neg b2, if_neg b2]
    · rw [if_neg a2]
      by_cases b : j < 1000
      · rw [if_pos b, if_pos b]
      · rw [if_neg b, if_neg b]
        by_cases b2 : j < 2000
        · rw [if_pos b2, if_pos b2]
        · rw [if_neg b2, if_neg b2]
          by_cases b3 : j < 3000
          · rw [if_pos b3, if_pos b3, List.getElem?_set_ne (by omega)]
          · rw [if_neg b3, if_neg b3]
theorem zs_ne' {σ : ZS} {i j : Nat} {e : ZC} (hij : j ≠ i) : zg (zs σ i e) j = zg σ j := by
  cases h : zg σ j with
  | some f => exact zs_ne hij h
  | none =>
    cases h2 : zg (zs σ i e) j with
    | none => rfl
    | some f =>
      have e2 : zs (zs σ i e) i e = zs σ i e := by
        unfold zs
        by_cases a : i < 1000
        · rw [if_pos a, if_pos a]; simp
        · rw [if_neg a, if_neg a]
          by_cases a2 : i < 2000
          · rw [if_pos a2, if_pos a2]; simp
          · rw [if_neg a2, if_neg a2]; simp
      exfalso
      unfold zg zs at h2
      unfold zg at h
      by_cases a : i < 1000
      · rw [if_pos a] at h2
        by_cases b : j < 1000
        · rw [if_pos b] at h h2
          rw [List.getElem?_set_ne (fun q => hij q.symm)] at h2
          rw [h] at h2; cases h2
        · rw [if_neg b] at h h2
          rw [h] at h2; cases h2
      · rw [if_neg a] at h2
        by_cases a2 : i < 2000
        · rw [if_pos a2] at h2
          by_cases b : j < 1000
          · rw [if_pos b] at h h2
            rw [h] at h2; cases h2
          · rw [if_neg b] at h h2
            by_cases b2 : j < 2000
            · rw [if_pos b2] at h h2
              rw [List.getElem?_set_ne (by omega)] at h2
              rw [h] at h2; cases h2
            · rw [if_neg b2] at h h2
              rw [h] at h2; cases h2
        · rw [if_neg a2] at h2
          by_cases b : j < 1000
          · rw [if_pos b] at h h2
            rw [h] at h2; cases h2
          · rw [if_neg b] at h h2
            by_cases b2 : j < 2000
            · rw [if_pos b2] at h h2
              rw [h] at h2; cases h2
            · rw [if_neg b2] at h h2
              by_cases b3 : j < 3000
              · rw [if_pos b3] at h h2
                rw [List.getElem?_set_ne (by omega)] at h2
                rw [h] at h2; cases h2
              · rw [if_neg b3] at h2; cases h2
theorem zs_eq {σ : ZS} {i : Nat} {e f : ZC} (h : zg σ i = some f) : zg (zs σ i e) i = some e := by
  have a := zg_lt h
  unfold zg zs
  rcases a with ⟨a1, a2⟩ | ⟨a1, a2, a3⟩ | ⟨a1, a2, a3⟩
  · rw [if_pos a1, if_pos a1, List.getElem?_set_self a2]
  · rw [if_neg (show ¬ i < 1000 by omega), if_neg (show ¬ i < 1000 by omega), if_pos a2, if_pos a2, List.getElem?_set_self a3]
  · rw [if_neg (show ¬ i < 1000 by omega), if_neg (show ¬ i < 1000 by omega), if_neg (show ¬ i < 2000 by omega), if_neg (show ¬ i < 2000 by omega), if_pos a2, List.getElem?_set_self a3]
/-- nothing outside S has changed -/
def Fr (S : Nat → Prop) (σ σ' : ZS) : Prop := ∀ i : Nat, ¬ S i → zg σ' i = zg σ i
theorem Fr.rf {S : Nat → Prop} {σ : ZS} : Fr S σ σ := fun _ _ => rfl
theorem Fr.tr {S : Nat → Prop} {σ σ' σ'' : ZS} (h : Fr S σ σ') (h' : Fr S σ' σ'') : Fr S σ σ'' := fun i hi => (h' i hi).trans (h i hi)
theorem Fr.mono {S S' : Nat → Prop} {σ σ' : ZS} (h : Fr S σ σ') (hS : ∀ i, S i → S' i) : Fr S' σ σ' := fun i hi => h i (fun q => hi (hS i q))
theorem Fr.zs {S : Nat → Prop} {σ σ' : ZS} {r : Nat} {e : ZC} (h : Fr S σ σ') (hr : S r) : Fr S σ (zs σ' r e) := fun i hi => (zs_ne' (fun q => hi (by rw [q]; exact hr))).trans (h i hi)
theorem Fr.at {S : Nat → Prop} {σ σ' : ZS} (h : Fr S σ σ') {i : Nat} {e : ZC} (hi : ¬ S i) (hg : zg σ i = some e) : zg σ' i = some e := (h i hi).trans hg
theorem gm_getD {l : List Nat} {k : Nat} : (l.map nI).getD k 0 = nI (l.getD k 0) := by
  rw [List.getD_eq_getElem?_getD, List.getElem?_map, List.getD_eq_getElem?_getD]
  cases l[k]? with
  | none => exact nI_0.symm
  | some v => rfl
theorem gm_set {l : List Nat} {k v : Nat} : (l.map nI).set k (nI v) = (l.set k v).map nI := by rw [List.map_set]
/-- a party's cells: at p the object, behind it kinds, numbers, wants, debts -/
def Pa (σ : ZS) (p : Nat) (ro di ru : Int32) (n : Nat) (K N : List Nat) (Wt : List Int32) (D : List Nat) : Prop :=
  zg σ p = some (.inr (.inr (1, [.int ro, .int di, .int ru, .int (nI n), .ref (p + 1), .ref (p + 2), .ref (p + 3), .ref (p + 4)]))) ∧ zg σ (p + 1) = some (.inl (0, K.map nI)) ∧ zg σ (p + 2) = some (.inl (0, N.map nI)) ∧ zg σ (p + 3) = some (.inl (0, Wt)) ∧ zg σ (p + 4) = some (.inl (0, D.map nI)) ∧ n ≤ 7 ∧ K.length = 7 ∧ N.length = 7 ∧ Wt.length = 7 ∧ D.length = 49 ∧ (∀ k, K.getD k 0 ≤ 5) ∧ (∀ k, N.getD k 0 ≤ 9) ∧ (∀ k, D.getD k 0 ≤ 999)
/-- a truth as an int -/
def bI (b : Bool) : Int32 := if b then 1 else 0
theorem nI_one : nI 1 = 1 := by decide
theorem bI_t : bI true = nI 1 := by decide
theorem bI_f : bI false = nI 0 := by decide
theorem bI_nar (b : Bool) : narrow .boolean (.int (bI b)) = .int (bI b) := by cases b <;> decide
theorem bI_fit (b : Bool) : fits .boolean (.int (bI b)) = true := by cases b <;> decide
/-- one of n people -/
def hasB (n : Nat) (x : Int32) : Bool := decide (0 ≤ x) && decide (x < nI n)
theorem hasB_of {n : Nat} {x : Int32} (hn : n < 2147483648) (h : hasB n x = true) : ∃ k : Nat, k < n ∧ x = nI k := by
  simp only [hasB, Bool.and_eq_true, decide_eq_true_eq] at h
  obtain ⟨j, h1, h2⟩ := nI_of (x := x) (fun q => Int32.not_lt.mpr h.1 q)
  subst h2
  exact ⟨j, (nI_ltI h1 hn).mp h.2, rfl⟩
theorem hasB_nI {n k : Nat} (hk : k < 2147483648) (hn : n < 2147483648) : hasB n (nI k) = decide (k < n) := by
  simp only [hasB, nI_ltI hk hn, nI_pos' hk, decide_true, Bool.true_and]
section BRows
variable {M : MD} {d mc ms kc ks pc : Nat} {Q : Option Value → ZS → Prop} {lv : List (Option Value)} {st : List Value} {σ : ZS} {b : Bool} {off : Int} {tgt : Nat}
theorem x_ifB_eq (hd : decode M.2.1 pc = .ok (.ifCond .eq off, 3)) (ht : (pc : Int) + off = (tgt : Int)) (kt : b = false → X M d mc ms Q kc ks tgt lv st σ) (kf : b = true → X M d mc ms Q kc ks (pc + 3) lv st σ) : X M d mc ms Q kc ks pc lv (.int (bI b) :: st) σ :=
  x_if_eq hd ht (fun h => kt (by cases b <;> simp_all [bI])) (fun h => kf (by cases b <;> simp_all [bI]))
theorem x_ifB_ne (hd : decode M.2.1 pc = .ok (.ifCond .ne off, 3)) (ht : (pc : Int) + off = (tgt : Int)) (kt : b = true → X M d mc ms Q kc ks tgt lv st σ) (kf : b = false → X M d mc ms Q kc ks (pc + 3) lv st σ) : X M d mc ms Q kc ks pc lv (.int (bI b) :: st) σ :=
  x_if_ne hd ht (fun h => kt (by cases b <;> simp_all [bI])) (fun h => kf (by cases b <;> simp_all [bI]))
end BRows
