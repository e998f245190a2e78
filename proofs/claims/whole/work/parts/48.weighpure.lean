/-! weighing: pure words -/
section Weigh
variable (v : Nat → Nat → Nat → Int32) (n : Nat)
def PW (Wo : List Int32) (s a b : Nat) : Prop := ∀ a' b', a' < n → b' < n → a' ≠ b' → (a' < a ∨ (a' = a ∧ b' < b)) → Wo.getD ((s * 7 + a') * 7 + b') 0 = v s a' b'
def WK (pr : Nat) (Wo : List Int32) (s0 : Nat) : Prop := ∀ s a b, s0 ≤ s → s < pr → a < n → b < n → a ≠ b → Wo.getD ((s * 7 + a) * 7 + b) 0 = v s a b
def PM (mo : Int32) (s a b : Nat) : Prop := (∀ a' b', a' < n → b' < n → a' ≠ b' → (a' < a ∨ (a' = a ∧ b' < b)) → (v s a' b').toInt ≤ mo.toInt) ∧ (mo = (-2147483648) ∨ ∃ a' b', a' < n ∧ b' < n ∧ a' ≠ b' ∧ mo = v s a' b')
def HK (pr : Nat) (Ho : List Int32) (s0 : Nat) : Prop := (∀ i, pr < i → i < 9 → Ho.getD i 0 = nI 0) ∧ ∀ s, s0 ≤ s → s < pr → ∃ mo : Int32, Ho.getD (s + 1) 0 = Ho.getD (s + 2) 0 + mo ∧ PM v n mo s n 0
variable {v : Nat → Nat → Nat → Int32} {n : Nat} {Wo Ho : List Int32} {s a b pr : Nat} {mo : Int32}
theorem PW_set (hn : n ≤ 7) (hl : Wo.length = 343) (hs : s < 7) (ha : a < n) (hb : b < n) (h : PW v n Wo s a b) : PW v n (Wo.set ((s * 7 + a) * 7 + b) (v s a b)) s a (b + 1) := by
  intro a' b' h1 h2 h3 h4
  rw [gset (by omega)]
  by_cases e : (s * 7 + a') * 7 + b' = (s * 7 + a) * 7 + b
  · have e1 : a' = a := by omega
    have e2 : b' = b := by omega
    subst e1 e2
    rw [if_pos rfl]
  · rw [if_neg e]
    refine h a' b' h1 h2 h3 ?_
    rcases h4 with h4 | ⟨h4, h5⟩
    · exact Or.inl h4
    · exact Or.inr ⟨h4, by subst h4; omega⟩
theorem PW_skip (hab : a = b) (h : PW v n Wo s a b) : PW v n Wo s a (b + 1) := fun a' b' h1 h2 h3 h4 => h a' b' h1 h2 h3 (by omega)
theorem PW_row (h : PW v n Wo s a n) : PW v n Wo s (a + 1) 0 := fun a' b' h1 h2 h3 h4 => h a' b' h1 h2 h3 (by omega)
theorem PW_0 : PW v n Wo s 0 0 := fun a' b' h1 h2 h3 h4 => absurd h4 (by omega)
theorem PM_0 : PM v n (-2147483648) s 0 0 := ⟨fun a' b' h1 h2 h3 h4 => absurd h4 (by omega), Or.inl rfl⟩
theorem PM_skip (hab : a = b) (h : PM v n mo s a b) : PM v n mo s a (b + 1) := ⟨fun a' b' h1 h2 h3 h4 => h.1 a' b' h1 h2 h3 (by omega), h.2⟩
theorem PM_row (h : PM v n mo s a n) : PM v n mo s (a + 1) 0 := ⟨fun a' b' h1 h2 h3 h4 => h.1 a' b' h1 h2 h3 (by omega), h.2⟩
theorem PM_max (ha : a < n) (hb : b < n) (hab : ¬ a = b) (h : PM v n mo s a b) : PM v n (if mo.toInt < (v s a b).toInt then v s a b else mo) s a (b + 1) := by
  refine ⟨fun a' b' h1 h2 h3 h4 => ?_, ?_⟩
  · by_cases e : a' = a ∧ b' = b
    · obtain ⟨rfl, rfl⟩ := e
      split <;> omega
    · have := h.1 a' b' h1 h2 h3 (by omega)
      split <;> omega
  · split
    · exact Or.inr ⟨a, b, ha, hb, hab, rfl⟩
    · exact h.2
theorem WK_set {x : Int32} (hn : n ≤ 7) (hl : Wo.length = 343) (hs : s < 7) (ha : a < n) (hb : b < n) (hpr : pr ≤ 7) (h : WK v n pr Wo (s + 1)) : WK v n pr (Wo.set ((s * 7 + a) * 7 + b) x) (s + 1) := by
  intro s' a' b' h0 h1 h2 h3 h4
  rw [gset (by omega), if_neg (by omega)]
  exact h s' a' b' h0 h1 h2 h3 h4
theorem WK_all (h : WK v n pr Wo (s + 1)) (hp : PW v n Wo s n 0) : WK v n pr Wo s := by
  intro s' a' b' h0 h1 h2 h3 h4
  by_cases e : s' = s
  · subst e
    exact hp a' b' h2 h3 h4 (Or.inl h2)
  · exact h s' a' b' (by omega) h1 h2 h3 h4
theorem HK_set (hl : Ho.length = 9) (hs : s < pr) (hpr : pr ≤ 7) (h : HK v n pr Ho (s + 1)) (hm : PM v n mo s n 0) : HK v n pr (Ho.set (s + 1) (Ho.getD (s + 2) 0 + mo)) s := by
  refine ⟨fun i h1 h2 => ?_, fun s' h1 h2 => ?_⟩
  · rw [gset (by omega), if_neg (by omega)]
    exact h.1 i h1 h2
  · by_cases e : s' = s
    · subst e
      exact ⟨mo, by rw [gset (by omega), gset (by omega), if_pos rfl, if_neg (by omega)], hm⟩
    · obtain ⟨mo', e1, e2⟩ := h.2 s' (by omega) h2
      exact ⟨mo', by rw [gset (by omega), gset (by omega), if_neg (by omega), if_neg (by omega)]; exact e1, e2⟩
theorem HK_zero (hl : Ho.length = 9) (h : HK v n pr Ho 0) : HK v n pr (Ho.set 0 (Ho.getD 1 0)) 0 ∧ (Ho.set 0 (Ho.getD 1 0)).getD 0 0 = (Ho.set 0 (Ho.getD 1 0)).getD 1 0 := by
  refine ⟨⟨fun i h1 h2 => ?_, fun s' h1 h2 => ?_⟩, ?_⟩
  · rw [gset (by omega), if_neg (by omega)]
    exact h.1 i h1 h2
  · obtain ⟨mo', e1, e2⟩ := h.2 s' h1 h2
    exact ⟨mo', by rw [gset (by omega), gset (by omega), if_neg (by omega), if_neg (by omega)]; exact e1, e2⟩
  · rw [gset (by omega), gset (by omega), if_pos rfl, if_neg (by omega)]
theorem HK_rep : HK v n pr (List.replicate 9 (nI 0)) pr := by
  refine ⟨fun i h1 h2 => ?_, fun s h1 h2 => absurd h2 (by omega)⟩
  rw [List.getD_eq_getElem?_getD, List.getElem?_replicate, if_pos h2]
  rfl
theorem WK_none : WK v n pr Wo pr := fun s a b h0 h1 => absurd h1 (by omega)
end Weigh
/-- what a pair on a seat adds -/
def vW (cl : Bool) (S : List Nat) (lf jf : Nat) (K N : List Nat) (W : List Int32) (D : List Nat) (m : Nat) (s a b : Nat) : Int32 := if cl = true then clI S lf jf K N W D a s b (nxS m s) m else jpI S jf K N W D a s b (nxS m s) m
theorem nI_dec (j : Nat) : nI j + Int32.ofInt (-1) = nI j - nI 1 := by rw [Int32.sub_eq_add_neg]; congr 1
theorem nI_suc (j : Nat) : nI (j + 1) - nI 1 = nI j := by
  have e : nI (j + 1) = nI j + nI 1 := by
    apply Int32.toBitVec_inj.1
    show BitVec.ofNat 32 (j + 1) = BitVec.ofNat 32 j + BitVec.ofNat 32 1
    rw [BitVec.ofNat_add]
  rw [e, Int32.add_sub_cancel]
