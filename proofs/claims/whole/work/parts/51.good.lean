/-! what parsing gives is good: not too long, of known steps, and it leaves one value on the stack -/
def wfE (s : List Nat) : Prop := ∀ F : List Int32, ∃ v : Int32, ∀ stk : List Int32, s.foldl (stepE F) stk = v :: stk
def vE (F : List Int32) (s : List Nat) : Int32 := (s.foldl (stepE F) []).headD 0
theorem wfE.v {s : List Nat} (h : wfE s) (F stk : List Int32) : s.foldl (stepE F) stk = vE F s :: stk := by
  obtain ⟨v, hv⟩ := h F
  rw [hv stk, vE, hv []]
  rfl
theorem wfE.of {s : List Nat} (F : List Int32) {v : Int32} (h : ∀ stk : List Int32, s.foldl (stepE F) stk = v :: stk) : vE F s = v := by
  rw [vE, h []]
  rfl
theorem step_lo {F stk : List Int32} {x : Nat} (h : x < 20000) : stepE F stk x = (if x < 10000 then nI x else F.getD (x - 10000) 0) :: stk := by rw [stepE.eq_def, if_pos h]
theorem step_tn {F stk : List Int32} {x : Nat} {v : Int32} (h : x = 20004 ∨ x = 20010) : stepE F (v :: stk) x = turnE (x - 20000) v :: stk := by rw [stepE.eq_def, if_neg (by omega), if_pos h]
theorem step_jn {F stk : List Int32} {x : Nat} {a b : Int32} (h1 : 20000 ≤ x) (h2 : ¬ (x = 20004 ∨ x = 20010)) : stepE F (b :: a :: stk) x = joinE (x - 20000) a b :: stk := by rw [stepE.eq_def, if_neg (by omega), if_neg h2]
theorem wf_lo {x : Nat} (h : x < 20000) : wfE [x] := fun F => ⟨_, fun stk => step_lo h⟩
theorem vE_lo {F : List Int32} {x : Nat} (h : x < 20000) : vE F [x] = if x < 10000 then nI x else F.getD (x - 10000) 0 := wfE.of F (fun stk => step_lo h)
theorem tn_eq {F stk : List Int32} {s : List Nat} {x : Nat} (h : wfE s) (hx : x = 20004 ∨ x = 20010) : (s ++ [x]).foldl (stepE F) stk = turnE (x - 20000) (vE F s) :: stk := by
  rw [List.foldl_append, h.v]
  exact step_tn hx
theorem wf_tn {s : List Nat} {x : Nat} (h : wfE s) (hx : x = 20004 ∨ x = 20010) : wfE (s ++ [x]) := fun F => ⟨_, fun stk => tn_eq h hx⟩
theorem vE_tn {F : List Int32} {s : List Nat} {x : Nat} (h : wfE s) (hx : x = 20004 ∨ x = 20010) : vE F (s ++ [x]) = turnE (x - 20000) (vE F s) := wfE.of F (fun stk => tn_eq h hx)
theorem jn_eq {F stk : List Int32} {s s2 : List Nat} {x : Nat} (h : wfE s) (h2 : wfE s2) (h3 : 20000 ≤ x) (h4 : ¬ (x = 20004 ∨ x = 20010)) : (s ++ s2 ++ [x]).foldl (stepE F) stk = joinE (x - 20000) (vE F s) (vE F s2) :: stk := by
  rw [List.foldl_append, List.foldl_append, h.v, h2.v]
  exact step_jn h3 h4
theorem wf_jn {s s2 : List Nat} {x : Nat} (h : wfE s) (h2 : wfE s2) (h3 : 20000 ≤ x) (h4 : ¬ (x = 20004 ∨ x = 20010)) : wfE (s ++ s2 ++ [x]) := fun F => ⟨_, fun stk => jn_eq h h2 h3 h4⟩
theorem vE_jn {F : List Int32} {s s2 : List Nat} {x : Nat} (h : wfE s) (h2 : wfE s2) (h3 : 20000 ≤ x) (h4 : ¬ (x = 20004 ∨ x = 20010)) : vE F (s ++ s2 ++ [x]) = joinE (x - 20000) (vE F s) (vE F s2) := wfE.of F (fun stk => jn_eq h h2 h3 h4)
def gd (s : List Nat) : Prop := (∀ x, x ∈ s → okSt x) ∧ wfE s
def Good (L : List Nat) (p : Nat) (res : PR) : Prop := ∀ s p', res = .inr (s, p') → s.length + p ≤ p' ∧ p' ≤ L.length ∧ gd s
theorem gd_lo {x : Nat} (h : x < 10006) : gd [x] := ⟨fun y hy => by rw [List.mem_singleton] at hy; rw [hy]; exact Or.inl h, wf_lo (by omega)⟩
theorem gd_tn {s : List Nat} {x : Nat} (h : gd s) (hx : x = 20004 ∨ x = 20010) : gd (s ++ [x]) := by
  refine ⟨fun y hy => ?_, wf_tn h.2 hx⟩
  rw [List.mem_append, List.mem_singleton] at hy
  rcases hy with hy | hy
  · exact h.1 y hy
  · exact Or.inr (by omega)
theorem gd_jn {s s2 : List Nat} {k : Nat} (h : gd s) (h2 : gd s2) (hk : k ≤ 61 ∧ k ≠ 4 ∧ k ≠ 10) : gd (s ++ s2 ++ [20000 + k]) := by
  refine ⟨fun y hy => ?_, wf_jn h.2 h2.2 (by omega) (by omega)⟩
  rw [List.mem_append, List.mem_append, List.mem_singleton] at hy
  rcases hy with (hy | hy) | hy
  · exact h.1 y hy
  · exact h2.1 y hy
  · exact Or.inr (by omega)
def opOK (op : Nat → Bool) : Prop := ∀ k, op k = true → k ≤ 61 ∧ k ≠ 4 ∧ k ≠ 10 ∧ k ≠ 0
theorem ok42 : opOK op42 := by intro k h; have := eq_of_beq h; omega
theorem ok9 : opOK op9 := by intro k h; have := eq_of_beq h; omega
theorem ok8 : opOK op8 := by intro k h; have := eq_of_beq h; omega
theorem opPM_iff {k : Nat} : opPM k = true ↔ k = 43 ∨ k = 45 := by unfold opPM; rw [Bool.or_eq_true, beq_iff_eq, beq_iff_eq]
theorem okPM : opOK opPM := by intro k h; have := opPM_iff.mp h; omega
theorem good_lp {op : Nat → Bool} {L : List Nat} {sb : Nat → PR} (hop : opOK op) (hsb : ∀ p, p ≤ L.length → Good L p (sb p)) : ∀ (f : Nat) (s : List Nat) (p p0 : Nat), p ≤ L.length → s.length + p0 ≤ p → gd s → Good L p0 (pLp op L sb f s p)
  | 0, s, p, p0, h1, h2, h3 => by
    intro s' p' h
    rw [pLp] at h
    cases h
    exact ⟨h2, h1, h3⟩
  | f + 1, s, p, p0, h1, h2, h3 => by
    rw [pLp]
    by_cases ho : op (tkK L p) = true
    · rw [if_pos ho]
      have hk := hop _ ho
      have hn := tkN_b h1
      have hn3 := hn.2.2 hk.2.2.2
      have hl := lexP_b h1
      cases hs : sb (tkN L p) with
      | inl e => intro s' p' h; cases h
      | inr q =>
        obtain ⟨s2, p2⟩ := q
        have g := hsb (tkN L p) hn.2.1 s2 p2 hs
        refine good_lp hop hsb f _ p2 p0 g.2.1 ?_ (gd_jn h3 g.2.2 ⟨hk.1, hk.2.1, hk.2.2.1⟩)
        simp only [List.length_append, List.length_singleton]
        omega
    · rw [if_neg ho]
      intro s' p' h
      cases h
      exact ⟨h2, h1, h3⟩
theorem good_bin {op : Nat → Bool} {L : List Nat} {sb : Nat → PR} (hop : opOK op) (hsb : ∀ p, p ≤ L.length → Good L p (sb p)) (p : Nat) (hp : p ≤ L.length) : Good L p (pBin op L sb p) := by
  rw [pBin]
  cases hs : sb p with
  | inl e => intro s' p' h; cases h
  | inr q =>
    obtain ⟨s2, p2⟩ := q
    have g := hsb p hp s2 p2 hs
    exact good_lp hop hsb 160 s2 p2 p g.2.1 g.1 g.2.2
theorem good_cmp {L : List Nat} {sb : Nat → PR} (hsb : ∀ p, p ≤ L.length → Good L p (sb p)) (p : Nat) (hp : p ≤ L.length) : Good L p (pCmp L sb p) := by
  rw [pCmp]
  cases hs : sb p with
  | inl e => intro s' p' h; cases h
  | inr q =>
    obtain ⟨s1, p1⟩ := q
    have g := hsb p hp s1 p1 hs
    simp only
    by_cases hc : tkK L p1 = 60 ∨ tkK L p1 = 61
    · rw [if_pos hc]
      have hn := tkN_b g.2.1
      have hn3 := hn.2.2 (by omega)
      have hl := lexP_b g.2.1
      cases hs2 : sb (tkN L p1) with
      | inl e => intro s' p' h; cases h
      | inr q =>
        obtain ⟨s2, p2⟩ := q
        have g2 := hsb (tkN L p1) hn.2.1 s2 p2 hs2
        intro s' p' h
        cases h
        refine ⟨?_, g2.2.1, gd_jn g.2.2 g2.2.2 (by omega)⟩
        simp only [List.length_append, List.length_singleton]
        omega
    · rw [if_neg hc]
      intro s' p' h
      cases h
      exact g
theorem good_all (L : List Nat) : ∀ d, (∀ p, p ≤ L.length → Good L p (pOne L d p)) ∧ (∀ p, p ≤ L.length → Good L p (pNot L d p)) ∧ (∀ p, p ≤ L.length → Good L p (pEi L d p)) := by
  have key : ∀ d, (d ≠ 0 → (∀ p, p ≤ L.length → Good L p (pOne L (d - 1) p)) ∧ (∀ p, p ≤ L.length → Good L p (pNot L (d - 1) p)) ∧ (∀ p, p ≤ L.length → Good L p (pEi L (d - 1) p))) → (∀ p, p ≤ L.length → Good L p (pOne L d p)) ∧ (∀ p, p ≤ L.length → Good L p (pNot L d p)) ∧ (∀ p, p ≤ L.length → Good L p (pEi L d p)) := by
    intro d ih
    have h1 : ∀ p, p ≤ L.length → Good L p (pOne L d p) := by
      intro p hp
      rw [pOne_eq]
      have hn := tkN_b hp
      have hl := lexP_b hp
      by_cases k2 : tkK L p = 2
      · rw [if_pos k2]
        have hv := tkV_num k2
        have hn3 := hn.2.2 (by omega)
        intro s' p' h
        cases h
        exact ⟨by simp; omega, hn.2.1, gd_lo (by omega)⟩
      rw [if_neg k2]
      by_cases k3 : tkK L p = 3
      · rw [if_pos k3]
        have hv := tkV_name k3
        have hn3 := hn.2.2 (by omega)
        intro s' p' h
        cases h
        exact ⟨by simp; omega, hn.2.1, gd_lo (by omega)⟩
      rw [if_neg k3]
      by_cases k45 : tkK L p = 45
      · rw [if_pos k45]
        by_cases hd : d = 0
        · rw [if_pos hd]; intro s' p' h; cases h
        rw [if_neg hd]
        have hn3 := hn.2.2 (by omega)
        cases hs : pOne L (d - 1) (tkN L p) with
        | inl e => intro s' p' h; cases h
        | inr q =>
          obtain ⟨s2, p2⟩ := q
          have g := (ih hd).1 (tkN L p) hn.2.1 s2 p2 hs
          intro s' p' h
          cases h
          refine ⟨?_, g.2.1, gd_tn g.2.2 (Or.inl rfl)⟩
          simp only [List.length_append, List.length_singleton]
          omega
      rw [if_neg k45]
      by_cases k40 : tkK L p = 40
      · rw [if_pos k40]
        by_cases hd : d = 0
        · rw [if_pos hd]; intro s' p' h; cases h
        rw [if_neg hd]
        have hn3 := hn.2.2 (by omega)
        cases hs : pEi L (d - 1) (tkN L p) with
        | inl e => intro s' p' h; cases h
        | inr q =>
          obtain ⟨s2, p2⟩ := q
          have g := (ih hd).2.2 (tkN L p) hn.2.1 s2 p2 hs
          simp only
          by_cases k41 : tkK L p2 = 41
          · rw [if_pos k41]
            have hn2 := tkN_b g.2.1
            intro s' p' h
            cases h
            exact ⟨by omega, hn2.2.1, g.2.2⟩
          · rw [if_neg k41]; intro s' p' h; cases h
      rw [if_neg k40]
      intro s' p' h
      cases h
    have h2 : ∀ p, p ≤ L.length → Good L p (pNot L d p) := by
      intro p hp
      rw [pNot_eq]
      have hn := tkN_b hp
      have hl := lexP_b hp
      by_cases k10 : tkK L p = 10
      · rw [if_pos k10]
        by_cases hd : d = 0
        · rw [if_pos hd]; intro s' p' h; cases h
        rw [if_neg hd]
        have hn3 := hn.2.2 (by omega)
        cases hs : pNot L (d - 1) (tkN L p) with
        | inl e => intro s' p' h; cases h
        | inr q =>
          obtain ⟨s2, p2⟩ := q
          have g := (ih hd).2.1 (tkN L p) hn.2.1 s2 p2 hs
          intro s' p' h
          cases h
          refine ⟨?_, g.2.1, gd_tn g.2.2 (Or.inr rfl)⟩
          simp only [List.length_append, List.length_singleton]
          omega
      rw [if_neg k10]
      exact good_cmp (good_bin okPM (good_bin ok42 h1)) p hp
    refine ⟨h1, h2, fun p hp => ?_⟩
    rw [pEi_eq]
    exact good_bin ok8 (good_bin ok9 h2) p hp
  intro d
  induction d with
  | zero => exact key 0 (fun h => absurd rfl h)
  | succ d ih => exact key (d + 1) (fun _ => ih)
/-! a whole text: its steps and where the second and the third part begin -/
def pExp (L : List Nat) (k : Nat) (x : Nat ⊕ Nat) : Nat ⊕ Nat := match x with
  | .inl e => .inl e
  | .inr p => if tkK L p = k then .inr (tkN L p) else .inl (lexP L p)
