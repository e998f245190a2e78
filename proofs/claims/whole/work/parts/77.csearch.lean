/-! the class's search against the leaves -/
theorem ffrom_none {f : Nat → Bool} : ∀ {q k : Nat}, ffrom f q k = none ↔ ∀ i, k ≤ i → i < k + q → f i = false
  | 0, k => ⟨fun _ i h1 h2 => absurd h2 (by omega), fun _ => rfl⟩
  | q + 1, k => by
    rw [ffrom]
    by_cases e : f k = true
    · rw [if_pos e]
      refine ⟨fun h => (by cases h), fun h => ?_⟩
      have := h k (Nat.le_refl _) (by omega)
      rw [e] at this
      cases this
    · rw [if_neg e, ffrom_none]
      constructor
      · intro h i h1 h2
        by_cases c : i = k
        · rw [c]; cases hf : f k with
          | false => rfl
          | true => exact absurd hf e
        · exact h i (by omega) (by omega)
      · intro h i h1 h2
        exact h i (by omega) (by omega)
def uC (r : Bool) (m : Nat) (wl : List (Option Nat)) (t : List Nat) : Bool := (ffrom (fun s => !contB r m t wl s) m 0).isSome
theorem uC_f {r : Bool} {m : Nat} {wl : List (Option Nat)} {t : List Nat} : uC r m wl t = false ↔ ∀ k, k < m → contB r m t wl k = true := by
  have h := ffrom_none (f := fun s => !contB r m t wl s) (q := m) (k := 0)
  unfold uC
  constructor
  · intro e k hk
    have e2 : ffrom (fun s => !contB r m t wl s) m 0 = none := by
      cases hx : ffrom (fun s => !contB r m t wl s) m 0 with
      | none => rfl
      | some c => rw [hx] at e; cases e
    have := h.mp e2 k (Nat.zero_le _) (by omega)
    cases hc : contB r m t wl k with
    | true => rfl
    | false => simp only [hc] at this; cases this
  · intro e
    rw [h.mpr (fun i _ hi => by simp only [e i (by omega)]; rfl)]
    rfl
theorem contB_eqm {r : Bool} {m k : Nat} {wl : List (Option Nat)} {t t' : List Nat} (h : EqM m t t') (hk : k < m) : contB r m t wl k = contB r m t' wl k := by
  unfold contB
  rw [h k hk, h (nxS m k) (nxS_lt hk), h (if 0 < k then k - 1 else m - 1) (by split <;> omega)]
theorem contB_pre {r : Bool} {m k x : Nat} {wl : List (Option Nat)} {t t' : List Nat} (h : EqM x t t') (hx : x ≤ m) (hk : k + 1 < x) (h0 : ¬ (k = 0 ∧ r = true)) : contB r m t wl k = contB r m t' wl k := by
  unfold contB
  have hn : nxS m k = k + 1 := if_pos (by omega)
  rw [hn, h k (by omega), h (k + 1) hk]
  by_cases h1 : 0 < k
  · rw [if_pos h1, h (k - 1) (by omega)]
  · have hr : r = false := by
      cases hr : r with
      | false => rfl
      | true => exact absurd ⟨by omega, hr⟩ h0
    subst hr
    rw [decide_eq_false h1]
    rfl
/-- those behind whom another sits already are content -/
def OkP (r : Bool) (m : Nat) (wl : List (Option Nat)) (x : Nat) (t : List Nat) : Prop := ∀ k, k + 1 < x → ¬ (k = 0 ∧ r = true) → contB r m t wl k = true
theorem lowBit : ∀ A, A < 128 → (List.range 7).filter (fun p => (A &&& (128 - A)).testBit p) = ((List.range 7).filter (fun p => A.testBit p)).take 1 := by decide +kernel
theorem xor0 : ∀ A, A < 128 → A &&& (0 ^^^ 127) = A := by decide +kernel
theorem opS_cand {r : Bool} {A x T : Nat} (hA : A < 128) (h0 : x = 0 → T = 0) : (List.range 7).filter (fun p => (opS r A x T).testBit p) = cand r x (A &&& (T ^^^ 127)) := by
  unfold opS cand bitsL
  by_cases h : x = 0 ∧ r = true
  · rw [if_pos h, if_pos h, h0 h.1, xor0 A hA]
    exact lowBit A hA
  · rw [if_neg h, if_neg h]
theorem childS {A T p : Nat} (hA : A < 128) : A &&& ((T ||| 2 ^ p) ^^^ 127) = (A &&& (T ^^^ 127)) &&& (2 ^ p ^^^ 127) := by
  apply Nat.eq_of_testBit_eq
  intro i
  simp only [Nat.testBit_and, Nat.testBit_or, Nat.testBit_xor]
  by_cases hi : i < 7
  · rw [tb127 hi]
    cases A.testBit i <;> cases T.testBit i <;> cases (2 ^ p).testBit i <;> rfl
  · rw [Nat.testBit_lt_two_pow (Nat.lt_of_lt_of_le hA (Nat.pow_le_pow_right (n := 2) (i := 7) (by decide) (by omega)))]
    rfl
section Search
variable (r j : Bool) (A m : Nat) (wl : List (Option Nat)) (Wo Ho : List Int32) (en : Int32)
def plC (f seat taken : Nat) (sum : Int32) (q : QS) (one : Nat) : QS :=
  if q.2.2.2.toInt < en.toInt then (if bearB r m (q.1.set seat one) wl seat = true then plS r j A m wl Wo Ho en f (seat + 1) (taken ||| 2 ^ one) (sum + addI j (q.1.set seat one) Wo seat) (q.1.set seat one, q.2) else (q.1.set seat one, q.2)) else q
variable {r j A m wl Wo Ho en}
theorem plS_cand {f seat taken : Nat} {sum : Int32} {q : QS} (hA : A < 128) (h0 : seat = 0 → taken = 0) : plS r j A m wl Wo Ho en (f + 1) seat taken sum q = if j = true ∧ 0 < q.2.2.2.toInt ∧ (sum + Ho.getD seat 0).toInt ≤ q.2.2.1.toInt then q else (cand r seat (A &&& (taken ^^^ 127))).foldl (plC r j A m wl Wo Ho en f seat taken sum) q := by
  rw [← opS_cand hA h0, List.foldl_filter]
  have e : plS r j A m wl Wo Ho en (f + 1) seat taken sum q = if j = true ∧ 0 < q.2.2.2.toInt ∧ (sum + Ho.getD seat 0).toInt ≤ q.2.2.1.toInt then q else (List.range 7).foldl (plB r j A m wl Wo Ho en f seat taken sum) q := by rw [plS]; rfl
  rw [e]
  congr 2
  funext q one
  rw [plB, plC]
  by_cases c1 : (opS r A seat taken).testBit one = true
  · rw [if_pos c1]
    by_cases c2 : q.2.2.2.toInt < en.toInt
    · rw [if_pos c2, if_pos ⟨c2, c1⟩]
    · rw [if_neg c2, if_neg (fun z => c2 z.1)]
  · rw [if_neg c1, if_neg (fun z => c1 z.2)]
theorem leaf_law {q t : List Nat} (h : EqM m q t) (ho : OkP r m wl m t) : ¬ (0 < m ∧ (contB r m q wl (m - 1) && contB r m q wl 0) = false) ↔ uC r m wl t = false := by
  rw [uC_f]
  constructor
  · intro h1 k hk
    have h2 : (contB r m q wl (m - 1) && contB r m q wl 0) = true := by
      cases hb : (contB r m q wl (m - 1) && contB r m q wl 0) with
      | true => rfl
      | false => exact absurd ⟨by omega, hb⟩ h1
    rw [Bool.and_eq_true, contB_eqm h (by omega), contB_eqm h (by omega)] at h2
    by_cases e1 : k = m - 1
    · rw [e1]; exact h2.1
    · by_cases e2 : k = 0
      · rw [e2]; exact h2.2
      · exact ho k (by omega) (fun z => e2 z.1)
  · rintro h1 ⟨h2, h3⟩
    rw [contB_eqm h (by omega), contB_eqm h (by omega), h1 _ (by omega), h1 _ (by omega)] at h3
    cases h3
theorem OkP.step {x p : Nat} {t : List Nat} (h : OkP r m wl x t) (hx : x < m) (hl : x < t.length) (hb : bearB r m (t.set x p) wl x = true) : OkP r m wl (x + 1) (t.set x p) := by
  intro k hk h0
  by_cases e : k + 1 = x
  · unfold bearB at hb
    rw [if_neg (by rintro (z | z); · omega
                   · exact h0 ⟨by omega, z.2⟩)] at hb
    rw [show k = x - 1 by omega]
    exact hb
  · rw [contB_pre (x := x) (EqM.setl) (by omega) (by omega) h0]
    exact h k (by omega) h0
theorem bear_not {x p : Nat} {q t y : List Nat} (hx : x < m) (h1 : EqM (x + 1) q t) (h2 : EqM (x + 1) y t) (hb : ¬ bearB r m q wl x = true) : uC r m wl y = true := by
  cases hu : uC r m wl y with
  | true => rfl
  | false =>
    exfalso
    apply hb
    unfold bearB
    split
    · rfl
    · rename_i hc
      rw [contB_pre (x := x + 1) (h1.tr h2.sy) (by omega) (by omega) (fun z => hc (Or.inr ⟨by omega, z.2⟩))]
      exact uC_f.mp hu (x - 1) (by omega)
theorem bear_eq {x : Nat} {q t : List Nat} (hx : x < m) (h1 : EqM (x + 1) q t) : bearB r m q wl x = bearB r m t wl x := by
  unfold bearB
  split
  · rfl
  · rename_i hc
    exact contB_pre (x := x + 1) h1 (by omega) (by omega) (fun z => hc (Or.inr ⟨by omega, z.2⟩))
/-- how many are lawful -/
def cntU (u : List Nat → Bool) (l : List (List Nat)) : Nat := (l.filter (fun y => !u y)).length
theorem cntU_app {u : List Nat → Bool} {l l' : List (List Nat)} : cntU u (l ++ l') = cntU u l + cntU u l' := by rw [cntU, List.filter_append, List.length_append]; rfl
theorem cntU_0 {u : List Nat → Bool} {l : List (List Nat)} (h : ∀ y, y ∈ l → u y = true) : cntU u l = 0 := by
  rw [cntU, List.length_eq_zero_iff, List.filter_eq_nil_iff]
  intro y hy
  rw [h y hy]
  decide
theorem plS_cnt {n A' : Nat} (hA : A < 128) (hm7 : m ≤ 7) : ∀ (f seat taken : Nat) (sum : Int32) (q : QS) (t : List Nat), seat + f = m → (seat = 0 → taken = 0) → q.1.length = 7 → popc (A &&& (taken ^^^ 127)) = f → Pl n A' seat (A &&& (taken ^^^ 127)) t → EqM seat q.1 t → OkP r m wl seat t → 0 ≤ q.2.2.2.toInt → q.2.2.2.toInt < en.toInt → (plS r false A m wl Wo Ho en f seat taken sum q).1.length = 7 ∧ EqM seat (plS r false A m wl Wo Ho en f seat taken sum q).1 t ∧ (plS r false A m wl Wo Ho en f seat taken sum q).2.2.2.toInt = min en.toInt (q.2.2.2.toInt + (cntU (uC r m wl) (lvs r f seat (A &&& (taken ^^^ 127)) t) : Nat))
  | 0, seat, taken, sum, q, t, h1, h2, h3, h4, h5, h6, h7, h8, h9 => by
    obtain rfl : seat = m := by omega
    have hl := leaf_law h6 h7
    rw [plS, clS, lvs, cntU]
    by_cases c : 0 < seat ∧ (contB r seat q.1 wl (seat - 1) && contB r seat q.1 wl 0) = false
    · rw [if_pos c]
      have hu : uC r seat wl t = true := by
        cases hu : uC r seat wl t with
        | true => rfl
        | false => exact absurd c (hl.mpr hu)
      refine ⟨h3, h6, ?_⟩
      rw [List.filter_cons_of_neg (by rw [hu]; decide)]
      simp only [List.filter_nil, List.length_nil]
      omega
    · rw [if_neg c, if_pos rfl]
      refine ⟨h3, h6, ?_⟩
      rw [List.filter_cons_of_pos (by rw [hl.mp c]; rfl)]
      have hi := tI_hi en
      simp only [List.filter_nil, List.length_cons, List.length_nil, add1 (x := q.2.2.2) (by omega) (by omega)]
      omega
  | f + 1, seat, taken, sum, q, t, h1, h2, h3, h4, h5, h6, h7, h8, h9 => by
    rw [plS_cand hA h2, if_neg (fun z => absurd z.1 (by decide)), lvs]
    have key : ∀ (l : List Nat) (q : QS), (∀ p, p ∈ l → p ∈ cand r seat (A &&& (taken ^^^ 127))) → q.1.length = 7 → EqM seat q.1 t → 0 ≤ q.2.2.2.toInt → q.2.2.2.toInt ≤ en.toInt → (l.foldl (plC r false A m wl Wo Ho en f seat taken sum) q).1.length = 7 ∧ EqM seat (l.foldl (plC r false A m wl Wo Ho en f seat taken sum) q).1 t ∧ (l.foldl (plC r false A m wl Wo Ho en f seat taken sum) q).2.2.2.toInt = min en.toInt (q.2.2.2.toInt + (cntU (uC r m wl) (l.flatMap (fun p => lvs r f (seat + 1) ((A &&& (taken ^^^ 127)) &&& (2 ^ p ^^^ 127)) (t.set seat p))) : Nat)) := by
      intro l
      induction l with
      | nil =>
        intro q _ g1 g2 g3 g4
        refine ⟨g1, g2, ?_⟩
        have e : cntU (uC r m wl) (([] : List Nat).flatMap (fun p => lvs r f (seat + 1) ((A &&& (taken ^^^ 127)) &&& (2 ^ p ^^^ 127)) (t.set seat p))) = 0 := rfl
        rw [e]
        simp only [List.foldl_nil]
        omega
      | cons p l ih =>
        intro q hl g1 g2 g3 g4
        obtain ⟨hp7, hb⟩ := cand_mem (hl p List.mem_cons_self)
        have hl2 : ∀ p', p' ∈ l → p' ∈ cand r seat (A &&& (taken ^^^ 127)) := fun p' hp' => hl p' (List.mem_cons_of_mem _ hp')
        have ht7 : t.length = 7 := h5.1
        have gs : EqM (seat + 1) (q.1.set seat p) (t.set seat p) := g2.set (by omega) (by omega)
        have hpl := h5.step (show seat < 7 by omega) hp7 hb
        have hpc : popc ((A &&& (taken ^^^ 127)) &&& (2 ^ p ^^^ 127)) = f := by have := popc_rm _ h5.2.1 p hp7 hb; omega
        have lok := fun y hy => lvs_ok (r := r) f (seat + 1) _ _ (by omega) hpc hpl y hy
        rw [List.foldl_cons, List.flatMap_cons, cntU_app]
        by_cases c1 : q.2.2.2.toInt < en.toInt
        · by_cases c2 : bearB r m (q.1.set seat p) wl seat = true
          · have e : plC r false A m wl Wo Ho en f seat taken sum q p = plS r false A m wl Wo Ho en f (seat + 1) (taken ||| 2 ^ p) (sum + addI false (q.1.set seat p) Wo seat) (q.1.set seat p, q.2) := by rw [plC, if_pos c1, if_pos c2]
            rw [e]
            have hx := plS_cnt (n := n) (A' := A') hA hm7 f (seat + 1) (taken ||| 2 ^ p) (sum + addI false (q.1.set seat p) Wo seat) (q.1.set seat p, q.2) (t.set seat p) (by omega) (by omega) (by rw [List.length_set]; exact g1) (by rw [childS hA]; exact hpc) (by rw [childS hA]; exact hpl) gs (h7.step (by omega) (by omega) (by rw [← bear_eq (by omega) gs]; exact c2)) g3 c1
            rw [childS hA] at hx
            obtain ⟨x1, x2, x3⟩ := hx
            have x4 : EqM seat (plS r false A m wl Wo Ho en f (seat + 1) (taken ||| 2 ^ p) (sum + addI false (q.1.set seat p) Wo seat) (q.1.set seat p, q.2)).1 t := (x2.le (Nat.le_succ _)).tr EqM.setl
            obtain ⟨y1, y2, y3⟩ := ih _ hl2 x1 x4 (by simp only at x3; omega) (by simp only at x3; omega)
            refine ⟨y1, y2, ?_⟩
            rw [y3]
            simp only at x3
            omega
          · have e : plC r false A m wl Wo Ho en f seat taken sum q p = (q.1.set seat p, q.2) := by rw [plC, if_pos c1, if_neg c2]
            rw [e, cntU_0 (fun y hy => bear_not (p := p) (by omega) gs (lok y hy).1 c2)]
            obtain ⟨y1, y2, y3⟩ := ih (q.1.set seat p, q.2) hl2 (by rw [List.length_set]; exact g1) (EqM.setl.tr g2) g3 g4
            refine ⟨y1, y2, ?_⟩
            rw [y3]
            simp only
            omega
        · have e : plC r false A m wl Wo Ho en f seat taken sum q p = q := by rw [plC, if_neg c1]
          rw [e]
          obtain ⟨y1, y2, y3⟩ := ih q hl2 g1 g2 g3 g4
          refine ⟨y1, y2, ?_⟩
          rw [y3]
          omega
    exact key _ q (fun _ h => h) h3 h6 h8 (by omega)
end Search
