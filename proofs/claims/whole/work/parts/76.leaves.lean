/-! all tables in their order, as leaves of a search -/
def EqM (m : Nat) (t t' : List Nat) : Prop := ∀ i, i < m → t.getD i 0 = t'.getD i 0
theorem EqM.rf {m : Nat} {t : List Nat} : EqM m t t := fun _ _ => rfl
theorem EqM.tr {m : Nat} {t t' t'' : List Nat} (h : EqM m t t') (h' : EqM m t' t'') : EqM m t t'' := fun i hi => (h i hi).trans (h' i hi)
theorem EqM.sy {m : Nat} {t t' : List Nat} (h : EqM m t t') : EqM m t' t := fun i hi => (h i hi).symm
theorem EqM.le {m k : Nat} {t t' : List Nat} (h : EqM m t t') (hk : k ≤ m) : EqM k t t' := fun i hi => h i (by omega)
theorem EqM.set {x p : Nat} {t t' : List Nat} (h : EqM x t t') (h1 : x < t.length) (h2 : x < t'.length) : EqM (x + 1) (t.set x p) (t'.set x p) := by
  intro i hi
  rw [getD_set, getD_set]
  by_cases e : x = i
  · rw [if_pos ⟨e, h1⟩, if_pos ⟨e, h2⟩]
  · rw [if_neg (fun q => e q.1), if_neg (fun q => e q.1)]; exact h i (by omega)
theorem EqM.setl {x p : Nat} {t : List Nat} : EqM x (t.set x p) t := by
  intro i hi
  rw [getD_set, if_neg (by omega)]
def bitsL (S : Nat) : List Nat := (List.range 7).filter (fun p => S.testBit p)
def cand (r : Bool) (x S : Nat) : List Nat := if x = 0 ∧ r = true then (bitsL S).take 1 else bitsL S
def lvs (r : Bool) : Nat → Nat → Nat → List Nat → List (List Nat)
  | 0, _, _, t => [t]
  | f + 1, x, S, t => (cand r x S).flatMap (fun p => lvs r f (x + 1) (S &&& (2 ^ p ^^^ 127)) (t.set x p))
theorem bitsL_mem {S p : Nat} : p ∈ bitsL S ↔ p < 7 ∧ S.testBit p = true := by
  rw [bitsL, List.mem_filter, List.mem_range]
theorem cand_mem {r : Bool} {x S p : Nat} (h : p ∈ cand r x S) : p < 7 ∧ S.testBit p = true := by
  unfold cand at h
  split at h
  · exact bitsL_mem.mp (List.mem_of_mem_take h)
  · exact bitsL_mem.mp h
/-- a table's first k are people, each once -/
def Dis (n k : Nat) (t : List Nat) : Prop := (∀ i, i < k → t.getD i 0 < n) ∧ ∀ i j, i < j → j < k → t.getD i 0 ≠ t.getD j 0
/-- what is known of a search's place -/
def Pl (n A x S : Nat) (t : List Nat) : Prop := t.length = 7 ∧ S < 128 ∧ (∀ p, S.testBit p = true → p < n) ∧ Dis n x t ∧ (∀ i, i < x → S.testBit (t.getD i 0) = false) ∧ setS t x ||| S = A
theorem tb_rm {S k p : Nat} (hp : p < 7) : (S &&& (2 ^ k ^^^ 127)).testBit p = (S.testBit p && !decide (k = p)) := by
  rw [Nat.testBit_and, Nat.testBit_xor, tb127 hp, Nat.testBit_two_pow]
  cases S.testBit p <;> cases decide (k = p) <;> rfl
theorem setS_eqm {t t' : List Nat} : ∀ {x : Nat}, EqM x t t' → setS t x = setS t' x
  | 0, _ => rfl
  | x + 1, h => by rw [setS, setS, setS_eqm (h.le (Nat.le_succ x)), h x (Nat.lt_succ_self x)]
theorem or_rm {B S k : Nat} (hS : S < 128) (hk : k < 7) (hb : S.testBit k = true) : (B ||| 2 ^ k) ||| (S &&& (2 ^ k ^^^ 127)) = B ||| S := by
  apply Nat.eq_of_testBit_eq
  intro i
  by_cases hi : i < 7
  · rw [Nat.testBit_or, Nat.testBit_or, Nat.testBit_or, tb_rm hi, Nat.testBit_two_pow]
    by_cases e : k = i
    · subst e
      rw [hb]
      simp
    · rw [decide_eq_false e]
      simp
  · have h7 : ∀ Z, Z < 128 → Z.testBit i = false := fun Z hZ => Nat.testBit_lt_two_pow (Nat.lt_of_lt_of_le hZ (Nat.pow_le_pow_right (n := 2) (i := 7) (by decide) (by omega)))
    rw [Nat.testBit_or, Nat.testBit_or, Nat.testBit_or, h7 _ hS, h7 _ (and128 hS), h7 _ (p128 k hk)]
    simp
theorem Pl.step {n A x S p : Nat} {t : List Nat} (h : Pl n A x S t) (hx : x < 7) (hp : p < 7) (hb : S.testBit p = true) : Pl n A (x + 1) (S &&& (2 ^ p ^^^ 127)) (t.set x p) := by
  obtain ⟨h1, h2, h3, ⟨h4, h5⟩, h6, h7⟩ := h
  have e : ∀ i, i < x + 1 → (t.set x p).getD i 0 = if i = x then p else t.getD i 0 := by
    intro i hi
    rw [getD_set]
    by_cases e : i = x
    · rw [if_pos e, if_pos ⟨e.symm, by omega⟩]
    · rw [if_neg e, if_neg (fun q => e q.1.symm)]
  refine ⟨by rw [List.length_set]; exact h1, and128 h2, fun q hq => h3 q (bit_rm hq), ⟨fun i hi => ?_, fun i j hij hj => ?_⟩, fun i hi => ?_, ?_⟩
  · rw [e i hi]
    split
    · exact h3 p hb
    · exact h4 i (by omega)
  · rw [e i (by omega), e j hj, if_neg (by omega)]
    split
    · intro q
      have := h6 i (by omega)
      rw [q, hb] at this
      cases this
    · exact h5 i j hij (by omega)
  · rw [e i hi]
    split
    · rw [tb_rm hp, decide_eq_true rfl, Bool.not_true, Bool.and_false]
    · by_cases h8 : t.getD i 0 < 7
      · rw [tb_rm h8, h6 i (by omega), Bool.false_and]
      · rw [Nat.testBit_and, h6 i (by omega), Bool.false_and]
  · rw [setS, setS_eqm (t' := t) EqM.setl, e x (by omega), if_pos rfl, or_rm h2 hp hb]
    exact h7
/-- what is true of every leaf -/
theorem lvs_ok {r : Bool} {n A : Nat} : ∀ (f x S : Nat) (t : List Nat), x + f ≤ 7 → popc S = f → Pl n A x S t → ∀ y, y ∈ lvs r f x S t → EqM x y t ∧ y.length = 7 ∧ Dis n (x + f) y ∧ setS y (x + f) = A
  | 0, x, S, t, h1, h2, h3, y, hy => by
    rw [lvs, List.mem_singleton] at hy
    subst hy
    obtain ⟨g1, g2, g3, g4, g5, g6⟩ := h3
    refine ⟨EqM.rf, g1, g4, ?_⟩
    rw [popc_0 S g2 h2, Nat.or_zero] at g6
    exact g6
  | f + 1, x, S, t, h1, h2, h3, y, hy => by
    rw [lvs, List.mem_flatMap] at hy
    obtain ⟨p, hp, hy⟩ := hy
    obtain ⟨hp7, hb⟩ := cand_mem hp
    have h := lvs_ok f (x + 1) _ _ (by omega) (by have := popc_rm S h3.2.1 p hp7 hb; omega) (h3.step (by omega) hp7 hb) y hy
    refine ⟨(h.1.le (Nat.le_succ x)).tr EqM.setl, h.2.1, ?_, ?_⟩
    · rw [show x + (f + 1) = x + 1 + f by omega]; exact h.2.2.1
    · rw [show x + (f + 1) = x + 1 + f by omega]; exact h.2.2.2
/-! the reference's search is a fold over the leaves -/
theorem skL_eq {g : Nat → Q5T → Q5T} {S : Nat} {r0 : Bool} : ∀ (c k : Nat) (q : Q5T), skL g S r0 c k q = (if r0 = true then ((List.range' k c).filter (fun p => S.testBit p)).take 1 else (List.range' k c).filter (fun p => S.testBit p)).foldl (fun q p => g p q) q
  | 0, k, q => by cases r0 <;> rfl
  | c + 1, k, q => by
    rw [skL, List.range'_succ]
    cases hb : S.testBit k with
    | false =>
      rw [if_neg (by decide), skL_eq c (k + 1) q, List.filter_cons_of_neg (by rw [hb]; decide)]
    | true =>
      rw [if_pos rfl, List.filter_cons_of_pos hb]
      cases r0 with
      | true => rw [if_pos rfl, if_pos rfl]; rfl
      | false => rw [if_neg (by decide), if_neg (by decide), skL_eq c (k + 1) (g k q), if_neg (by decide)]; rfl
theorem bits_n {S n : Nat} (hn : n ≤ 7) (h : ∀ p, S.testBit p = true → p < n) : (List.range' 0 n).filter (fun p => S.testBit p) = bitsL S := by
  have e : List.range 7 = List.range' 0 n ++ List.range' n (7 - n) := by
    have := List.range'_append (s := 0) (m := n) (n := 7 - n) (step := 1)
    rw [Nat.one_mul, Nat.zero_add] at this
    rw [this, List.range_eq_range']
    congr 1
    omega
  rw [bitsL, e, List.filter_append]
  have e2 : (List.range' n (7 - n)).filter (fun p => S.testBit p) = [] := by
    rw [List.filter_eq_nil_iff]
    intro p hp hb
    have := h p hb
    rw [List.mem_range'_1] at hp
    omega
  rw [e2, List.append_nil]
theorem skL_cand {g : Nat → Q5T → Q5T} {S n x : Nat} {r : Bool} (hn : n ≤ 7) (h : ∀ p, S.testBit p = true → p < n) (q : Q5T) : skL g S (decide (x = 0) && r) n 0 q = (cand r x S).foldl (fun q p => g p q) q := by
  rw [skL_eq, bits_n hn h, cand]
  congr 1
  by_cases e : x = 0
  · rw [decide_eq_true e]
    cases r
    · rw [if_neg (by decide), if_neg (fun z => absurd z.2 (by decide))]
    · rw [if_pos (show (true && true) = true from rfl), if_pos ⟨e, rfl⟩]
  · rw [decide_eq_false e, if_neg (by cases r <;> decide), if_neg (fun z => e z.1)]
theorem skS_fold {n : Nat} (hn : n ≤ 7) {r : Bool} {lk : List Nat → Q5T → Q5T} : ∀ (f x S : Nat) (t : List Nat) (q : Q5T), (∀ p, S.testBit p = true → p < n) → skS n r false lk f x S t q = (lvs r f x S t).foldl (fun q t => lk t q) q
  | 0, x, S, t, q, h => rfl
  | f + 1, x, S, t, q, h => by
    rw [skS, if_neg (fun z => absurd z.1 (by decide)), skL_cand hn h, lvs, List.foldl_flatMap]
    have : ∀ (l : List Nat) (q : Q5T), l.foldl (fun q p => skS n r false lk f (x + 1) (S &&& (2 ^ p ^^^ 127)) (t.set x p) q) q = l.foldl (fun q p => (lvs r f (x + 1) (S &&& (2 ^ p ^^^ 127)) (t.set x p)).foldl (fun q t => lk t q) q) q := by
      intro l
      induction l with
      | nil => intro q; rfl
      | cons p l ih =>
        intro q
        rw [List.foldl_cons, List.foldl_cons, skS_fold hn f (x + 1) _ _ q (fun p' hp' => h p' (bit_rm hp'))]
        exact ih _
    exact this _ q
theorem add1 {x : Int32} (h : x.toInt < 2147483647) (h0 : -2147483648 ≤ x.toInt) : (x + nI 1).toInt = x.toInt + 1 := by
  rw [Int32.toInt_add, tI_nI (by omega), bm32 (by omega) (by omega)]
  rfl
/-- with the early end: whether any is lawful -/
theorem skS_any {n : Nat} (hn : n ≤ 7) {r : Bool} {U : List Nat → Bool} {lk : List Nat → Q5T → Q5T} (hlk : ∀ t q, lk t q = if U t = true then q else (q.1 + nI 1, q.2)) : ∀ (f x S : Nat) (t : List Nat) (q : Q5T), (∀ p, S.testBit p = true → p < n) → 0 ≤ q.1.toInt → q.1.toInt + ((8 ^ f : Nat) : Int) < 2147483647 → q.1.toInt ≤ (skS n r true lk f x S t q).1.toInt ∧ (skS n r true lk f x S t q).1.toInt ≤ q.1.toInt + ((7 ^ f : Nat) : Int) ∧ (0 < (skS n r true lk f x S t q).1.toInt ↔ 0 < q.1.toInt ∨ ∃ y, y ∈ lvs r f x S t ∧ U y = false)
  | 0, x, S, t, q, h, h0, h1 => by
    have e : skS n r true lk 0 x S t q = lk t q := rfl
    rw [e, hlk]
    simp only [Nat.pow_zero] at h1 ⊢
    cases hu : U t with
    | true =>
      rw [if_pos rfl]
      refine ⟨Int.le_refl _, by omega, fun z => Or.inl z, fun z => z.elim id (fun ⟨y, hy, hy2⟩ => ?_)⟩
      rw [lvs, List.mem_singleton] at hy
      rw [hy, hu] at hy2
      cases hy2
    | false =>
      rw [if_neg (by decide)]
      have ea := add1 (x := q.1) (by omega) (by omega)
      refine ⟨by simp only [ea]; omega, by simp only [ea]; omega, fun _ => Or.inr ⟨t, by rw [lvs]; exact List.mem_singleton.mpr rfl, hu⟩, fun _ => by simp only [ea]; omega⟩
  | f + 1, x, S, t, q, h, h0, h1 => by
    rw [skS]
    by_cases hc : true = true ∧ 0 < q.1.toInt
    · rw [if_pos hc]
      have h77 : 0 < 7 ^ (f + 1) := Nat.pow_pos (by decide)
      exact ⟨Int.le_refl _, by omega, fun z => Or.inl z, fun _ => hc.2⟩
    · rw [if_neg hc, skL_cand hn h, lvs]
      have hcl : (cand r x S).length ≤ 7 := by
        unfold cand
        split
        · exact Nat.le_trans (List.length_take_le _ _) (by omega)
        · exact Nat.le_trans (List.length_filter_le _ _) (by simp)
      have p8 : 8 ^ (f + 1) = 8 * 8 ^ f := by rw [Nat.pow_succ]; omega
      have p7 : 7 ^ (f + 1) = 7 * 7 ^ f := by rw [Nat.pow_succ]; omega
      have p78 : 7 ^ f ≤ 8 ^ f := Nat.pow_le_pow_left (by decide) f
      have key : ∀ (l : List Nat) (q : Q5T), (∀ p, p ∈ l → p ∈ cand r x S) → 0 ≤ q.1.toInt → q.1.toInt + ((l.length * 7 ^ f + 8 ^ f : Nat) : Int) < 2147483647 → q.1.toInt ≤ (l.foldl (fun q p => skS n r true lk f (x + 1) (S &&& (2 ^ p ^^^ 127)) (t.set x p) q) q).1.toInt ∧ (l.foldl (fun q p => skS n r true lk f (x + 1) (S &&& (2 ^ p ^^^ 127)) (t.set x p) q) q).1.toInt ≤ q.1.toInt + ((l.length * 7 ^ f : Nat) : Int) ∧ (0 < (l.foldl (fun q p => skS n r true lk f (x + 1) (S &&& (2 ^ p ^^^ 127)) (t.set x p) q) q).1.toInt ↔ 0 < q.1.toInt ∨ ∃ y, y ∈ l.flatMap (fun p => lvs r f (x + 1) (S &&& (2 ^ p ^^^ 127)) (t.set x p)) ∧ U y = false) := by
        intro l
        induction l with
        | nil =>
          intro q _ g0 g1
          refine ⟨Int.le_refl _, by simp, fun z => Or.inl z, fun z => z.elim id (fun ⟨y, hy, _⟩ => by cases hy)⟩
        | cons p l ih =>
          intro q hl g0 g1
          rw [List.length_cons, Nat.succ_mul] at g1 ⊢
          rw [List.foldl_cons, List.flatMap_cons]
          obtain ⟨a1, a2, a3⟩ := skS_any (r := r) hn hlk f (x + 1) (S &&& (2 ^ p ^^^ 127)) (t.set x p) q (fun p' hp' => h p' (bit_rm hp')) g0 (by omega)
          obtain ⟨b1, b2, b3⟩ := ih (skS n r true lk f (x + 1) (S &&& (2 ^ p ^^^ 127)) (t.set x p) q) (fun p' hp' => hl p' (List.mem_cons_of_mem _ hp')) (by omega) (by omega)
          refine ⟨by omega, by omega, ?_⟩
          rw [b3, a3]
          constructor
          · rintro ((z | ⟨y, y1, y2⟩) | ⟨y, y1, y2⟩)
            · exact Or.inl z
            · exact Or.inr ⟨y, List.mem_append_left _ y1, y2⟩
            · exact Or.inr ⟨y, List.mem_append_right _ y1, y2⟩
          · rintro (z | ⟨y, y1, y2⟩)
            · exact Or.inl (Or.inl z)
            · rcases List.mem_append.mp y1 with y1 | y1
              · exact Or.inl (Or.inr ⟨y, y1, y2⟩)
              · exact Or.inr ⟨y, y1, y2⟩
      have hm : (cand r x S).length * 7 ^ f ≤ 7 * 7 ^ f := Nat.mul_le_mul_right _ hcl
      obtain ⟨c1, c2, c3⟩ := key (cand r x S) q (fun _ hp => hp) h0 (by omega)
      exact ⟨c1, by omega, c3⟩
/-! the first of most worth -/
def updB (v : List Nat → Int) (o : Option (List Nat)) (y : List Nat) : Option (List Nat) := match o with
  | none => some y
  | some z => if v z < v y then some y else some z
def bstB (v : List Nat → Int) (l : List (List Nat)) : Option (List Nat) := l.foldl (updB v) none
theorem updB_le {v : List Nat → Int} {z : List Nat} : ∀ (l : List (List Nat)), (∀ y, y ∈ l → v y ≤ v z) → l.foldl (updB v) (some z) = some z
  | [], _ => rfl
  | y :: l, h => by
    rw [List.foldl_cons, updB, if_neg (by have := h y List.mem_cons_self; omega)]
    exact updB_le l (fun y' hy' => h y' (List.mem_cons_of_mem _ hy'))
theorem updB_mem {v : List Nat → Int} : ∀ (l : List (List Nat)) (o : Option (List Nat)) {z : List Nat}, l.foldl (updB v) o = some z → o = some z ∨ z ∈ l
  | [], o, z, h => Or.inl h
  | y :: l, o, z, h => by
    rw [List.foldl_cons] at h
    rcases updB_mem l _ h with h2 | h2
    · cases o with
      | none =>
        rw [updB] at h2
        cases h2
        exact Or.inr List.mem_cons_self
      | some w =>
        rw [updB] at h2
        split at h2
        · cases h2; exact Or.inr List.mem_cons_self
        · exact Or.inl h2
    · exact Or.inr (List.mem_cons_of_mem _ h2)
theorem updB_some {v : List Nat → Int} : ∀ (l : List (List Nat)) (z : List Nat), ∃ w, l.foldl (updB v) (some z) = some w
  | [], z => ⟨z, rfl⟩
  | y :: l, z => by
    rw [List.foldl_cons, updB]
    split
    · exact updB_some l y
    · exact updB_some l z
theorem bstB_none {v : List Nat → Int} {l : List (List Nat)} : bstB v l = none ↔ l = [] := by
  cases l with
  | nil => exact ⟨fun _ => rfl, fun _ => rfl⟩
  | cons y l =>
    refine ⟨fun h => ?_, fun h => by cases h⟩
    obtain ⟨w, hw⟩ := updB_some (v := v) l y
    rw [bstB, List.foldl_cons] at h
    have : updB v none y = some y := rfl
    rw [this, hw] at h
    cases h
/-- the order is all that counts, on the leaves at hand -/
theorem updB_cong {v w : List Nat → Int} : ∀ (l : List (List Nat)) (o : Option (List Nat)), (∀ y z, (y ∈ l ∨ o = some y) → (z ∈ l ∨ o = some z) → (v y < v z ↔ w y < w z)) → l.foldl (updB v) o = l.foldl (updB w) o
  | [], o, _ => rfl
  | y :: l, o, h => by
    have e : updB v o y = updB w o y := by
      cases o with
      | none => rfl
      | some z =>
        simp only [updB]
        have := h z y (Or.inr rfl) (Or.inl List.mem_cons_self)
        by_cases c : v z < v y
        · rw [if_pos c, if_pos (this.mp c)]
        · rw [if_neg c, if_neg (fun q => c (this.mpr q))]
    rw [List.foldl_cons, List.foldl_cons, e]
    have sub : ∀ y', (y' ∈ l ∨ updB w o y = some y') → (y' ∈ y :: l ∨ o = some y') := by
      rintro y' (h1 | h1)
      · exact Or.inl (List.mem_cons_of_mem _ h1)
      · cases o with
        | none => cases h1; exact Or.inl List.mem_cons_self
        | some z =>
          simp only [updB] at h1
          split at h1
          · cases h1; exact Or.inl List.mem_cons_self
          · exact Or.inr h1
    exact updB_cong l _ (fun y' z' h1 h2 => h y' z' (sub y' h1) (sub z' h2))
