def cpN (t B : List Nat) (m : Nat) : List Nat := (List.range 7).map (fun i => if i < m then t.getD i 0 else B.getD i 0)
theorem cpN_len (t B : List Nat) (m : Nat) : (cpN t B m).length = 7 := by simp [cpN]
theorem cpN_get {t B : List Nat} {m i : Nat} (hi : i < 7) : (cpN t B m).getD i 0 = if i < m then t.getD i 0 else B.getD i 0 := by
  rw [cpN, List.getD_eq_getElem?_getD, List.getElem?_map, List.getElem?_range hi]
  rfl
theorem cpN_ok {t B : List Nat} {m : Nat} (ht : T7 t) (hB : T7 B) : T7 (cpN t B m) := by
  refine ⟨cpN_len _ _ _, fun i => ?_⟩
  by_cases hi : i < 7
  · rw [cpN_get hi]
    split
    · exact ht.2 i
    · exact hB.2 i
  · rw [List.getD_eq_getElem?_getD, List.getElem?_eq_none (by rw [cpN_len]; omega)]
    decide
theorem zcpy_N {t B : List Nat} {m : Nat} (ht : t.length = 7) (hB : B.length = 7) (hm : m ≤ 7) : zcpy (t.map nI) (B.map nI) 0 0 m = (cpN t B m).map nI := by
  refine List.ext_getElem? (fun j => ?_)
  rw [zcpy, cpN, List.map_map, List.getElem?_map, List.getElem?_map, List.length_map, hB]
  by_cases hj : j < 7
  · rw [List.getElem?_range hj]
    simp only [Option.map_some, Function.comp]
    congr 1
    by_cases h : j < m
    · rw [if_pos h, if_pos ⟨by omega, by omega⟩, Nat.zero_add, Nat.sub_zero, gm_getD]
    · rw [if_neg h, if_neg (by omega), gm_getD]
  · rw [List.getElem?_eq_none (by simp; omega)]
    rfl
/-- a table that was found: what is kept of it -/
def totI (r : Bool) (m : Nat) (t : List Nat) (Wo : List Int32) (sum : Int32) : Int32 := if prS r m = m ∧ 0 < m then sum + Wo.getD (((m - 1) * 7 + t.getD (m - 1) 0) * 7 + t.getD 0 0) 0 else sum
abbrev QS : Type := List Nat × List Nat × Int32 × Int32
def clS (r j : Bool) (m : Nat) (wl : List (Option Nat)) (Wo : List Int32) (sum : Int32) (q : QS) : QS :=
  if 0 < m ∧ (contB r m q.1 wl (m - 1) && contB r m q.1 wl 0) = false then q
  else if j = false then (q.1, q.2.1, q.2.2.1, q.2.2.2 + nI 1)
  else if (q.2.2.2 + nI 1).toInt = 1 ∨ q.2.2.1.toInt < (totI r m q.1 Wo sum).toInt then (q.1, cpN q.1 q.2.1 m, totI r m q.1 Wo sum, q.2.2.2 + nI 1) else (q.1, q.2.1, q.2.2.1, q.2.2.2 + nI 1)
def opS (r : Bool) (A seat taken : Nat) : Nat := if seat = 0 ∧ r = true then A &&& (128 - A) else A &&& (taken ^^^ 127)
/-- the search from a seat on -/
def plS (r j : Bool) (A m : Nat) (wl : List (Option Nat)) (Wo Ho : List Int32) (en : Int32) : Nat → Nat → Nat → Int32 → QS → QS
  | 0, _, _, sum, q => clS r j m wl Wo sum q
  | f + 1, seat, taken, sum, q =>
    if j = true ∧ 0 < q.2.2.2.toInt ∧ (sum + Ho.getD seat 0).toInt ≤ q.2.2.1.toInt then q
    else (List.range 7).foldl (fun q one =>
      if q.2.2.2.toInt < en.toInt ∧ (opS r A seat taken).testBit one = true then
        (if bearB r m (q.1.set seat one) wl seat = true then plS r j A m wl Wo Ho en f (seat + 1) (taken ||| 2 ^ one) (sum + addI j (q.1.set seat one) Wo seat) (q.1.set seat one, q.2) else (q.1.set seat one, q.2))
      else q) q
/-- one more of the loop over those who may sit there -/
def plB (r j : Bool) (A m : Nat) (wl : List (Option Nat)) (Wo Ho : List Int32) (en : Int32) (f seat taken : Nat) (sum : Int32) (q : QS) (one : Nat) : QS :=
  if q.2.2.2.toInt < en.toInt ∧ (opS r A seat taken).testBit one = true then
    (if bearB r m (q.1.set seat one) wl seat = true then plS r j A m wl Wo Ho en f (seat + 1) (taken ||| 2 ^ one) (sum + addI j (q.1.set seat one) Wo seat) (q.1.set seat one, q.2) else (q.1.set seat one, q.2))
  else q
def loopQ {α : Type} (g : α → Nat → α) : Nat → Nat → α → α
  | 0, _, q => q
  | c + 1, k, q => loopQ g c (k + 1) (g q k)
theorem fold7 {α : Type} (g : α → Nat → α) (q : α) : (List.range 7).foldl g q = loopQ g 7 0 q := rfl
def plL (r j : Bool) (A m : Nat) (wl : List (Option Nat)) (Wo Ho : List Int32) (en : Int32) (f seat taken : Nat) (sum : Int32) : Nat → Nat → QS → QS := loopQ (plB r j A m wl Wo Ho en f seat taken sum)
theorem plS_succ (r j : Bool) (A m : Nat) (wl : List (Option Nat)) (Wo Ho : List Int32) (en : Int32) (f seat taken : Nat) (sum : Int32) (q : QS) : plS r j A m wl Wo Ho en (f + 1) seat taken sum q = if j = true ∧ 0 < q.2.2.2.toInt ∧ (sum + Ho.getD seat 0).toInt ≤ q.2.2.1.toInt then q else plL r j A m wl Wo Ho en f seat taken sum 7 0 q := by
  rw [plS, fold7]
  rfl
theorem plL_succ {r j : Bool} {A m : Nat} {wl : List (Option Nat)} {Wo Ho : List Int32} {en : Int32} {f seat taken : Nat} {sum : Int32} (c k : Nat) (q : QS) : plL r j A m wl Wo Ho en f seat taken sum (c + 1) k q = plL r j A m wl Wo Ho en f seat taken sum c (k + 1) (plB r j A m wl Wo Ho en f seat taken sum q k) := rfl
theorem plL_stop {r j : Bool} {A m : Nat} {wl : List (Option Nat)} {Wo Ho : List Int32} {en : Int32} {f seat taken : Nat} {sum : Int32} : ∀ (c k : Nat) (q : QS), ¬ q.2.2.2.toInt < en.toInt → plL r j A m wl Wo Ho en f seat taken sum c k q = q
  | 0, _, _, _ => rfl
  | c + 1, k, q, h => by
    rw [plL_succ, plB, if_neg (fun e => h e.1)]
    exact plL_stop c (k + 1) q h
theorem T7.set {t : List Nat} {s v : Nat} (h : T7 t) (hv : v < 7) : T7 (t.set s v) := by
  refine ⟨by rw [List.length_set]; exact h.1, fun i => ?_⟩
  rw [getD_set]
  split
  · exact hv
  · exact h.2 i
/-- what a search keeps true -/
def Q7 (q : QS) : Prop := T7 q.1 ∧ T7 q.2.1
theorem clS_ok {r j : Bool} {m : Nat} {wl : List (Option Nat)} {Wo : List Int32} {sum : Int32} {q : QS} (h : Q7 q) : Q7 (clS r j m wl Wo sum q) := by
  unfold clS
  repeat' split
  · exact h
  · exact h
  · exact ⟨h.1, cpN_ok h.1 h.2⟩
  · exact h
def SeQ (σ : ZS) (r j : Bool) (A m : Nat) (wl : List (Option Nat)) (Wo Ho : List Int32) (en : Int32) (q : QS) : Prop := Se σ q.2.2.1 (nI A) (nI m) (bI r) (bI j) q.2.2.2 en (q.1.map nI) (wl.map oI) (q.2.1.map nI) Wo Ho
theorem lowA : ∀ A, A < 128 → nI A &&& -(nI A) = nI (A &&& (128 - A)) := by decide +kernel
theorem tb127 {i : Nat} (h : i < 7) : Nat.testBit 127 i = true := by
  have e : ∀ i, i < 7 → Nat.testBit 127 i = true := by decide
  exact e i h
theorem andA {A T : Nat} (hA : A < 128) (hT : T < 128) : nI A &&& (nI T ^^^ (-1)) = nI (A &&& (T ^^^ 127)) := by
  apply Int32.toBitVec_inj.1
  show BitVec.ofNat 32 A &&& (BitVec.ofNat 32 T ^^^ BitVec.allOnes 32) = BitVec.ofNat 32 (A &&& (T ^^^ 127))
  apply BitVec.eq_of_getLsbD_eq
  intro i hi
  simp only [BitVec.getLsbD_and, BitVec.getLsbD_xor, BitVec.getLsbD_ofNat, BitVec.getLsbD_allOnes, hi, decide_true, Bool.true_and, Nat.testBit_and, Nat.testBit_xor]
  by_cases h7 : i < 7
  · rw [tb127 h7]
  · rw [Nat.testBit_lt_two_pow (Nat.lt_of_lt_of_le hA (Nat.pow_le_pow_right (n := 2) (i := 7) (by decide) (by omega)))]
    rfl
theorem or128 {T k : Nat} (hT : T < 128) (hk : k < 7) : T ||| 2 ^ k < 128 := Nat.or_lt_two_pow (n := 7) hT (Nat.pow_lt_pow_right (by decide) hk)
theorem op128 {r : Bool} {A seat taken : Nat} (hA : A < 128) : opS r A seat taken < 128 := by
  unfold opS
  split <;> exact Nat.lt_of_le_of_lt Nat.and_le_left hA
