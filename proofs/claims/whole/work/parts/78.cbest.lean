/-! the class's search for the best, against the leaves -/
def psum (P : Nat → Int) : Nat → Int
  | 0 => 0
  | k + 1 => psum P k + P k
theorem psum_cong {P P' : Nat → Int} : ∀ {k : Nat}, (∀ s, s < k → P s = P' s) → psum P k = psum P' k
  | 0, _ => rfl
  | k + 1, h => by rw [psum, psum, psum_cong (fun s hs => h s (by omega)), h k (by omega)]
theorem psum_b {P : Nat → Int} : ∀ {k : Nat}, (∀ s, s < k → -2000 ≤ P s ∧ P s ≤ 2000) → -(2000 * (k : Int)) ≤ psum P k ∧ psum P k ≤ 2000 * (k : Int)
  | 0, _ => by simp [psum]
  | k + 1, h => by
    have h1 := psum_b (k := k) (fun s hs => h s (by omega))
    have h2 := h k (by omega)
    rw [psum]
    omega
/-- what a pair on a seat adds to a table -/
def prI (v : Nat → Nat → Nat → Int32) (m : Nat) (t : List Nat) (s : Nat) : Int := (v s (t.getD s 0) (t.getD (nxS m s) 0)).toInt
def totB (v : Nat → Nat → Nat → Int32) (r : Bool) (m : Nat) (t : List Nat) : Int := psum (prI v m t) (prS r m)
theorem prI_eqm {v : Nat → Nat → Nat → Int32} {m s x : Nat} {t t' : List Nat} (h : EqM x t t') (hx : x ≤ m) (hs : s + 1 < x) : prI v m t s = prI v m t' s := by
  unfold prI
  rw [nxS_in (show s + 1 < m by omega), h s (by omega), h (s + 1) hs]
theorem prI_all {v : Nat → Nat → Nat → Int32} {m s : Nat} {t t' : List Nat} (h : EqM m t t') (hs : s < m) : prI v m t s = prI v m t' s := by
  unfold prI
  rw [h s hs, h _ (nxS_lt hs)]
theorem totB_eqm {v : Nat → Nat → Nat → Int32} {r : Bool} {m : Nat} {t t' : List Nat} (h : EqM m t t') : totB v r m t = totB v r m t' := psum_cong (fun s hs => prI_all h (by have := prS_le (r := r) (m := m); omega))
/-- what the class knows before it seeks the best -/
def Wgh (v : Nat → Nat → Nat → Int32) (n : Nat) (r : Bool) (m : Nat) (Wo Ho : List Int32) : Prop :=
  (∀ s a b, s < prS r m → a < n → b < n → a ≠ b → -2000 ≤ (v s a b).toInt ∧ (v s a b).toInt ≤ 2000) ∧ (∀ s a b, s < prS r m → a < n → b < n → a ≠ b → Wo.getD ((s * 7 + a) * 7 + b) 0 = v s a b) ∧ (Ho.getD (prS r m + 1) 0).toInt = 0 ∧ Ho.getD 0 0 = Ho.getD 1 0 ∧ (∀ s, s < prS r m → ∃ mo : Int, (Ho.getD (s + 1) 0).toInt = (Ho.getD (s + 2) 0).toInt + mo ∧ -2000 ≤ mo ∧ mo ≤ 2000 ∧ ∀ a b, a < n → b < n → a ≠ b → (v s a b).toInt ≤ mo)
theorem Wgh.mk {v : Nat → Nat → Nat → Int32} {n : Nat} {r : Bool} {m : Nat} {Wo Ho : List Int32} (hm : m ≤ 7) (hn2 : 0 < prS r m → 2 ≤ n) (hv : ∀ s a b, s < prS r m → a < n → b < n → a ≠ b → -2000 ≤ (v s a b).toInt ∧ (v s a b).toInt ≤ 2000) (hW : WK v n (prS r m) Wo 0) (hH : HK v n (prS r m) Ho 0) (h01 : Ho.getD 0 0 = Ho.getD 1 0) : Wgh v n r m Wo Ho := by
  have hp := prS_le (r := r) (m := m)
  have hz : (Ho.getD (prS r m + 1) 0).toInt = 0 := by rw [hH.1 _ (by omega) (by omega)]; rfl
  -- from the last pair back
  have key : ∀ (q s : Nat), s + q = prS r m → (-(2000 * (q : Int)) ≤ (Ho.getD (s + 1) 0).toInt ∧ (Ho.getD (s + 1) 0).toInt ≤ 2000 * (q : Int)) ∧ (0 < q → ∃ mo : Int, (Ho.getD (s + 1) 0).toInt = (Ho.getD (s + 2) 0).toInt + mo ∧ -2000 ≤ mo ∧ mo ≤ 2000 ∧ ∀ a b, a < n → b < n → a ≠ b → (v s a b).toInt ≤ mo) := by
    intro q
    induction q with
    | zero =>
      intro s hs
      rw [show s = prS r m by omega, hz]
      exact ⟨by omega, fun h => absurd h (by omega)⟩
    | succ q ih =>
      intro s hs
      obtain ⟨b1, -⟩ := ih (s + 1) (by omega)
      rw [show s + 1 + 1 = s + 2 by omega] at b1
      obtain ⟨mo, e1, e2, e3⟩ := hH.2 s (Nat.zero_le _) (by omega)
      have hmo : -2000 ≤ mo.toInt ∧ mo.toInt ≤ 2000 := by
        rcases e3 with e3 | ⟨a, b, ha, hb, hab, e3⟩
        · exfalso
          have h2 := hn2 (by omega)
          have := e2 0 1 (by omega) (by omega) (by omega) (Or.inl (by omega))
          have h3 := hv s 0 1 (by omega) (by omega) (by omega) (by omega)
          rw [e3] at this
          have e9 : (-2147483648 : Int32).toInt = -2147483648 := by decide
          omega
        · rw [e3]; exact hv s a b (by omega) ha hb hab
      have e4 : (Ho.getD (s + 1) 0).toInt = (Ho.getD (s + 2) 0).toInt + mo.toInt := by
        rw [e1, Int32.toInt_add, bm32 (by omega) (by omega)]
      refine ⟨by omega, fun _ => ⟨mo.toInt, e4, hmo.1, hmo.2, fun a b ha hb hab => e2 a b ha hb hab (Or.inl ha)⟩⟩
  exact ⟨hv, fun s a b hs ha hb hab => hW s a b (Nat.zero_le _) hs ha hb hab, hz, h01, fun s hs => (key (prS r m - s) s (by omega)).2 (by omega)⟩
section Best
variable {v : Nat → Nat → Nat → Int32} {n : Nat} {r : Bool} {A m : Nat} {wl : List (Option Nat)} {Wo Ho : List Int32} {en : Int32}
theorem Dis.pr {k s : Nat} {t : List Nat} (h : Dis n k t) (hk : k ≤ m) (hs : s + 1 < k) : t.getD s 0 < n ∧ t.getD (nxS m s) 0 < n ∧ t.getD s 0 ≠ t.getD (nxS m s) 0 := by
  rw [nxS_in (show s + 1 < m by omega)]
  exact ⟨h.1 s (by omega), h.1 (s + 1) hs, h.2 s (s + 1) (by omega) hs⟩
theorem Dis.prAll {s : Nat} {t : List Nat} (h : Dis n m t) (hs : s < prS r m) : t.getD s 0 < n ∧ t.getD (nxS m s) 0 < n ∧ t.getD s 0 ≠ t.getD (nxS m s) 0 := by
  by_cases e : s + 1 < m
  · exact h.pr (Nat.le_refl _) e
  · have hm : 3 ≤ m ∧ s = m - 1 := by
      unfold prS at hs
      split at hs
      · rename_i hc; omega
      · omega
    rw [nxS_last e]
    exact ⟨h.1 s (by omega), h.1 0 (by omega), fun q => h.2 0 s (by omega) (by omega) q.symm⟩
/-- hope is enough: with x seats taken, no table on from there is worth more -/
theorem hope_ge (hW : Wgh v n r m Wo Ho) {y : List Nat} (hd : Dis n m y) : ∀ (q j : Nat), j + q = prS r m → totB v r m y ≤ psum (prI v m y) j + (Ho.getD (j + 1) 0).toInt := by
  intro q
  induction q with
  | zero =>
    intro j hj
    rw [show j = prS r m by omega, hW.2.2.1, totB]
    omega
  | succ q ih =>
    intro j hj
    have h1 := ih (j + 1) (by omega)
    obtain ⟨mo, e1, e2, e3, e4⟩ := hW.2.2.2.2 j (by omega)
    have h2 := hd.prAll (r := r) (s := j) (by omega)
    have h3 := e4 _ _ h2.1 h2.2.1 h2.2.2
    have h4 : prI v m y j ≤ mo := h3
    rw [psum] at h1
    rw [show j + 1 + 1 = j + 2 by omega] at h1
    omega
theorem hope_b (hW : Wgh v n r m Wo Ho) (hm : m ≤ 7) : ∀ (q j : Nat), j + q = prS r m → -(2000 * (q : Int)) ≤ (Ho.getD (j + 1) 0).toInt ∧ (Ho.getD (j + 1) 0).toInt ≤ 2000 * (q : Int) := by
  intro q
  induction q with
  | zero => intro j hj; rw [show j = prS r m by omega, hW.2.2.1]; omega
  | succ q ih =>
    intro j hj
    have h1 := ih (j + 1) (by omega)
    obtain ⟨mo, e1, e2, e3, e4⟩ := hW.2.2.2.2 j (by omega)
    rw [show j + 1 + 1 = j + 2 by omega] at h1
    omega
def RelB (v : Nat → Nat → Nat → Int32) (r : Bool) (m : Nat) (q : QS) (o : Option (List Nat)) : Prop := match o with
  | none => q.2.2.2.toInt = 0
  | some y => 0 < q.2.2.2.toInt ∧ q.2.2.1.toInt = totB v r m y ∧ EqM m q.2.1 y
theorem RelB.t {q : QS} {o : Option (List Nat)} {t : List Nat} (h : RelB v r m q o) : RelB v r m (t, q.2) o := by
  cases o with
  | none => exact h
  | some y => exact h
theorem lawL_app {u : List Nat → Bool} {l l' : List (List Nat)} : (l ++ l').filter (fun y => !u y) = l.filter (fun y => !u y) ++ l'.filter (fun y => !u y) := List.filter_append _ _
theorem lawL_0 {u : List Nat → Bool} {l : List (List Nat)} (h : ∀ y, y ∈ l → u y = true) : l.filter (fun y => !u y) = [] := by
  rw [List.filter_eq_nil_iff]
  intro y hy
  rw [h y hy]
  decide
theorem plS_best (hA : A < 128) (hm7 : m ≤ 7) (hW : Wgh v n r m Wo Ho) (hen : en.toInt = 2147483647) : ∀ (f seat taken : Nat) (sum : Int32) (q : QS) (t : List Nat) (o : Option (List Nat)), seat + f = m → (seat = 0 → taken = 0) → q.1.length = 7 → popc (A &&& (taken ^^^ 127)) = f → (∃ A', Pl n A' seat (A &&& (taken ^^^ 127)) t) → EqM seat q.1 t → OkP r m wl seat t → 0 ≤ q.2.2.2.toInt → q.2.2.2.toInt + ((8 ^ f : Nat) : Int) < 2147483647 → sum.toInt = psum (prI v m t) (seat - 1) → RelB v r m q o → (plS r true A m wl Wo Ho en f seat taken sum q).1.length = 7 ∧ EqM seat (plS r true A m wl Wo Ho en f seat taken sum q).1 t ∧ q.2.2.2.toInt ≤ (plS r true A m wl Wo Ho en f seat taken sum q).2.2.2.toInt ∧ (plS r true A m wl Wo Ho en f seat taken sum q).2.2.2.toInt ≤ q.2.2.2.toInt + ((7 ^ f : Nat) : Int) ∧ RelB v r m (plS r true A m wl Wo Ho en f seat taken sum q) (((lvs r f seat (A &&& (taken ^^^ 127)) t).filter (fun y => !uC r m wl y)).foldl (updB (totB v r m)) o)
  | 0, seat, taken, sum, q, t, o, h1, h2, h3, h4, ⟨A', h5⟩, h6, h7, h8, h9, hsum, hrel => by
    obtain rfl : seat = m := by omega
    have hl := leaf_law h6 h7
    simp only [Nat.pow_zero] at h9 ⊢
    rw [plS, clS, lvs]
    by_cases c : 0 < seat ∧ (contB r seat q.1 wl (seat - 1) && contB r seat q.1 wl 0) = false
    · rw [if_pos c]
      have hu : uC r seat wl t = true := by
        cases hu : uC r seat wl t with
        | true => rfl
        | false => exact absurd c (hl.mpr hu)
      rw [List.filter_cons_of_neg (by rw [hu]; decide)]
      exact ⟨h3, h6, Int.le_refl _, by omega, hrel⟩
    · rw [if_neg c, if_neg (by decide), List.filter_cons_of_pos (by rw [hl.mp c]; rfl)]
      have ea : (q.2.2.2 + nI 1).toInt = q.2.2.2.toInt + 1 := add1 (by omega) (by omega)
      have hdis := h5.2.2.2.1
      have hb : -(2000 * ((seat - 1 : Nat) : Int)) ≤ psum (prI v seat t) (seat - 1) ∧ psum (prI v seat t) (seat - 1) ≤ 2000 * ((seat - 1 : Nat) : Int) := psum_b (fun s hs => by
        have h := hdis.pr (Nat.le_refl _) (show s + 1 < seat by omega)
        exact hW.1 s _ _ (by unfold prS; split <;> omega) h.1 h.2.1 h.2.2)
      have htot : (totI r seat q.1 Wo sum).toInt = totB v r seat t := by
        unfold totI totB
        by_cases cp : prS r seat = seat ∧ 0 < seat
        · have h := hdis.prAll (r := r) (s := seat - 1) (by omega)
          have hn0 : nxS seat (seat - 1) = 0 := nxS_last (by omega)
          rw [hn0] at h
          have hv := hW.1 (seat - 1) _ _ (by omega) h.1 h.2.1 h.2.2
          rw [if_pos cp, h6 _ (by omega), h6 _ (by omega), hW.2.1 (seat - 1) _ _ (by omega) h.1 h.2.1 h.2.2, Int32.toInt_add, hsum, bm32 (by omega) (by omega), cp.1]
          have e9 : psum (prI v seat t) seat = psum (prI v seat t) (seat - 1) + prI v seat t (seat - 1) := by
            have : seat = (seat - 1) + 1 := by omega
            rw [show psum (prI v seat t) seat = psum (prI v seat t) ((seat - 1) + 1) by rw [← this]]
            rfl
          rw [e9, prI, hn0]
        · rw [if_neg cp, hsum]
          congr 1
          unfold prS at cp ⊢
          split
          · rename_i hc; rw [if_pos hc] at cp; omega
          · rfl
      cases o with
      | none =>
        have h0 : q.2.2.2.toInt = 0 := hrel
        rw [if_pos (Or.inl (by rw [ea, h0]; rfl))]
        refine ⟨h3, h6, by simp only [ea]; omega, by simp only [ea]; omega, ?_⟩
        refine ⟨by simp only [ea]; omega, htot, fun i hi => ?_⟩
        simp only
        rw [cpN_get (by omega), if_pos hi]
        exact h6 i hi
      | some z =>
        obtain ⟨z1, z2, z3⟩ := hrel
        simp only [List.filter_nil, List.foldl_cons, List.foldl_nil, updB]
        by_cases cb : (q.2.2.2 + nI 1).toInt = 1 ∨ q.2.2.1.toInt < (totI r seat q.1 Wo sum).toInt
        · have hlt : totB v r seat z < totB v r seat t := by
            rcases cb with cb | cb
            · rw [ea] at cb; omega
            · rw [htot, z2] at cb; exact cb
          rw [if_pos cb, if_pos hlt]
          refine ⟨h3, h6, by simp only [ea]; omega, by simp only [ea]; omega, ?_⟩
          refine ⟨by simp only [ea]; omega, htot, fun i hi => ?_⟩
          simp only
          rw [cpN_get (by omega), if_pos hi]
          exact h6 i hi
        · have hlt : ¬ totB v r seat z < totB v r seat t := fun hx => cb (Or.inr (by rw [htot, z2]; exact hx))
          rw [if_neg cb, if_neg hlt]
          exact ⟨h3, h6, by simp only [ea]; omega, by simp only [ea]; omega, by simp only [ea]; omega, z2, z3⟩
  | f + 1, seat, taken, sum, q, t, o, h1, h2, h3, h4, ⟨A', h5⟩, h6, h7, h8, h9, hsum, hrel => by
    have hdis := h5.2.2.2.1
    have ht7 : t.length = 7 := h5.1
    have hprs : seat - 1 ≤ prS r m := by unfold prS; split <;> omega
    have hb : -(2000 * ((seat - 1 : Nat) : Int)) ≤ psum (prI v m t) (seat - 1) ∧ psum (prI v m t) (seat - 1) ≤ 2000 * ((seat - 1 : Nat) : Int) := psum_b (fun s hs => by
      have h := hdis.pr (m := m) (by omega) (show s + 1 < seat by omega)
      exact hW.1 s _ _ (by omega) h.1 h.2.1 h.2.2)
    have hho : Ho.getD seat 0 = Ho.getD (seat - 1 + 1) 0 := by
      by_cases e : seat = 0
      · rw [e]; exact hW.2.2.2.1
      · rw [show seat - 1 + 1 = seat by omega]
    have hhb := hope_b hW hm7 (prS r m - (seat - 1)) (seat - 1) (by omega)
    have hpm := prS_le (r := r) (m := m)
    have hse : (sum + Ho.getD seat 0).toInt = psum (prI v m t) (seat - 1) + (Ho.getD (seat - 1 + 1) 0).toInt := by
      rw [hho, Int32.toInt_add, hsum, bm32 (by omega) (by omega)]
    have p8 : 8 ^ (f + 1) = 8 * 8 ^ f := by rw [Nat.pow_succ]; omega
    have p7 : 7 ^ (f + 1) = 7 * 7 ^ f := by rw [Nat.pow_succ]; omega
    have p78 : 7 ^ f ≤ 8 ^ f := Nat.pow_le_pow_left (by decide) f
    have p70 : 0 < 7 ^ f := Nat.pow_pos (by decide)
    rw [plS_cand hA h2]
    by_cases cc : true = true ∧ 0 < q.2.2.2.toInt ∧ (sum + Ho.getD seat 0).toInt ≤ q.2.2.1.toInt
    · rw [if_pos cc]
      refine ⟨h3, h6, Int.le_refl _, by omega, ?_⟩
      cases o with
      | none => have : q.2.2.2.toInt = 0 := hrel; omega
      | some z =>
        obtain ⟨z1, z2, z3⟩ := id hrel
        rw [updB_le]
        · exact hrel
        · intro y hy
          have hym := (List.mem_filter.mp hy).1
          obtain ⟨y1, y2, y3, -⟩ := lvs_ok (r := r) (f + 1) seat _ _ (by omega) h4 h5 y hym
          rw [h1] at y3
          have hg := hope_ge hW y3 (prS r m - (seat - 1)) (seat - 1) (by omega)
          have e : psum (prI v m y) (seat - 1) = psum (prI v m t) (seat - 1) := psum_cong (fun s hs => prI_eqm y1 (by omega) (by omega))
          rw [e, ← hse] at hg
          omega
    · rw [if_neg cc, lvs]
      have hcl : (cand r seat (A &&& (taken ^^^ 127))).length ≤ 7 := by
        unfold cand
        split
        · exact Nat.le_trans (List.length_take_le _ _) (by omega)
        · exact Nat.le_trans (List.length_filter_le _ _) (by simp)
      have key : ∀ (l : List Nat) (q : QS) (o : Option (List Nat)), (∀ p, p ∈ l → p ∈ cand r seat (A &&& (taken ^^^ 127))) → q.1.length = 7 → EqM seat q.1 t → 0 ≤ q.2.2.2.toInt → q.2.2.2.toInt + ((l.length * 7 ^ f + 8 ^ f : Nat) : Int) < 2147483647 → RelB v r m q o → (l.foldl (plC r true A m wl Wo Ho en f seat taken sum) q).1.length = 7 ∧ EqM seat (l.foldl (plC r true A m wl Wo Ho en f seat taken sum) q).1 t ∧ q.2.2.2.toInt ≤ (l.foldl (plC r true A m wl Wo Ho en f seat taken sum) q).2.2.2.toInt ∧ (l.foldl (plC r true A m wl Wo Ho en f seat taken sum) q).2.2.2.toInt ≤ q.2.2.2.toInt + ((l.length * 7 ^ f : Nat) : Int) ∧ RelB v r m (l.foldl (plC r true A m wl Wo Ho en f seat taken sum) q) (((l.flatMap (fun p => lvs r f (seat + 1) ((A &&& (taken ^^^ 127)) &&& (2 ^ p ^^^ 127)) (t.set seat p))).filter (fun y => !uC r m wl y)).foldl (updB (totB v r m)) o) := by
        intro l
        induction l with
        | nil =>
          intro q o _ g1 g2 g3 g4 g5
          exact ⟨g1, g2, Int.le_refl _, by simp, g5⟩
        | cons p l ih =>
          intro q o hl g1 g2 g3 g4 g5
          rw [List.length_cons, Nat.succ_mul] at g4 ⊢
          obtain ⟨hp7, hbb⟩ := cand_mem (hl p List.mem_cons_self)
          have hl2 : ∀ p', p' ∈ l → p' ∈ cand r seat (A &&& (taken ^^^ 127)) := fun p' hp' => hl p' (List.mem_cons_of_mem _ hp')
          have gs : EqM (seat + 1) (q.1.set seat p) (t.set seat p) := g2.set (by omega) (by omega)
          have hpl := h5.step (show seat < 7 by omega) hp7 hbb
          have hpc : popc ((A &&& (taken ^^^ 127)) &&& (2 ^ p ^^^ 127)) = f := by have := popc_rm _ h5.2.1 p hp7 hbb; omega
          have lok := fun y hy => lvs_ok (r := r) f (seat + 1) _ _ (by omega) hpc hpl y hy
          rw [List.foldl_cons, List.flatMap_cons, lawL_app, List.foldl_append]
          have c1 : q.2.2.2.toInt < en.toInt := by rw [hen]; omega
          by_cases c2 : bearB r m (q.1.set seat p) wl seat = true
          · have e : plC r true A m wl Wo Ho en f seat taken sum q p = plS r true A m wl Wo Ho en f (seat + 1) (taken ||| 2 ^ p) (sum + addI true (q.1.set seat p) Wo seat) (q.1.set seat p, q.2) := by rw [plC, if_pos c1, if_pos c2]
            rw [e]
            have hsum2 : (sum + addI true (q.1.set seat p) Wo seat).toInt = psum (prI v m (t.set seat p)) (seat + 1 - 1) := by
              unfold addI
              by_cases e0 : 0 < seat
              · rw [if_pos ⟨rfl, e0⟩, gs _ (by omega), gs _ (by omega)]
                have h := hpl.2.2.2.1.pr (m := m) (by omega) (show (seat - 1) + 1 < seat + 1 by omega)
                rw [nxS_in (show (seat - 1) + 1 < m by omega), show seat - 1 + 1 = seat by omega] at h
                have hv := hW.1 (seat - 1) _ _ (by unfold prS; split <;> omega) h.1 h.2.1 h.2.2
                rw [hW.2.1 (seat - 1) _ _ (by unfold prS; split <;> omega) h.1 h.2.1 h.2.2, Int32.toInt_add, hsum, bm32 (by omega) (by omega)]
                have e1 : psum (prI v m (t.set seat p)) (seat + 1 - 1) = psum (prI v m (t.set seat p)) (seat - 1) + prI v m (t.set seat p) (seat - 1) := by
                  rw [show seat + 1 - 1 = (seat - 1) + 1 by omega]; rfl
                rw [e1, psum_cong (P := prI v m (t.set seat p)) (P' := prI v m t) (fun s hs => prI_eqm (x := seat) EqM.setl (by omega) (by omega)), prI, nxS_in (show (seat - 1) + 1 < m by omega), show seat - 1 + 1 = seat by omega]
              · rw [if_neg (fun z => e0 z.2), show seat + 1 - 1 = 0 by omega, Int32.toInt_add, hsum, show seat - 1 = 0 by omega]
                show ((0 : Int) + (nI 0).toInt).bmod (2 ^ 32) = 0
                decide
            have hx := plS_best hA hm7 hW hen f (seat + 1) (taken ||| 2 ^ p) (sum + addI true (q.1.set seat p) Wo seat) (q.1.set seat p, q.2) (t.set seat p) o (by omega) (by omega) (by rw [List.length_set]; exact g1) (by rw [childS hA]; exact hpc) ⟨A', by rw [childS hA]; exact hpl⟩ gs (h7.step (by omega) (by omega) (by rw [← bear_eq (by omega) gs]; exact c2)) g3 (by simp only; omega) hsum2 g5.t
            rw [childS hA] at hx
            obtain ⟨x1, x2, x3, x4, x5⟩ := hx
            simp only at x3 x4
            have x6 : EqM seat (plS r true A m wl Wo Ho en f (seat + 1) (taken ||| 2 ^ p) (sum + addI true (q.1.set seat p) Wo seat) (q.1.set seat p, q.2)).1 t := (x2.le (Nat.le_succ _)).tr EqM.setl
            obtain ⟨y1, y2, y3, y4, y5⟩ := ih _ _ hl2 x1 x6 (by omega) (by omega) x5
            exact ⟨y1, y2, by omega, by omega, y5⟩
          · have e : plC r true A m wl Wo Ho en f seat taken sum q p = (q.1.set seat p, q.2) := by rw [plC, if_pos c1, if_neg c2]
            rw [e, lawL_0 (fun y hy => bear_not (p := p) (by omega) gs (lok y hy).1 c2)]
            obtain ⟨y1, y2, y3, y4, y5⟩ := ih (q.1.set seat p, q.2) o hl2 (by rw [List.length_set]; exact g1) (EqM.setl.tr g2) g3 (by simp only; omega) g5.t
            simp only at y3 y4
            exact ⟨y1, y2, y3, by omega, y5⟩
      have hmul : (cand r seat (A &&& (taken ^^^ 127))).length * 7 ^ f ≤ 7 * 7 ^ f := Nat.mul_le_mul_right _ hcl
      obtain ⟨z1, z2, z3, z4, z5⟩ := key _ q o (fun _ h => h) h3 h6 h8 (by omega) hrel
      exact ⟨z1, z2, z3, by omega, z5⟩
end Best
