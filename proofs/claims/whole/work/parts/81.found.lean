/-! what the reference has found, by the tables of a company -/
theorem foldl_cg {α β : Type} {f g : β → α → β} : ∀ (l : List α) (a : β), (∀ y, y ∈ l → ∀ a, f a y = g a y) → l.foldl f a = l.foldl g a
  | [], _, _ => rfl
  | y :: l, a, h => by
    rw [List.foldl_cons, List.foldl_cons, h y List.mem_cons_self]
    exact foldl_cg l _ (fun z hz => h z (List.mem_cons_of_mem _ hz))
def FndQ (r : Bool) (m n : Nat) (D : List Nat) (v0 v1 : Nat → Nat → Nat → Int32) (LL : List (List Nat)) (wo : Bool) (q : Q5T) : Prop :=
  q.1.toInt = ((LL.length : Nat) : Int) ∧ (match bstB (totB v0 r m) LL with
  | none => q.2.1 = nI 0 ∧ q.2.2.1 = nI 0
  | some y => q.2.1 = nI (dgS y m) ∧ q.2.2.1.toInt = totB v0 r m y) ∧ (wo = true → match bstB (totB v1 r m) LL with
  | none => q.2.2.2.1 = nI 0 ∧ q.2.2.2.2 = -1
  | some y => q.2.2.2.1 = nI (dgS y m) ∧ q.2.2.2.2.toInt = ((allS D n n : Nat) : Int) - totB v1 r m y)
theorem RI5.cong {J : List Nat → Int32} {G O : List Nat → Nat} {wo : Bool} {q : Q5T} {k k' : Nat} {o1 o2 o1' o2' : Option (List Nat)} (h : RI5 J G O wo q k o1 o2) (hk : k = k') (h1 : o1 = o1') (h2 : o2 = o2') : RI5 J G O wo q k' o1' o2' := by
  subst hk h1 h2
  exact h
theorem ref_best {rr n : Nat} {K N : List Nat} {W : List Int32} {D : List Nat} {fr : Int32} {S : List Nat} {lf jf A : Nat} {wo : Bool} (hr : rr ≤ 1) (hn : n ≤ 7) (hA : A < 128) (hb : ∀ p, A.testBit p = true → p < n) (hN : ∀ k, N.getD k 0 ≤ 9) (hD : D49 D) (hg : Dg D) : FndQ (decide (rr = 1)) (popc A) n D (vW false S lf jf K N W D (popc A)) (vW true S lf jf K N W D (popc A)) (lwf (decide (rr = 1)) A (wlS K N D n A fr)) wo (skS n (decide (rr = 1)) false (fun (t : List Nat) (q : Q5T) => lkV (ffrom (fun s => !rfB rr (popc A) t (wlS K N D n (setS t (popc A)) fr) s) (popc A) 0).isSome (allJ (fun x y => gdI S jf K N W D (t.getD x 0) (t.getD y 0) x (popc A)) (bsB rr (popc A)) (popc A) (popc A)) (dgS t (popc A)) (allS (hdD S lf jf K N W t (popc A) (prS (decide (rr = 1)) (popc A)) D) n n) false wo q) (popc A) 0 A t0S q0S) := by
  have h7 := popc_le A hA
  rw [skS_fold hn _ _ _ _ _ hb]
  have hO : ∀ y, allS (hdD S lf jf K N W y (popc A) (prS (decide (rr = 1)) (popc A)) D) n n < 1000000000 := fun y => by
    have := allS_le (hdD_ok (S := S) (lf := lf) (jf := jf) (K := K) (N := N) (W := W) (t := y) (m := popc A) hD (prS (decide (rr = 1)) (popc A))).2 hn n
    omega
  have e1 : (lvs (decide (rr = 1)) (popc A) 0 A t0S).foldl (fun q t =>  lkV (ffrom (fun s => !rfB rr (popc A) t (wlS K N D n (setS t (popc A)) fr) s) (popc A) 0).isSome (allJ (fun x y => gdI S jf K N W D (t.getD x 0) (t.getD y 0) x (popc A)) (bsB rr (popc A)) (popc A) (popc A)) (dgS t (popc A)) (allS (hdD S lf jf K N W t (popc A) (prS (decide (rr = 1)) (popc A)) D) n n) false wo q) q0S = (tbs (decide (rr = 1)) A).foldl (fun q t => lkV (uC (decide (rr = 1)) (popc A) (wlS K N D n A fr) t) (allJ (fun x y => gdI S jf K N W D (t.getD x 0) (t.getD y 0) x (popc A)) (bsB rr (popc A)) (popc A) (popc A)) (dgS t (popc A)) (allS (hdD S lf jf K N W t (popc A) (prS (decide (rr = 1)) (popc A)) D) n n) false wo q) q0S :=
    foldl_cg _ _ (fun y hy q => by simp only [unl_eq (m := popc A) (K := K) (N := N) (n := n) (fr := fr) hr hg (tbs_ok (n := n) hA hb hy).2.2]; rfl)
  have hlen := tbs_len (r := (decide (rr = 1))) hA
  have ej : (fun y : List Nat => (allJ (fun x z => gdI S jf K N W D (y.getD x 0) (y.getD z 0) x (popc A)) (bsB rr (popc A)) (popc A) (popc A)).toInt) = totB (vW false S lf jf K N W D (popc A)) (decide (rr = 1)) (popc A) := by
    funext y
    exact joy_tot hr h7 hN
  have hL : ∀ y, y ∈ (tbs (decide (rr = 1)) A).filter (fun y => !uC (decide (rr = 1)) (popc A) (wlS K N D n A fr) y) → ((allS (hdD S lf jf K N W y (popc A) (prS (decide (rr = 1)) (popc A)) D) n n : Nat) : Int) = (allS D n n : Nat) - totB (vW true S lf jf K N W D (popc A)) (decide (rr = 1)) (popc A) y := fun y hy => hd_tot hn hD (tbs_ok (n := n) hA hb (List.mem_filter.mp hy).1).2.1
  have eo : ((tbs (decide (rr = 1)) A).filter (fun y => !uC (decide (rr = 1)) (popc A) (wlS K N D n A fr) y)).foldl (updB (fun y => -((allS (hdD S lf jf K N W y (popc A) (prS (decide (rr = 1)) (popc A)) D) n n : Nat) : Int))) none = bstB (totB (vW true S lf jf K N W D (popc A)) (decide (rr = 1)) (popc A)) (lwf (decide (rr = 1)) A (wlS K N D n A fr)) := by
    refine updB_cong _ _ (fun y z hy hz => ?_)
    have h1 := hL y (hy.elim id (fun q => by cases q))
    have h2 := hL z (hz.elim id (fun q => by cases q))
    omega
  obtain ⟨f1, f2, f3⟩ := (ref_fold (U := uC (decide (rr = 1)) (popc A) (wlS K N D n A fr)) (J := fun t => allJ (fun x y => gdI S jf K N W D (t.getD x 0) (t.getD y 0) x (popc A)) (bsB rr (popc A)) (popc A) (popc A)) (G := fun t => dgS t (popc A)) (O := fun t => allS (hdD S lf jf K N W t (popc A) (prS (decide (rr = 1)) (popc A)) D) n n) (wo := wo) hO (tbs (decide (rr = 1)) A) q0S 0 none none ⟨by decide, ⟨rfl, rfl, rfl⟩, fun _ => ⟨rfl, rfl, rfl⟩⟩ (by omega)).cong (k' := ((lwf (decide (rr = 1)) A (wlS K N D n A fr)).length)) (Nat.zero_add _) (congrArg (fun v => bstB v (lwf (decide (rr = 1)) A (wlS K N D n A fr))) ej) eo
  have e2 : (lvs (decide (rr = 1)) (popc A) 0 A t0S).foldl (fun q t => (fun (t : List Nat) (q : Q5T) => lkV (ffrom (fun s => !rfB rr (popc A) t (wlS K N D n (setS t (popc A)) fr) s) (popc A) 0).isSome (allJ (fun x y => gdI S jf K N W D (t.getD x 0) (t.getD y 0) x (popc A)) (bsB rr (popc A)) (popc A) (popc A)) (dgS t (popc A)) (allS (hdD S lf jf K N W t (popc A) (prS (decide (rr = 1)) (popc A)) D) n n) false wo q) t q) q0S = (tbs (decide (rr = 1)) A).foldl (fun q t => lkV (uC (decide (rr = 1)) (popc A) (wlS K N D n A fr) t) (allJ (fun x y => gdI S jf K N W D (t.getD x 0) (t.getD y 0) x (popc A)) (bsB rr (popc A)) (popc A) (popc A)) (dgS t (popc A)) (allS (hdD S lf jf K N W t (popc A) (prS (decide (rr = 1)) (popc A)) D) n n) false wo q) q0S := e1
  rw [e2]
  refine ⟨f1, ?_, fun hw => ?_⟩
  · cases hx : bstB (totB (vW false S lf jf K N W D (popc A)) (decide (rr = 1)) (popc A)) (lwf (decide (rr = 1)) A (wlS K N D n A fr)) with
    | none => rw [hx] at f2; exact f2.2
    | some y =>
      rw [hx] at f2
      exact ⟨f2.2.1, by rw [f2.2.2]; exact joy_tot hr h7 hN⟩
  · have f3' := f3 hw
    cases hx : bstB (totB (vW true S lf jf K N W D (popc A)) (decide (rr = 1)) (popc A)) (lwf (decide (rr = 1)) A (wlS K N D n A fr)) with
    | none => rw [hx] at f3'; exact f3'.2
    | some y =>
      rw [hx] at f3'
      refine ⟨f3'.2.1, ?_⟩
      rw [f3'.2.2, tI_nI (Nat.lt_trans (hO y) (by decide))]
      refine hL y ?_
      rcases updB_mem _ _ hx with h | h
      · cases h
      · exact h
theorem lwf_pos {r : Bool} {A : Nat} {wl : List (Option Nat)} : 0 < (lwf r A wl).length ↔ ∃ y, y ∈ tbs r A ∧ uC r (popc A) wl y = false := by
  rw [List.length_pos_iff_exists_mem]
  constructor
  · rintro ⟨y, hy⟩
    have := List.mem_filter.mp hy
    refine ⟨y, this.1, ?_⟩
    cases hu : uC r (popc A) wl y with
    | false => rfl
    | true => rw [hu] at this; exact absurd this.2 (by decide)
  · rintro ⟨y, h1, h2⟩
    exact ⟨y, List.mem_filter.mpr ⟨h1, by rw [h2]; rfl⟩⟩
theorem ref_any {rr n : Nat} {K N : List Nat} {W : List Int32} {D : List Nat} {fr : Int32} {S : List Nat} {lf jf A : Nat} {wo : Bool} (hr : rr ≤ 1) (hn : n ≤ 7) (hA : A < 128) (hb : ∀ p, A.testBit p = true → p < n) (hg : Dg D) : 0 < (skS n (decide (rr = 1)) true (fun (t : List Nat) (q : Q5T) => lkV (ffrom (fun s => !rfB rr (popc A) t (wlS K N D n (setS t (popc A)) fr) s) (popc A) 0).isSome (allJ (fun x y => gdI S jf K N W D (t.getD x 0) (t.getD y 0) x (popc A)) (bsB rr (popc A)) (popc A) (popc A)) (dgS t (popc A)) (allS (hdD S lf jf K N W t (popc A) (prS (decide (rr = 1)) (popc A)) D) n n) true wo q) (popc A) 0 A t0S q0S).1.toInt ↔ 0 < (lwf (decide (rr = 1)) A (wlS K N D n A fr)).length := by
  have p8 : 8 ^ popc A ≤ 8 ^ 7 := Nat.pow_le_pow_right (by decide) (popc_le A hA)
  have e0 : (q0S.1).toInt = 0 := by decide
  have h := (skS_any (n := n) (r := (decide (rr = 1))) (U := fun t => (ffrom (fun s => !rfB rr (popc A) t (wlS K N D n (setS t (popc A)) fr) s) (popc A) 0).isSome) (lk := (fun (t : List Nat) (q : Q5T) => lkV (ffrom (fun s => !rfB rr (popc A) t (wlS K N D n (setS t (popc A)) fr) s) (popc A) 0).isSome (allJ (fun x y => gdI S jf K N W D (t.getD x 0) (t.getD y 0) x (popc A)) (bsB rr (popc A)) (popc A) (popc A)) (dgS t (popc A)) (allS (hdD S lf jf K N W t (popc A) (prS (decide (rr = 1)) (popc A)) D) n n) true wo q)) hn (fun t q => rfl) (popc A) 0 A t0S q0S hb (by rw [e0]; exact Int.le_refl _) (by rw [e0]; omega)).2.2
  rw [h, lwf_pos, e0]
  constructor
  · rintro (h1 | ⟨y, h1, h2⟩)
    · exact absurd h1 (by decide)
    · refine ⟨y, h1, ?_⟩
      rw [unl_eq hr hg (tbs_ok (n := n) hA hb h1).2.2] at h2
      exact h2
  · rintro ⟨y, h1, h2⟩
    refine Or.inr ⟨y, h1, ?_⟩
    rw [unl_eq hr hg (tbs_ok (n := n) hA hb h1).2.2]
    exact h2
theorem ref_cnt {rr n : Nat} {K N D : List Nat} {fr : Int32} {A : Nat} (hr : rr ≤ 1) (hn : n ≤ 7) (hA : A < 128) (hb : ∀ p, A.testBit p = true → p < n) (hg : Dg D) : (skS n (decide (rr = 1)) false (fun (t : List Nat) (q : Q5T) => ctV (ffrom (fun s => !rfB rr (popc A) t (wlS K N D n (setS t (popc A)) fr) s) (popc A) 0).isSome q) (popc A) 0 A t0S q0S).1.toInt = (((lwf (decide (rr = 1)) A (wlS K N D n A fr)).length : Nat) : Int) := by
  rw [skS_fold hn _ _ _ _ _ hb]
  have hlen := tbs_len (r := (decide (rr = 1))) hA
  have e0 : (q0S.1).toInt = 0 := by decide
  have e2 : (lvs (decide (rr = 1)) (popc A) 0 A t0S).foldl (fun q t => (fun (t : List Nat) (q : Q5T) => ctV (ffrom (fun s => !rfB rr (popc A) t (wlS K N D n (setS t (popc A)) fr) s) (popc A) 0).isSome q) t q) q0S = (tbs (decide (rr = 1)) A).foldl (fun q t => ctV (uC (decide (rr = 1)) (popc A) (wlS K N D n A fr) t) q) q0S :=
    foldl_cg _ _ (fun y hy q => by simp only [unl_eq (m := popc A) (K := K) (N := N) (n := n) (fr := fr) hr hg (tbs_ok (n := n) hA hb hy).2.2]; rfl)
  rw [e2, cnt_fold _ _ (by rw [e0]; exact Int.le_refl _) (by rw [e0]; omega), e0, Int.zero_add]
  rfl
theorem all_bit : ∀ n, n ≤ 7 → popc (2 ^ n - 1) = n ∧ 2 ^ n - 1 < 128 := by
  intro n h
  have : ∀ n, n < 8 → popc (2 ^ n - 1) = n ∧ 2 ^ n - 1 < 128 := by decide +kernel
  exact this n (by omega)
theorem all_in {n p : Nat} (h : (2 ^ n - 1).testBit p = true) : p < n := by
  rw [Nat.testBit_two_pow_sub_one] at h
  exact of_decide_eq_true h
