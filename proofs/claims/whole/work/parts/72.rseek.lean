/-! the reference's search -/
def FrQ (a a' : Nat → Int32) : Prop := ∀ k, ¬ ((15 ≤ k ∧ k ≤ 29) ∨ (33 ≤ k ∧ k ≤ 37)) → a' k = a k
theorem FrQ.rf {a : Nat → Int32} : FrQ a a := fun _ _ => rfl
theorem FrQ.tr {a a' a'' : Nat → Int32} (h : FrQ a a') (h' : FrQ a' a'') : FrQ a a'' := fun k hk => (h' k hk).trans (h k hk)
theorem FrQ.up {a a' : Nat → Int32} (h : FrQ a a') {j : Nat} {v : Int32} (hj : 33 ≤ j ∧ j ≤ 37) : FrQ a (up a' j v) := fun k hk => (up_ne a' v (fun q => hk (by rw [q]; exact Or.inr hj))).trans (h k hk)
theorem FrS.Q {a a' : Nat → Int32} (h : FrS a a') : FrQ a a' := fun k hk => h k (fun q => hk (Or.inl q))
def Fq (b b' : Nat → List Int32) : Prop := ∀ j, j ≠ 7 → j ≠ 8 → b' j = b j
theorem Fq.rf {b : Nat → List Int32} : Fq b b := fun _ _ _ => rfl
theorem Fq.tr {b b' b'' : Nat → List Int32} (h : Fq b b') (h' : Fq b' b'') : Fq b b'' := fun k h1 h2 => (h' k h1 h2).trans (h k h1 h2)
theorem Fb.q7 {b b' : Nat → List Int32} (h : Fb 7 b b') : Fq b b' := fun k h1 _ => h k h1
theorem Fb.q8 {b b' : Nat → List Int32} (h : Fb 8 b b') : Fq b b' := fun k _ h2 => h k h2
theorem Fq.up {b b' : Nat → List Int32} {l : List Int32} (h : Fq b b') : Fq b (up b' 7 l) := fun k h1 h2 => (up_ne b' l h1).trans (h k h1 h2)
/-- the first k seats are t's -/
def PT (k : Nat) (l : List Int32) (t : List Nat) : Prop := ∀ i, i < k → l.getD i 0 = nI (t.getD i 0)
/-- the reference's people, text, and how it seeks -/
def SW (a : Nat → Int32) (b : Nat → List Int32) (rr n : Nat) (K N : List Nat) (W : List Int32) (D : List Nat) (fr : Int32) (ru : Nat) (L S : List Nat) (lf jf m : Nat) (oo wo : Bool) : Prop := RC a b rr n K N W D fr ∧ RT a b ru L S lf jf ∧ a 31 = nI m ∧ m ≤ 7 ∧ a 38 = bI oo ∧ a 39 = bI wo
def Q5 (a : Nat → Int32) (q : Int32 × Int32 × Int32 × Int32 × Int32) : Prop := a 33 = q.1 ∧ a 34 = q.2.1 ∧ a 35 = q.2.2.1 ∧ a 36 = q.2.2.2.1 ∧ a 37 = q.2.2.2.2
abbrev Q5T : Type := Int32 × Int32 × Int32 × Int32 × Int32
section SWs
variable {a a' : Nat → Int32} {b b' : Nat → List Int32} {rr n : Nat} {K N : List Nat} {W : List Int32} {D D' : List Nat} {f9 : Int32} {ru : Nat} {L S : List Nat} {lf jf m : Nat} {t : List Nat} {oo wo : Bool} {q : Q5T}
theorem RC.frq (h : RC a b rr n K N W D f9) (hA : FrQ a a') (hB : Fq b b') : RC a' b' rr n K N W D f9 := by
  obtain ⟨c7, hrr, c13, hn7, c14, cK, cN, cW, cD, r⟩ := h
  exact ⟨(hA 7 (by omega)).trans c7, hrr, (hA 13 (by omega)).trans c13, hn7, (hA 14 (by omega)).trans c14, fun i hi => by rw [hB 3 (by decide) (by decide)]; exact cK i hi, by rw [hB 4 (by decide) (by decide)]; exact cN, by rw [hB 5 (by decide) (by decide)]; exact cW, by rw [hB 6 (by decide) (by decide)]; exact cD, r⟩
theorem RT.frq (h : RT a b ru L S lf jf) (hA : FrQ a a') (hB : Fq b b') : RT a' b' ru L S lf jf := by
  have h2 := h.setB (hB 0 (by decide) (by decide)) (hB 1 (by decide) (by decide))
  exact ⟨(hA 4 (by omega)).trans h2.1, h2.2⟩
theorem SW.fr (h : SW a b rr n K N W D f9 ru L S lf jf m oo wo) (hA : FrQ a a') (hB : Fq b b') : SW a' b' rr n K N W D f9 ru L S lf jf m oo wo := by
  obtain ⟨hC, hT, c31, hm, c38, c39⟩ := h
  exact ⟨hC.frq hA hB, hT.frq hA hB, (hA 31 (by omega)).trans c31, hm, (hA 38 (by omega)).trans c38, (hA 39 (by omega)).trans c39⟩
theorem SW.tw (h : SW a b rr n K N W D f9 ru L S lf jf m oo wo) (hT : PT m (b 7) t) (ht : T7 t) (hn : ∀ i, i < m → t.getD i 0 < n) : TW a b rr n K N W D f9 ru L S lf jf m t := ⟨h.1, h.2.1, h.2.2.1, h.2.2.2.1, hT, ht, hn⟩
theorem Q5.fr (h : Q5 a q) (hA : FrS a a') : Q5 a' q := by
  obtain ⟨h1, h2, h3, h4, h5⟩ := h
  exact ⟨(hA 33 (by omega)).trans h1, (hA 34 (by omega)).trans h2, (hA 35 (by omega)).trans h3, (hA 36 (by omega)).trans h4, (hA 37 (by omega)).trans h5⟩
theorem PT.fr {k : Nat} (h : PT k (b 7) t) (hB : Fb 8 b b') : PT k (b' 7) t := by rw [PT, hB 7 (by decide)]; exact h
theorem PT.set {k p : Nat} {l : List Int32} (h : PT k l t) (hk : k < l.length) (ht : k < t.length) : PT (k + 1) (l.set k (nI p)) (t.set k p) := by
  intro i hi
  rw [gset hk, getD_set]
  by_cases e : i = k
  · rw [if_pos e, if_pos ⟨e.symm, ht⟩]
  · rw [if_neg e, if_neg (fun q => e q.1.symm)]; exact h i (by omega)
end SWs
/-- what the reference does with a table that is laid: whether it is unlawful, its joy, its digits, what is owed behind it -/
def glS (q : Q5T) (j : Int32) (g : Nat) : Int32 × Int32 := if (q.1 + nI 1).toInt = 1 ∨ q.2.2.1.toInt < j.toInt then (nI g, j) else (q.2.1, q.2.2.1)
def clV (wo : Bool) (q : Q5T) (o g : Nat) : Int32 × Int32 := if wo = true ∧ (q.2.2.2.2.toInt = -1 ∨ ((o : Nat) : Int) < q.2.2.2.2.toInt) then (nI g, nI o) else (q.2.2.2.1, q.2.2.2.2)
def lkV (u : Bool) (j : Int32) (g o : Nat) (oo wo : Bool) (q : Q5T) : Q5T :=
  if u = true then q else if oo = true then (q.1 + nI 1, q.2) else (q.1 + nI 1, (glS q j g).1, (glS q j g).2, (clV wo q o g).1, (clV wo q o g).2)
def ctV (u : Bool) (q : Q5T) : Q5T := (q.1 + (if u = true then nI 0 else nI 1), q.2)
def skL (g : Nat → Q5T → Q5T) (S : Nat) (r0 : Bool) : Nat → Nat → Q5T → Q5T
  | 0, _, q => q
  | c + 1, k, q => if S.testBit k = true then (if r0 = true then g k q else skL g S r0 c (k + 1) (g k q)) else skL g S r0 c (k + 1) q
def skS (n : Nat) (r oo : Bool) (lk : List Nat → Q5T → Q5T) : Nat → Nat → Nat → List Nat → Q5T → Q5T
  | 0, _, _, t, q => lk t q
  | f + 1, x, S, t, q => if oo = true ∧ 0 < q.1.toInt then q else skL (fun p q => skS n r oo lk f (x + 1) (S &&& (2 ^ p ^^^ 127)) (t.set x p) q) S (decide (x = 0) && r) n 0 q
theorem ffrom_lt {f : Nat → Bool} {c : Nat} : ∀ (q k : Nat), ffrom f q k = some c → k ≤ c ∧ c < k + q ∧ f c = true
  | 0, k, h => by cases h
  | q + 1, k, h => by
    rw [ffrom] at h
    by_cases e : f k = true
    · rw [if_pos e] at h
      cases h
      exact ⟨Nat.le_refl _, by omega, e⟩
    · rw [if_neg e] at h
      have := ffrom_lt q (k + 1) h
      exact ⟨by omega, by omega, this.2.2⟩
theorem popc_rm : ∀ S, S < 128 → ∀ k, k < 7 → S.testBit k = true → popc (S &&& (2 ^ k ^^^ 127)) + 1 = popc S := by decide +kernel
theorem popc00 : popc 0 = 0 := by decide
theorem popc_0 : ∀ S, S < 128 → popc S = 0 → S = 0 := by decide +kernel
theorem p128 : ∀ k, k < 7 → 2 ^ k < 128 := by decide
theorem bit_rm {S k p : Nat} (h : (S &&& (2 ^ k ^^^ 127)).testBit p = true) : S.testBit p = true := by
  rw [Nat.testBit_and, Bool.and_eq_true] at h
  exact h.1
theorem and128 {S T : Nat} (h : S < 128) : S &&& T < 128 := Nat.lt_of_le_of_lt Nat.and_le_left h
theorem TW.frq {a a' : Nat → Int32} {b b' : Nat → List Int32} {rr n : Nat} {K N : List Nat} {W : List Int32} {D : List Nat} {fr : Int32} {ru : Nat} {L S : List Nat} {lf jf m : Nat} {t : List Nat} (h : TW a b rr n K N W D fr ru L S lf jf m t) (hA : FrQ a a') (hB : Fb 8 b b') : TW a' b' rr n K N W D fr ru L S lf jf m t := by
  obtain ⟨hC, hT, c31, hm, cT, r⟩ := h
  exact ⟨hC.frq hA hB.q8, hT.frq hA hB.q8, (hA 31 (by omega)).trans c31, hm, by rw [hB 7 (by decide)]; exact cT, r⟩
theorem dgS_lt {t : List Nat} (ht : T7 t) {m : Nat} (hm : m ≤ 7) : dgS t m < 10000000 := Nat.lt_of_lt_of_le (dgS_le ht m) (Nat.pow_le_pow_right (n := 10) (j := 7) (by decide) hm)
set_option maxHeartbeats 4000000 in
theorem lr_digs9 {σ0 σ : ZS} {a : Nat → Int32} {tw : Int64} {b : Nat → List Int32} {rr n : Nat} {K N : List Nat} {W : List Int32} {D : List Nat} {fr : Int32} {ru : Nat} {L S : List Nat} {lf jf m : Nat} {t : List Nat} (hR : RM σ0 σ a tw b) (hW : TW a b rr n K N W D fr ru L S lf jf m t) {d : Nat} (hd : 0 ≤ d) : ∀ (q k : Nat), k + q = m → X M_X8_digits d 0 0 (fun r9 σ' => r9 = some (.int (nI (dgS t m))) ∧ σ' = σ) 0 0 4 [some (.ref 1000), some (.int (nI ((dgS t k)))), some (.int (nI k))] [] σ := by
  obtain ⟨hC, hT, c31, hm, cT, ht, hTn⟩ := id hW
  obtain ⟨c7, hrr, c13, hn7, c14, cK, cN, cW, cD, hN7, hW7, hD49, hK5, hN9, hD999⟩ := id hC
  obtain ⟨ht7, htb⟩ := id ht
  intro q
  induction q with
  | zero =>
    intro k hk
    refine x_iload_n dX8_digits_4 rfl ?_
    refine x_aload_n dX8_digits_5 rfl ?_
    refine x_rget (v := .int (nI m)) f_X8_255 hR (rg c31) dX8_digits_6 ?_
    refine x_icmpN_ge (tgt := 32) dX8_digits_9 (by decide) (by omega) (by omega) (fun hv1 => ?_) (fun hv1 => ?_)
    · refine x_iload_n dX8_digits_32 rfl ?_
      exact x_iret ⟨Nat.le_refl _, Nat.le_refl _⟩ rfl dX8_digits_33 ⟨by rw [show k = m by omega], rfl⟩
    · exact absurd hv1 (by omega)
  | succ q ih =>
    intro k hk
    refine x_iload_n dX8_digits_4 rfl ?_
    refine x_aload_n dX8_digits_5 rfl ?_
    refine x_rget (v := .int (nI m)) f_X8_255 hR (rg c31) dX8_digits_6 ?_
    refine x_icmpN_ge (tgt := 32) dX8_digits_9 (by decide) (by omega) (by omega) (fun hv1 => ?_) (fun hv1 => ?_)
    · exact absurd hv1 (by omega)
    · refine x_bipush (v := nI 10) dX8_digits_12 (by decide) ?_
      refine x_iload_n dX8_digits_14 rfl ?_
      refine x_imulN dX8_digits_15 ?_
      refine x_topi (y := nI (((dgS t k)) * 10)) (by rw [Nat.mul_comm]) ?_
      refine x_aload_n dX8_digits_16 rfl ?_
      refine x_rget f_X8_41 hR rfl dX8_digits_17 ?_
      refine x_iload_n dX8_digits_20 rfl ?_
      refine x_rald (j := 7) (n := k) hR rfl (by decide) rfl rfl (rlt hR (m := 7) (by decide) rfl (by omega)) dX8_digits_21 ?_
      refine x_topi (y := nI ((t.getD k 0))) (cT _ (by omega)) ?_
      refine x_iaddN dX8_digits_22 ?_
      refine x_iconst (v := nI 1) dX8_digits_23 (by decide) ?_
      refine x_iaddN dX8_digits_24 ?_
      refine x_istore_n dX8_digits_25 (by decide) rfl ?_
      refine x_lv (lv' := [some (.ref 1000), some (.int (nI (((((dgS t k)) * 10) + ((t.getD k 0))) + 1))), some (.int (nI k))]) rfl ?_
      refine x_iincN dX8_digits_26 rfl (by decide) rfl ?_
      refine x_lv (lv' := [some (.ref 1000), some (.int (nI (((((dgS t k)) * 10) + ((t.getD k 0))) + 1))), some (.int (nI (k + 1)))]) rfl ?_
      refine x_goto (tgt := 4) dX8_digits_29 (by decide) ?_
      exact ih (k + 1) (by omega)
set_option maxHeartbeats 4000000 in
theorem r_digs9 {σ0 σ : ZS} {a : Nat → Int32} {tw : Int64} {b : Nat → List Int32} {rr n : Nat} {K N : List Nat} {W : List Int32} {D : List Nat} {fr : Int32} {ru : Nat} {L S : List Nat} {lf jf m : Nat} {t : List Nat} (hR : RM σ0 σ a tw b) (hW : TW a b rr n K N W D fr ru L S lf jf m t) : Cn 0 M_X8_digits 0 0 [.ref 1000] σ (fun r9 σ' => r9 = some (.int (nI (dgS t m))) ∧ σ' = σ) := by
  obtain ⟨hC, hT, c31, hm, cT, ht, hTn⟩ := id hW
  obtain ⟨c7, hrr, c13, hn7, c14, cK, cN, cW, cD, hN7, hW7, hD49, hK5, hN9, hD999⟩ := id hC
  obtain ⟨ht7, htb⟩ := id ht
  refine Cn.intro (lv0 := [some (.ref 1000), none, none]) rfl (Nat.le_of_ble_eq_true rfl) rfl (fun d hd => ?_)
  refine x_iconst (v := nI 0) dX8_digits_0 (by decide) ?_
  refine x_istore_n dX8_digits_1 (by decide) rfl ?_
  refine x_lv (lv' := [some (.ref 1000), some (.int (nI 0)), none]) rfl ?_
  refine x_iconst (v := nI 0) dX8_digits_2 (by decide) ?_
  refine x_istore_n dX8_digits_3 (by decide) rfl ?_
  refine x_lv (lv' := [some (.ref 1000), some (.int (nI 0)), some (.int (nI 0))]) rfl ?_
  exact lr_digs9 hR hW hd m 0 (by omega)
set_option maxHeartbeats 4000000 in
theorem r_looks {σ0 σ : ZS} {a : Nat → Int32} {tw : Int64} {b : Nat → List Int32} {rr n : Nat} {K N : List Nat} {W : List Int32} {D : List Nat} {fr : Int32} {ru : Nat} {L S : List Nat} {lf jf m : Nat} {oo wo : Bool} (hR : RM σ0 σ a tw b) (hS : SW a b rr n K N W D fr ru L S lf jf m oo wo) {q : Q5T} (hq : Q5 a q) {t : List Nat} (hPT : PT m (b 7) t) (ht : T7 t) (hTn : ∀ i, i < m → t.getD i 0 < n) : Cn 168 M_X8_looks 0 0 [.ref 1000] σ (fun r9 σ' => r9 = none ∧ ∃ (a' : Nat → Int32) (tw' : Int64) (b' : Nat → List Int32), RM σ0 σ' a' tw' b' ∧ FrQ a a' ∧ Fb 8 b b' ∧ Q5 a' (lkV (ffrom (fun s => !rfB rr m t (wlS K N D n (setS t m) fr) s) m 0).isSome (allJ (fun x y => gdI S jf K N W D (t.getD x 0) (t.getD y 0) x m) (bsB rr m) m m) (dgS t m) (allS (hdD S lf jf K N W t m (prS (decide (rr = 1)) m) D) n n) oo wo q)) := by
  obtain ⟨hC, hT, c31, hm, c38, c39⟩ := id hS
  obtain ⟨c33, c34, c35, c36, c37⟩ := id hq
  have hn7 := hC.2.2.2.1
  have hW := hS.tw hPT ht hTn
  refine Cn.intro (lv0 := [some (.ref 1000), none, none]) rfl (Nat.le_of_ble_eq_true rfl) rfl (fun d hd => ?_)
  refine x_aload_n dX8_looks_0 rfl ?_
  refine x_callV m_X8_unlawful l_X8_308 (r_unlawful hR hC c31 hm hPT ht hTn) rfl hR.2.1 (by omega) rfl rfl (Nat.le_of_ble_eq_true rfl) ⟨Nat.le_refl _, Nat.le_refl _⟩ dX8_looks_1 (fun r1 s1 q1 => ?_)
  obtain ⟨rfl, eq1⟩ := q1
  obtain rfl := eq1.symm
  refine x_stk (st' := [.int ((oI (ffrom (fun s => !rfB rr m t (wlS K N D n (setS t m) fr) s) m 0)))]) rfl ?_
  refine x_iconst (v := (-1)) dX8_looks_4 (by decide) ?_
  rcases hu9 : (ffrom (fun s => !rfB rr m t (wlS K N D n (setS t m) fr) s) m 0) with _ | c9
  · refine x_stk (st' := [.int (-1), .int (-1)]) rfl ?_
    refine x_icmpT_eq (p := (-1)) (q := (-1)) (tgt := 9) (by decide) (by decide) dX8_looks_5 (by decide) (fun hv2 => ?_) (fun hv2 => ?_)
    · refine x_aload_n dX8_looks_9 rfl ?_
      refine x_dup dX8_looks_10 rfl ?_
      refine x_rget (v := .int q.1) f_X8_317 hR (rg c33) dX8_looks_11 ?_
      refine x_iconst (v := nI 1) dX8_looks_14 (by decide) ?_
      refine x_iadd dX8_looks_15 ?_
      refine x_rput (up a 33 ((q.1 + nI 1))) tw f_X8_317 hR (by decide) rfl (fun c => ⟨rfl, rfl⟩) dX8_looks_16 (fun sw3 Rw3 => ?_)
      refine x_aload_n dX8_looks_19 rfl ?_
      refine x_rget (v := .int (bI oo)) f_X8_332 Rw3 (rg c38) dX8_looks_20 ?_
      refine x_ifB_eq (tgt := 27) dX8_looks_23 (by decide) (fun hv4 => ?_) (fun hv4 => ?_)
      · refine x_aload_n dX8_looks_27 rfl ?_
        refine x_callV m_X8_joy l_X8_311 (r_joy Rw3 (hW.frq (FrQ.rf.up (by omega)) Fb.rf)) rfl Rw3.2.1 (by omega) rfl rfl (Nat.le_of_ble_eq_true rfl) ⟨Nat.le_refl _, Nat.le_refl _⟩ dX8_looks_28 (fun r5 s5 q5 => ?_)
        obtain ⟨a5, tw5, rfl, R5, A5⟩ := q5
        refine x_stk (st' := [.int ((allJ (fun x y => gdI S jf K N W D (t.getD x 0) (t.getD y 0) x m) (bsB rr m) m m))]) rfl ?_
        refine x_istore_n dX8_looks_31 (by decide) rfl ?_
        refine x_lv (lv' := [some (.ref 1000), some (.int ((allJ (fun x y => gdI S jf K N W D (t.getD x 0) (t.getD y 0) x m) (bsB rr m) m m))), none]) rfl ?_
        refine x_aload_n dX8_looks_32 rfl ?_
        refine x_rget (v := .int ((q.1 + nI 1))) f_X8_317 R5 (rg ((A5 33 (by omega)).trans rfl)) dX8_looks_33 ?_
        refine x_iconst (v := nI 1) dX8_looks_36 (by decide) ?_
        refine x_icmpT_eq (p := ((q.1 + nI 1)).toInt) (q := ((1 : Nat) : Int)) (tgt := 48) rfl (nI_toInt (by omega)) dX8_looks_37 (by decide) (fun hv6 => ?_) (fun hv6 => ?_)
        · refine x_aload_n dX8_looks_48 rfl ?_
          refine x_aload_n dX8_looks_49 rfl ?_
          refine x_callV m_X8_digits l_X8_338 (r_digs9 R5 (hW.frq ((FrQ.rf.up (by omega)).tr A5.Q) Fb.rf)) rfl R5.2.1 (by omega) rfl rfl (Nat.le_of_ble_eq_true rfl) ⟨Nat.le_refl _, Nat.le_refl _⟩ dX8_looks_50 (fun r7 s7 q7 => ?_)
          obtain ⟨rfl, eq7⟩ := q7
          obtain rfl := eq7.symm
          refine x_stk (st' := [.int (nI ((dgS t m))), .ref 1000]) rfl ?_
          refine x_rput (up a5 34 (nI ((dgS t m)))) tw5 f_X8_320 R5 (by decide) rfl (fun c => ⟨rfl, rfl⟩) dX8_looks_53 (fun sw8 Rw8 => ?_)
          refine x_aload_n dX8_looks_56 rfl ?_
          refine x_iload_n dX8_looks_57 rfl ?_
          refine x_rput (up (up a5 34 (nI ((dgS t m)))) 35 ((allJ (fun x y => gdI S jf K N W D (t.getD x 0) (t.getD y 0) x m) (bsB rr m) m m))) tw5 f_X8_323 Rw8 (by decide) rfl (fun c => ⟨rfl, rfl⟩) dX8_looks_58 (fun sw9 Rw9 => ?_)
          refine x_aload_n dX8_looks_61 rfl ?_
          refine x_rget (v := .int (bI wo)) f_X8_335 Rw9 (rg ((A5 39 (by omega)).trans c39)) dX8_looks_62 ?_
          refine x_ifB_eq (tgt := 102) dX8_looks_65 (by decide) (fun hv10 => ?_) (fun hv10 => ?_)
          · exact x_vret ⟨Nat.le_refl _, Nat.le_refl _⟩ rfl dX8_looks_102 ⟨rfl, _, _, _, Rw9, ((((FrQ.rf.up (by omega)).tr A5.Q).up (by omega)).up (by omega)), Fb.rf, by rw [lkV, if_neg (by decide), if_neg (by rw [hv4]; decide), glS, if_pos (show ((q.1 + nI 1).toInt = 1 ∨ q.2.2.1.toInt < (allJ (fun x y => gdI S jf K N W D (t.getD x 0) (t.getD y 0) x m) (bsB rr m) m m).toInt) by omega), clV, if_neg (fun z => absurd z.1 (by rw [hv10]; decide))]; exact ⟨((A5 33 (by omega)).trans rfl), rfl, rfl, ((A5 36 (by omega)).trans c36), ((A5 37 (by omega)).trans c37)⟩⟩
          · refine x_aload_n dX8_looks_68 rfl ?_
            refine x_callV m_X8_owedBehind l_X8_314 (r_owedBehind Rw9 (hW.frq ((((FrQ.rf.up (by omega)).tr A5.Q).up (by omega)).up (by omega)) Fb.rf)) rfl Rw9.2.1 (by omega) rfl rfl (Nat.le_of_ble_eq_true rfl) ⟨Nat.le_refl _, Nat.le_refl _⟩ dX8_looks_69 (fun r11 s11 q11 => ?_)
            obtain ⟨a11, tw11, b11, rfl, R11, A11, B11⟩ := q11
            have ho11 := allS_le (hdD_ok (S := S) (lf := lf) (jf := jf) (K := K) (N := N) (W := W) (t := t) (m := m) hW.D9 (prS (decide (rr = 1)) m)).2 hn7 n
            refine x_stk (st' := [.int (nI ((allS (hdD S lf jf K N W t m (prS (decide (rr = 1)) m) D) n n)))]) rfl ?_
            refine x_istore_n dX8_looks_72 (by decide) rfl ?_
            refine x_lv (lv' := [some (.ref 1000), some (.int ((allJ (fun x y => gdI S jf K N W D (t.getD x 0) (t.getD y 0) x m) (bsB rr m) m m))), some (.int (nI ((allS (hdD S lf jf K N W t m (prS (decide (rr = 1)) m) D) n n))))]) rfl ?_
            refine x_aload_n dX8_looks_73 rfl ?_
            refine x_rget (v := .int q.2.2.2.2) f_X8_329 R11 (rg ((A11 37 (by omega)).trans ((A5 37 (by omega)).trans c37))) dX8_looks_74 ?_
            refine x_iconst (v := (-1)) dX8_looks_77 (by decide) ?_
            refine x_icmpT_eq (p := (q.2.2.2.2).toInt) (q := (-1)) (tgt := 89) rfl (by decide) dX8_looks_78 (by decide) (fun hv12 => ?_) (fun hv12 => ?_)
            · refine x_aload_n dX8_looks_89 rfl ?_
              refine x_aload_n dX8_looks_90 rfl ?_
              refine x_callV m_X8_digits l_X8_338 (r_digs9 R11 (hW.frq (((((FrQ.rf.up (by omega)).tr A5.Q).up (by omega)).up (by omega)).tr A11.Q) (Fb.rf.tr B11))) rfl R11.2.1 (by omega) rfl rfl (Nat.le_of_ble_eq_true rfl) ⟨Nat.le_refl _, Nat.le_refl _⟩ dX8_looks_91 (fun r13 s13 q13 => ?_)
              obtain ⟨rfl, eq13⟩ := q13
              obtain rfl := eq13.symm
              refine x_stk (st' := [.int (nI ((dgS t m))), .ref 1000]) rfl ?_
              refine x_rput (up a11 36 (nI ((dgS t m)))) tw11 f_X8_326 R11 (by decide) rfl (fun c => ⟨rfl, rfl⟩) dX8_looks_94 (fun sw14 Rw14 => ?_)
              refine x_aload_n dX8_looks_97 rfl ?_
              refine x_iload_n dX8_looks_98 rfl ?_
              refine x_rput (up (up a11 36 (nI ((dgS t m)))) 37 (nI ((allS (hdD S lf jf K N W t m (prS (decide (rr = 1)) m) D) n n)))) tw11 f_X8_329 Rw14 (by decide) rfl (fun c => ⟨rfl, rfl⟩) dX8_looks_99 (fun sw15 Rw15 => ?_)
              exact x_vret ⟨Nat.le_refl _, Nat.le_refl _⟩ rfl dX8_looks_102 ⟨rfl, _, _, _, Rw15, (((((((FrQ.rf.up (by omega)).tr A5.Q).up (by omega)).up (by omega)).tr A11.Q).up (by omega)).up (by omega)), (Fb.rf.tr B11), by rw [lkV, if_neg (by decide), if_neg (by rw [hv4]; decide), glS, if_pos (show ((q.1 + nI 1).toInt = 1 ∨ q.2.2.1.toInt < (allJ (fun x y => gdI S jf K N W D (t.getD x 0) (t.getD y 0) x m) (bsB rr m) m m).toInt) by omega), clV, if_pos ⟨hv10, by omega⟩]; exact ⟨((A11 33 (by omega)).trans ((A5 33 (by omega)).trans rfl)), ((A11 34 (by omega)).trans rfl), ((A11 35 (by omega)).trans rfl), rfl, rfl⟩⟩
            · refine x_iload_n dX8_looks_81 rfl ?_
              refine x_aload_n dX8_looks_82 rfl ?_
              refine x_rget (v := .int q.2.2.2.2) f_X8_329 R11 (rg ((A11 37 (by omega)).trans ((A5 37 (by omega)).trans c37))) dX8_looks_83 ?_
              refine x_icmpT_ge (p := (((allS (hdD S lf jf K N W t m (prS (decide (rr = 1)) m) D) n n) : Nat) : Int)) (q := (q.2.2.2.2).toInt) (tgt := 102) (nI_toInt (by omega)) rfl dX8_looks_86 (by decide) (fun hv16 => ?_) (fun hv16 => ?_)
              · exact x_vret ⟨Nat.le_refl _, Nat.le_refl _⟩ rfl dX8_looks_102 ⟨rfl, _, _, _, R11, (((((FrQ.rf.up (by omega)).tr A5.Q).up (by omega)).up (by omega)).tr A11.Q), (Fb.rf.tr B11), by rw [lkV, if_neg (by decide), if_neg (by rw [hv4]; decide), glS, if_pos (show ((q.1 + nI 1).toInt = 1 ∨ q.2.2.1.toInt < (allJ (fun x y => gdI S jf K N W D (t.getD x 0) (t.getD y 0) x m) (bsB rr m) m m).toInt) by omega), clV, if_neg (fun z => by have z2 := z.2; omega)]; exact ⟨((A11 33 (by omega)).trans ((A5 33 (by omega)).trans rfl)), ((A11 34 (by omega)).trans rfl), ((A11 35 (by omega)).trans rfl), ((A11 36 (by omega)).trans ((A5 36 (by omega)).trans c36)), ((A11 37 (by omega)).trans ((A5 37 (by omega)).trans c37))⟩⟩
              · refine x_aload_n dX8_looks_89 rfl ?_
                refine x_aload_n dX8_looks_90 rfl ?_
                refine x_callV m_X8_digits l_X8_338 (r_digs9 R11 (hW.frq (((((FrQ.rf.up (by omega)).tr A5.Q).up (by omega)).up (by omega)).tr A11.Q) (Fb.rf.tr B11))) rfl R11.2.1 (by omega) rfl rfl (Nat.le_of_ble_eq_true rfl) ⟨Nat.le_refl _, Nat.le_refl _⟩ dX8_looks_91 (fun r17 s17 q17 => ?_)
                obtain ⟨rfl, eq17⟩ := q17
                obtain rfl := eq17.symm
                refine x_stk (st' := [.int (nI ((dgS t m))), .ref 1000]) rfl ?_
                refine x_rput (up a11 36 (nI ((dgS t m)))) tw11 f_X8_326 R11 (by decide) rfl (fun c => ⟨rfl, rfl⟩) dX8_looks_94 (fun sw18 Rw18 => ?_)
                refine x_aload_n dX8_looks_97 rfl ?_
                refine x_iload_n dX8_looks_98 rfl ?_
                refine x_rput (up (up a11 36 (nI ((dgS t m)))) 37 (nI ((allS (hdD S lf jf K N W t m (prS (decide (rr = 1)) m) D) n n)))) tw11 f_X8_329 Rw18 (by decide) rfl (fun c => ⟨rfl, rfl⟩) dX8_looks_99 (fun sw19 Rw19 => ?_)
                exact x_vret ⟨Nat.le_refl _, Nat.le_refl _⟩ rfl dX8_looks_102 ⟨rfl, _, _, _, Rw19, (((((((FrQ.rf.up (by omega)).tr A5.Q).up (by omega)).up (by omega)).tr A11.Q).up (by omega)).up (by omega)), (Fb.rf.tr B11), by rw [lkV, if_neg (by decide), if_neg (by rw [hv4]; decide), glS, if_pos (show ((q.1 + nI 1).toInt = 1 ∨ q.2.2.1.toInt < (allJ (fun x y => gdI S jf K N W D (t.getD x 0) (t.getD y 0) x m) (bsB rr m) m m).toInt) by omega), clV, if_pos ⟨hv10, by omega⟩]; exact ⟨((A11 33 (by omega)).trans ((A5 33 (by omega)).trans rfl)), ((A11 34 (by omega)).trans rfl), ((A11 35 (by omega)).trans rfl), rfl, rfl⟩⟩
        · refine x_iload_n dX8_looks_40 rfl ?_
          refine x_aload_n dX8_looks_41 rfl ?_
          refine x_rget (v := .int q.2.2.1) f_X8_323 R5 (rg ((A5 35 (by omega)).trans c35)) dX8_looks_42 ?_
          refine x_icmpT_le (p := ((allJ (fun x y => gdI S jf K N W D (t.getD x 0) (t.getD y 0) x m) (bsB rr m) m m)).toInt) (q := (q.2.2.1).toInt) (tgt := 61) rfl rfl dX8_looks_45 (by decide) (fun hv20 => ?_) (fun hv20 => ?_)
          · refine x_aload_n dX8_looks_61 rfl ?_
            refine x_rget (v := .int (bI wo)) f_X8_335 R5 (rg ((A5 39 (by omega)).trans c39)) dX8_looks_62 ?_
            refine x_ifB_eq (tgt := 102) dX8_looks_65 (by decide) (fun hv21 => ?_) (fun hv21 => ?_)
            · exact x_vret ⟨Nat.le_refl _, Nat.le_refl _⟩ rfl dX8_looks_102 ⟨rfl, _, _, _, R5, ((FrQ.rf.up (by omega)).tr A5.Q), Fb.rf, by rw [lkV, if_neg (by decide), if_neg (by rw [hv4]; decide), glS, if_neg (show ¬ ((q.1 + nI 1).toInt = 1 ∨ q.2.2.1.toInt < (allJ (fun x y => gdI S jf K N W D (t.getD x 0) (t.getD y 0) x m) (bsB rr m) m m).toInt) by omega), clV, if_neg (fun z => absurd z.1 (by rw [hv21]; decide))]; exact ⟨((A5 33 (by omega)).trans rfl), ((A5 34 (by omega)).trans c34), ((A5 35 (by omega)).trans c35), ((A5 36 (by omega)).trans c36), ((A5 37 (by omega)).trans c37)⟩⟩
            · refine x_aload_n dX8_looks_68 rfl ?_
              refine x_callV m_X8_owedBehind l_X8_314 (r_owedBehind R5 (hW.frq ((FrQ.rf.up (by omega)).tr A5.Q) Fb.rf)) rfl R5.2.1 (by omega) rfl rfl (Nat.le_of_ble_eq_true rfl) ⟨Nat.le_refl _, Nat.le_refl _⟩ dX8_looks_69 (fun r22 s22 q22 => ?_)
              obtain ⟨a22, tw22, b22, rfl, R22, A22, B22⟩ := q22
              have ho22 := allS_le (hdD_ok (S := S) (lf := lf) (jf := jf) (K := K) (N := N) (W := W) (t := t) (m := m) hW.D9 (prS (decide (rr = 1)) m)).2 hn7 n
              refine x_stk (st' := [.int (nI ((allS (hdD S lf jf K N W t m (prS (decide (rr = 1)) m) D) n n)))]) rfl ?_
              refine x_istore_n dX8_looks_72 (by decide) rfl ?_
              refine x_lv (lv' := [some (.ref 1000), some (.int ((allJ (fun x y => gdI S jf K N W D (t.getD x 0) (t.getD y 0) x m) (bsB rr m) m m))), some (.int (nI ((allS (hdD S lf jf K N W t m (prS (decide (rr = 1)) m) D) n n))))]) rfl ?_
              refine x_aload_n dX8_looks_73 rfl ?_
              refine x_rget (v := .int q.2.2.2.2) f_X8_329 R22 (rg ((A22 37 (by omega)).trans ((A5 37 (by omega)).trans c37))) dX8_looks_74 ?_
              refine x_iconst (v := (-1)) dX8_looks_77 (by decide) ?_
              refine x_icmpT_eq (p := (q.2.2.2.2).toInt) (q := (-1)) (tgt := 89) rfl (by decide) dX8_looks_78 (by decide) (fun hv23 => ?_) (fun hv23 => ?_)
              · refine x_aload_n dX8_looks_89 rfl ?_
                refine x_aload_n dX8_looks_90 rfl ?_
                refine x_callV m_X8_digits l_X8_338 (r_digs9 R22 (hW.frq (((FrQ.rf.up (by omega)).tr A5.Q).tr A22.Q) (Fb.rf.tr B22))) rfl R22.2.1 (by omega) rfl rfl (Nat.le_of_ble_eq_true rfl) ⟨Nat.le_refl _, Nat.le_refl _⟩ dX8_looks_91 (fun r24 s24 q24 => ?_)
                obtain ⟨rfl, eq24⟩ := q24
                obtain rfl := eq24.symm
                refine x_stk (st' := [.int (nI ((dgS t m))), .ref 1000]) rfl ?_
                refine x_rput (up a22 36 (nI ((dgS t m)))) tw22 f_X8_326 R22 (by decide) rfl (fun c => ⟨rfl, rfl⟩) dX8_looks_94 (fun sw25 Rw25 => ?_)
                refine x_aload_n dX8_looks_97 rfl ?_
                refine x_iload_n dX8_looks_98 rfl ?_
                refine x_rput (up (up a22 36 (nI ((dgS t m)))) 37 (nI ((allS (hdD S lf jf K N W t m (prS (decide (rr = 1)) m) D) n n)))) tw22 f_X8_329 Rw25 (by decide) rfl (fun c => ⟨rfl, rfl⟩) dX8_looks_99 (fun sw26 Rw26 => ?_)
                exact x_vret ⟨Nat.le_refl _, Nat.le_refl _⟩ rfl dX8_looks_102 ⟨rfl, _, _, _, Rw26, (((((FrQ.rf.up (by omega)).tr A5.Q).tr A22.Q).up (by omega)).up (by omega)), (Fb.rf.tr B22), by rw [lkV, if_neg (by decide), if_neg (by rw [hv4]; decide), glS, if_neg (show ¬ ((q.1 + nI 1).toInt = 1 ∨ q.2.2.1.toInt < (allJ (fun x y => gdI S jf K N W D (t.getD x 0) (t.getD y 0) x m) (bsB rr m) m m).toInt) by omega), clV, if_pos ⟨hv21, by omega⟩]; exact ⟨((A22 33 (by omega)).trans ((A5 33 (by omega)).trans rfl)), ((A22 34 (by omega)).trans ((A5 34 (by omega)).trans c34)), ((A22 35 (by omega)).trans ((A5 35 (by omega)).trans c35)), rfl, rfl⟩⟩
              · refine x_iload_n dX8_looks_81 rfl ?_
                refine x_aload_n dX8_looks_82 rfl ?_
                refine x_rget (v := .int q.2.2.2.2) f_X8_329 R22 (rg ((A22 37 (by omega)).trans ((A5 37 (by omega)).trans c37))) dX8_looks_83 ?_
                refine x_icmpT_ge (p := (((allS (hdD S lf jf K N W t m (prS (decide (rr = 1)) m) D) n n) : Nat) : Int)) (q := (q.2.2.2.2).toInt) (tgt := 102) (nI_toInt (by omega)) rfl dX8_looks_86 (by decide) (fun hv27 => ?_) (fun hv27 => ?_)
                · exact x_vret ⟨Nat.le_refl _, Nat.le_refl _⟩ rfl dX8_looks_102 ⟨rfl, _, _, _, R22, (((FrQ.rf.up (by omega)).tr A5.Q).tr A22.Q), (Fb.rf.tr B22), by rw [lkV, if_neg (by decide), if_neg (by rw [hv4]; decide), glS, if_neg (show ¬ ((q.1 + nI 1).toInt = 1 ∨ q.2.2.1.toInt < (allJ (fun x y => gdI S jf K N W D (t.getD x 0) (t.getD y 0) x m) (bsB rr m) m m).toInt) by omega), clV, if_neg (fun z => by have z2 := z.2; omega)]; exact ⟨((A22 33 (by omega)).trans ((A5 33 (by omega)).trans rfl)), ((A22 34 (by omega)).trans ((A5 34 (by omega)).trans c34)), ((A22 35 (by omega)).trans ((A5 35 (by omega)).trans c35)), ((A22 36 (by omega)).trans ((A5 36 (by omega)).trans c36)), ((A22 37 (by omega)).trans ((A5 37 (by omega)).trans c37))⟩⟩
                · refine x_aload_n dX8_looks_89 rfl ?_
                  refine x_aload_n dX8_looks_90 rfl ?_
                  refine x_callV m_X8_digits l_X8_338 (r_digs9 R22 (hW.frq (((FrQ.rf.up (by omega)).tr A5.Q).tr A22.Q) (Fb.rf.tr B22))) rfl R22.2.1 (by omega) rfl rfl (Nat.le_of_ble_eq_true rfl) ⟨Nat.le_refl _, Nat.le_refl _⟩ dX8_looks_91 (fun r28 s28 q28 => ?_)
                  obtain ⟨rfl, eq28⟩ := q28
                  obtain rfl := eq28.symm
                  refine x_stk (st' := [.int (nI ((dgS t m))), .ref 1000]) rfl ?_
                  refine x_rput (up a22 36 (nI ((dgS t m)))) tw22 f_X8_326 R22 (by decide) rfl (fun c => ⟨rfl, rfl⟩) dX8_looks_94 (fun sw29 Rw29 => ?_)
                  refine x_aload_n dX8_looks_97 rfl ?_
                  refine x_iload_n dX8_looks_98 rfl ?_
                  refine x_rput (up (up a22 36 (nI ((dgS t m)))) 37 (nI ((allS (hdD S lf jf K N W t m (prS (decide (rr = 1)) m) D) n n)))) tw22 f_X8_329 Rw29 (by decide) rfl (fun c => ⟨rfl, rfl⟩) dX8_looks_99 (fun sw30 Rw30 => ?_)
                  exact x_vret ⟨Nat.le_refl _, Nat.le_refl _⟩ rfl dX8_looks_102 ⟨rfl, _, _, _, Rw30, (((((FrQ.rf.up (by omega)).tr A5.Q).tr A22.Q).up (by omega)).up (by omega)), (Fb.rf.tr B22), by rw [lkV, if_neg (by decide), if_neg (by rw [hv4]; decide), glS, if_neg (show ¬ ((q.1 + nI 1).toInt = 1 ∨ q.2.2.1.toInt < (allJ (fun x y => gdI S jf K N W D (t.getD x 0) (t.getD y 0) x m) (bsB rr m) m m).toInt) by omega), clV, if_pos ⟨hv21, by omega⟩]; exact ⟨((A22 33 (by omega)).trans ((A5 33 (by omega)).trans rfl)), ((A22 34 (by omega)).trans ((A5 34 (by omega)).trans c34)), ((A22 35 (by omega)).trans ((A5 35 (by omega)).trans c35)), rfl, rfl⟩⟩
          · refine x_aload_n dX8_looks_48 rfl ?_
            refine x_aload_n dX8_looks_49 rfl ?_
            refine x_callV m_X8_digits l_X8_338 (r_digs9 R5 (hW.frq ((FrQ.rf.up (by omega)).tr A5.Q) Fb.rf)) rfl R5.2.1 (by omega) rfl rfl (Nat.le_of_ble_eq_true rfl) ⟨Nat.le_refl _, Nat.le_refl _⟩ dX8_looks_50 (fun r31 s31 q31 => ?_)
            obtain ⟨rfl, eq31⟩ := q31
            obtain rfl := eq31.symm
            refine x_stk (st' := [.int (nI ((dgS t m))), .ref 1000]) rfl ?_
            refine x_rput (up a5 34 (nI ((dgS t m)))) tw5 f_X8_320 R5 (by decide) rfl (fun c => ⟨rfl, rfl⟩) dX8_looks_53 (fun sw32 Rw32 => ?_)
            refine x_aload_n dX8_looks_56 rfl ?_
            refine x_iload_n dX8_looks_57 rfl ?_
            refine x_rput (up (up a5 34 (nI ((dgS t m)))) 35 ((allJ (fun x y => gdI S jf K N W D (t.getD x 0) (t.getD y 0) x m) (bsB rr m) m m))) tw5 f_X8_323 Rw32 (by decide) rfl (fun c => ⟨rfl, rfl⟩) dX8_looks_58 (fun sw33 Rw33 => ?_)
            refine x_aload_n dX8_looks_61 rfl ?_
            refine x_rget (v := .int (bI wo)) f_X8_335 Rw33 (rg ((A5 39 (by omega)).trans c39)) dX8_looks_62 ?_
            refine x_ifB_eq (tgt := 102) dX8_looks_65 (by decide) (fun hv34 => ?_) (fun hv34 => ?_)
            · exact x_vret ⟨Nat.le_refl _, Nat.le_refl _⟩ rfl dX8_looks_102 ⟨rfl, _, _, _, Rw33, ((((FrQ.rf.up (by omega)).tr A5.Q).up (by omega)).up (by omega)), Fb.rf, by rw [lkV, if_neg (by decide), if_neg (by rw [hv4]; decide), glS, if_pos (show ((q.1 + nI 1).toInt = 1 ∨ q.2.2.1.toInt < (allJ (fun x y => gdI S jf K N W D (t.getD x 0) (t.getD y 0) x m) (bsB rr m) m m).toInt) by omega), clV, if_neg (fun z => absurd z.1 (by rw [hv34]; decide))]; exact ⟨((A5 33 (by omega)).trans rfl), rfl, rfl, ((A5 36 (by omega)).trans c36), ((A5 37 (by omega)).trans c37)⟩⟩
            · refine x_aload_n dX8_looks_68 rfl ?_
              refine x_callV m_X8_owedBehind l_X8_314 (r_owedBehind Rw33 (hW.frq ((((FrQ.rf.up (by omega)).tr A5.Q).up (by omega)).up (by omega)) Fb.rf)) rfl Rw33.2.1 (by omega) rfl rfl (Nat.le_of_ble_eq_true rfl) ⟨Nat.le_refl _, Nat.le_refl _⟩ dX8_looks_69 (fun r35 s35 q35 => ?_)
              obtain ⟨a35, tw35, b35, rfl, R35, A35, B35⟩ := q35
              have ho35 := allS_le (hdD_ok (S := S) (lf := lf) (jf := jf) (K := K) (N := N) (W := W) (t := t) (m := m) hW.D9 (prS (decide (rr = 1)) m)).2 hn7 n
              refine x_stk (st' := [.int (nI ((allS (hdD S lf jf K N W t m (prS (decide (rr = 1)) m) D) n n)))]) rfl ?_
              refine x_istore_n dX8_looks_72 (by decide) rfl ?_
              refine x_lv (lv' := [some (.ref 1000), some (.int ((allJ (fun x y => gdI S jf K N W D (t.getD x 0) (t.getD y 0) x m) (bsB rr m) m m))), some (.int (nI ((allS (hdD S lf jf K N W t m (prS (decide (rr = 1)) m) D) n n))))]) rfl ?_
              refine x_aload_n dX8_looks_73 rfl ?_
              refine x_rget (v := .int q.2.2.2.2) f_X8_329 R35 (rg ((A35 37 (by omega)).trans ((A5 37 (by omega)).trans c37))) dX8_looks_74 ?_
              refine x_iconst (v := (-1)) dX8_looks_77 (by decide) ?_
              refine x_icmpT_eq (p := (q.2.2.2.2).toInt) (q := (-1)) (tgt := 89) rfl (by decide) dX8_looks_78 (by decide) (fun hv36 => ?_) (fun hv36 => ?_)
              · refine x_aload_n dX8_looks_89 rfl ?_
                refine x_aload_n dX8_looks_90 rfl ?_
                refine x_callV m_X8_digits l_X8_338 (r_digs9 R35 (hW.frq (((((FrQ.rf.up (by omega)).tr A5.Q).up (by omega)).up (by omega)).tr A35.Q) (Fb.rf.tr B35))) rfl R35.2.1 (by omega) rfl rfl (Nat.le_of_ble_eq_true rfl) ⟨Nat.le_refl _, Nat.le_refl _⟩ dX8_looks_91 (fun r37 s37 q37 => ?_)
                obtain ⟨rfl, eq37⟩ := q37
                obtain rfl := eq37.symm
                refine x_stk (st' := [.int (nI ((dgS t m))), .ref 1000]) rfl ?_
                refine x_rput (up a35 36 (nI ((dgS t m)))) tw35 f_X8_326 R35 (by decide) rfl (fun c => ⟨rfl, rfl⟩) dX8_looks_94 (fun sw38 Rw38 => ?_)
                refine x_aload_n dX8_looks_97 rfl ?_
                refine x_iload_n dX8_looks_98 rfl ?_
                refine x_rput (up (up a35 36 (nI ((dgS t m)))) 37 (nI ((allS (hdD S lf jf K N W t m (prS (decide (rr = 1)) m) D) n n)))) tw35 f_X8_329 Rw38 (by decide) rfl (fun c => ⟨rfl, rfl⟩) dX8_looks_99 (fun sw39 Rw39 => ?_)
                exact x_vret ⟨Nat.le_refl _, Nat.le_refl _⟩ rfl dX8_looks_102 ⟨rfl, _, _, _, Rw39, (((((((FrQ.rf.up (by omega)).tr A5.Q).up (by omega)).up (by omega)).tr A35.Q).up (by omega)).up (by omega)), (Fb.rf.tr B35), by rw [lkV, if_neg (by decide), if_neg (by rw [hv4]; decide), glS, if_pos (show ((q.1 + nI 1).toInt = 1 ∨ q.2.2.1.toInt < (allJ (fun x y => gdI S jf K N W D (t.getD x 0) (t.getD y 0) x m) (bsB rr m) m m).toInt) by omega), clV, if_pos ⟨hv34, by omega⟩]; exact ⟨((A35 33 (by omega)).trans ((A5 33 (by omega)).trans rfl)), ((A35 34 (by omega)).trans rfl), ((A35 35 (by omega)).trans rfl), rfl, rfl⟩⟩
              · refine x_iload_n dX8_looks_81 rfl ?_
                refine x_aload_n dX8_looks_82 rfl ?_
                refine x_rget (v := .int q.2.2.2.2) f_X8_329 R35 (rg ((A35 37 (by omega)).trans ((A5 37 (by omega)).trans c37))) dX8_looks_83 ?_
                refine x_icmpT_ge (p := (((allS (hdD S lf jf K N W t m (prS (decide (rr = 1)) m) D) n n) : Nat) : Int)) (q := (q.2.2.2.2).toInt) (tgt := 102) (nI_toInt (by omega)) rfl dX8_looks_86 (by decide) (fun hv40 => ?_) (fun hv40 => ?_)
                · exact x_vret ⟨Nat.le_refl _, Nat.le_refl _⟩ rfl dX8_looks_102 ⟨rfl, _, _, _, R35, (((((FrQ.rf.up (by omega)).tr A5.Q).up (by omega)).up (by omega)).tr A35.Q), (Fb.rf.tr B35), by rw [lkV, if_neg (by decide), if_neg (by rw [hv4]; decide), glS, if_pos (show ((q.1 + nI 1).toInt = 1 ∨ q.2.2.1.toInt < (allJ (fun x y => gdI S jf K N W D (t.getD x 0) (t.getD y 0) x m) (bsB rr m) m m).toInt) by omega), clV, if_neg (fun z => by have z2 := z.2; omega)]; exact ⟨((A35 33 (by omega)).trans ((A5 33 (by omega)).trans rfl)), ((A35 34 (by omega)).trans rfl), ((A35 35 (by omega)).trans rfl), ((A35 36 (by omega)).trans ((A5 36 (by omega)).trans c36)), ((A35 37 (by omega)).trans ((A5 37 (by omega)).trans c37))⟩⟩
                · refine x_aload_n dX8_looks_89 rfl ?_
                  refine x_aload_n dX8_looks_90 rfl ?_
                  refine x_callV m_X8_digits l_X8_338 (r_digs9 R35 (hW.frq (((((FrQ.rf.up (by omega)).tr A5.Q).up (by omega)).up (by omega)).tr A35.Q) (Fb.rf.tr B35))) rfl R35.2.1 (by omega) rfl rfl (Nat.le_of_ble_eq_true rfl) ⟨Nat.le_refl _, Nat.le_refl _⟩ dX8_looks_91 (fun r41 s41 q41 => ?_)
                  obtain ⟨rfl, eq41⟩ := q41
                  obtain rfl := eq41.symm
                  refine x_stk (st' := [.int (nI ((dgS t m))), .ref 1000]) rfl ?_
                  refine x_rput (up a35 36 (nI ((dgS t m)))) tw35 f_X8_326 R35 (by decide) rfl (fun c => ⟨rfl, rfl⟩) dX8_looks_94 (fun sw42 Rw42 => ?_)
                  refine x_aload_n dX8_looks_97 rfl ?_
                  refine x_iload_n dX8_looks_98 rfl ?_
                  refine x_rput (up (up a35 36 (nI ((dgS t m)))) 37 (nI ((allS (hdD S lf jf K N W t m (prS (decide (rr = 1)) m) D) n n)))) tw35 f_X8_329 Rw42 (by decide) rfl (fun c => ⟨rfl, rfl⟩) dX8_looks_99 (fun sw43 Rw43 => ?_)
                  exact x_vret ⟨Nat.le_refl _, Nat.le_refl _⟩ rfl dX8_looks_102 ⟨rfl, _, _, _, Rw43, (((((((FrQ.rf.up (by omega)).tr A5.Q).up (by omega)).up (by omega)).tr A35.Q).up (by omega)).up (by omega)), (Fb.rf.tr B35), by rw [lkV, if_neg (by decide), if_neg (by rw [hv4]; decide), glS, if_pos (show ((q.1 + nI 1).toInt = 1 ∨ q.2.2.1.toInt < (allJ (fun x y => gdI S jf K N W D (t.getD x 0) (t.getD y 0) x m) (bsB rr m) m m).toInt) by omega), clV, if_pos ⟨hv34, by omega⟩]; exact ⟨((A35 33 (by omega)).trans ((A5 33 (by omega)).trans rfl)), ((A35 34 (by omega)).trans rfl), ((A35 35 (by omega)).trans rfl), rfl, rfl⟩⟩
      · exact x_vret ⟨Nat.le_refl _, Nat.le_refl _⟩ rfl dX8_looks_26 ⟨rfl, _, _, _, Rw3, (FrQ.rf.up (by omega)), Fb.rf, by rw [lkV, if_neg (by decide), if_pos hv4]; exact ⟨rfl, c34, c35, c36, c37⟩⟩
    · exact absurd rfl hv2
  · have hc9 := (ffrom_lt _ _ hu9).2.1
    refine x_stk (st' := [.int (-1), .int (nI c9)]) rfl ?_
    refine x_icmpT_eq (p := ((c9 : Nat) : Int)) (q := (-1)) (tgt := 9) (nI_toInt (by omega)) (by decide) dX8_looks_5 (by decide) (fun hv44 => ?_) (fun hv44 => ?_)
    · exact absurd hv44 (by omega)
    · exact x_vret ⟨Nat.le_refl _, Nat.le_refl _⟩ rfl dX8_looks_8 ⟨rfl, _, _, _, hR, FrQ.rf, Fb.rf, by exact ⟨c33, c34, c35, c36, c37⟩⟩
set_option maxHeartbeats 4000000 in
theorem lr_seeks {σ0 : ZS} {rr n : Nat} {K N : List Nat} {W : List Int32} {D : List Nat} {fr : Int32} {ru : Nat} {L S : List Nat} {lf jf m : Nat} {oo wo : Bool} {a0 : Nat → Int32} {b0 : Nat → List Int32} {f x A : Nat} {t : List Nat} (hA8 : A < 128) (hpc : popc A = f + 1) (hxf : x + (f + 1) = m) (hbits : ∀ p, A.testBit p = true → p < n) (ht : T7 t) (hTn : ∀ i, i < x → t.getD i 0 < n) (IH : ∀ (x A : Nat) (t : List Nat) (q : Q5T) (a : Nat → Int32) (tw : Int64) (b : Nat → List Int32) (σ : ZS), popc A = f → x + f = m → A < 128 → (∀ p, A.testBit p = true → p < n) → RM σ0 σ a tw b → SW a b rr n K N W D fr ru L S lf jf m oo wo → Q5 a q → PT x (b 7) t → T7 t → (∀ i, i < x → t.getD i 0 < n) → Cn (f + 170) M_X8_seeks 0 0 [.ref 1000, .int (nI x), .int (nI A)] σ (fun r9 σ' => r9 = none ∧ ∃ (a' : Nat → Int32) (tw' : Int64) (b' : Nat → List Int32), RM σ0 σ' a' tw' b' ∧ FrQ a a' ∧ Fq b b' ∧ PT x (b' 7) t ∧ Q5 a' (skS n (decide (rr = 1)) oo (fun (t : List Nat) (q : Q5T) => lkV (ffrom (fun s => !rfB rr m t (wlS K N D n (setS t m) fr) s) m 0).isSome (allJ (fun x y => gdI S jf K N W D (t.getD x 0) (t.getD y 0) x m) (bsB rr m) m m) (dgS t m) (allS (hdD S lf jf K N W t m (prS (decide (rr = 1)) m) D) n n) oo wo q) f x A t q))) {d : Nat} (hd : f + 1 + 170 ≤ d) : ∀ (c k : Nat) (q : Q5T) (a : Nat → Int32) (tw : Int64) (b : Nat → List Int32) (σ : ZS) (hR : RM σ0 σ a tw b) (hS : SW a b rr n K N W D fr ru L S lf jf m oo wo) (hq : Q5 a q) (hP : PT x (b 7) t) (hA : FrQ a0 a) (hB : Fq b0 b), k + c = n → X M_X8_seeks d 0 0 (fun r9 σ' => r9 = none ∧ ∃ (a' : Nat → Int32) (tw' : Int64) (b' : Nat → List Int32), RM σ0 σ' a' tw' b' ∧ FrQ a0 a' ∧ Fq b0 b' ∧ PT x (b' 7) t ∧ Q5 a' (skL (fun p q => skS n (decide (rr = 1)) oo (fun (t : List Nat) (q : Q5T) => lkV (ffrom (fun s => !rfB rr m t (wlS K N D n (setS t m) fr) s) m 0).isSome (allJ (fun x y => gdI S jf K N W D (t.getD x 0) (t.getD y 0) x m) (bsB rr m) m m) (dgS t m) (allS (hdD S lf jf K N W t m (prS (decide (rr = 1)) m) D) n n) oo wo q) f (x + 1) (A &&& (2 ^ p ^^^ 127)) (t.set x p) q) A (decide (x = 0) && decide (rr = 1)) c k q)) 0 0 26 [some (.ref 1000), some (.int (nI x)), some (.int (nI A)), some (.int (nI k))] [] σ := by
  intro c
  induction c with
  | zero =>
    intro k q a tw b σ hR hS hq hP hA hB hk
    obtain ⟨hC, hT, c31, hm, c38, c39⟩ := id hS
    obtain ⟨c7, hrr, c13, hn7, -⟩ := id hC
    obtain ⟨c33, c34, c35, c36, c37⟩ := id hq
    refine x_iload_n dX8_seeks_26 rfl ?_
    refine x_aload_n dX8_seeks_27 rfl ?_
    refine x_rget (v := .int (nI n)) f_X8_82 hR (rg c13) dX8_seeks_28 ?_
    refine x_icmpN_ge (tgt := 83) dX8_seeks_31 (by decide) (by omega) (by omega) (fun hv1 => ?_) (fun hv1 => ?_)
    · exact x_vret ⟨Nat.le_refl _, Nat.le_refl _⟩ rfl dX8_seeks_83 ⟨rfl, a, tw, b, hR, hA, hB, hP, hq⟩
    · exact absurd hv1 (by omega)
  | succ c ih =>
    intro k q a tw b σ hR hS hq hP hA hB hk
    obtain ⟨hC, hT, c31, hm, c38, c39⟩ := id hS
    obtain ⟨c7, hrr, c13, hn7, -⟩ := id hC
    obtain ⟨c33, c34, c35, c36, c37⟩ := id hq
    refine x_iload_n dX8_seeks_26 rfl ?_
    refine x_aload_n dX8_seeks_27 rfl ?_
    refine x_rget (v := .int (nI n)) f_X8_82 hR (rg c13) dX8_seeks_28 ?_
    refine x_icmpN_ge (tgt := 83) dX8_seeks_31 (by decide) (by omega) (by omega) (fun hv1 => ?_) (fun hv1 => ?_)
    · exact absurd hv1 (by omega)
    · refine x_iload_n dX8_seeks_34 rfl ?_
      refine x_iload_n dX8_seeks_35 rfl ?_
      refine x_ishr dX8_seeks_36 ?_
      refine x_iconst (v := nI 1) dX8_seeks_37 (by decide) ?_
      refine x_iand dX8_seeks_38 ?_
      refine x_topi (y := nI ((A / 2 ^ k % 2))) (z_bit (by omega) (by omega)) ?_
      refine x_iconst (v := nI 1) dX8_seeks_39 (by decide) ?_
      refine x_icmpN_ne (tgt := 77) dX8_seeks_40 (by decide) (by omega) (by omega) (fun hv2 => ?_) (fun hv2 => ?_)
      · refine x_iincN dX8_seeks_77 rfl (by decide) rfl ?_
        refine x_lv (lv' := [some (.ref 1000), some (.int (nI x)), some (.int (nI A)), some (.int (nI (k + 1)))]) rfl ?_
        refine x_goto (tgt := 26) dX8_seeks_80 (by decide) ?_
        rw [skL, if_neg (by rw [tb_dm]; exact fun z => hv2 (of_decide_eq_true z))]
        exact ih (k + 1) q a tw b σ hR hS hq hP hA hB (by omega)
      · have hbit : A.testBit k = true := by rw [tb_dm]; exact decide_eq_true hv2
        refine x_aload_n dX8_seeks_43 rfl ?_
        refine x_rget f_X8_41 hR rfl dX8_seeks_44 ?_
        refine x_iload_n dX8_seeks_47 rfl ?_
        refine x_iload_n dX8_seeks_48 rfl ?_
        refine x_rast (j := 7) (n := x) hR rfl (by decide) rfl rfl (rlt hR (m := 7) (by decide) rfl (by omega)) dX8_seeks_49 (fun sw3 Rw3 => ?_)
        refine x_aload_n dX8_seeks_50 rfl ?_
        refine x_iload_n dX8_seeks_51 rfl ?_
        refine x_iconst (v := nI 1) dX8_seeks_52 (by decide) ?_
        refine x_iaddN dX8_seeks_53 ?_
        refine x_iload_n dX8_seeks_54 rfl ?_
        refine x_iconst (v := nI 1) dX8_seeks_55 (by decide) ?_
        refine x_iload_n dX8_seeks_56 rfl ?_
        refine x_ishl dX8_seeks_57 ?_
        refine x_topi (y := nI (2 ^ k)) (z_shl1 (by omega)) ?_
        refine x_iconst (v := (-1)) dX8_seeks_58 (by decide) ?_
        refine x_ixor dX8_seeks_59 ?_
        refine x_iand dX8_seeks_60 ?_
        refine x_topi (y := nI ((A &&& (2 ^ k ^^^ 127)))) (andA hA8 (p128 _ (by omega))) ?_
        refine x_callV m_X8_seeks l_X8_344 (IH (x + 1) (A &&& (2 ^ k ^^^ 127)) (t.set x k) q a tw (up b 7 ((b 7).set x (nI k))) sw3 (by have := popc_rm A hA8 k (by omega) hbit; omega) (by omega) (and128 hA8) (fun p hp => hbits p (bit_rm hp)) Rw3 (hS.fr FrQ.rf (Fq.rf.up)) hq (hP.set (rlt hR (m := 7) (by decide) rfl (by omega)) (by rw [ht.1]; omega)) (ht.set (by omega)) (fun i hi => by rw [getD_set]; split <;> first | omega | exact hTn i (by have h9 := ht.1; omega))) rfl Rw3.2.1 (by omega) rfl rfl (Nat.le_of_ble_eq_true rfl) ⟨Nat.le_refl _, Nat.le_refl _⟩ dX8_seeks_61 (fun r4 s4 q4 => ?_)
        obtain ⟨rfl, a4, tw4, b4, R4, A4, B4, P4, hq4⟩ := q4
        have hS4 := (hS.fr FrQ.rf (Fq.rf.up (l := (b 7).set x (nI k)))).fr A4 B4
        obtain ⟨hC4, hT4, c314, hm4, c384, c394⟩ := id hS4
        obtain ⟨c74, hrr4, c134, hn74, -⟩ := id hC4
        obtain ⟨c334, c344, c354, c364, c374⟩ := id hq4
        have hB4 : Fq b0 b4 := (hB.up (l := (b 7).set x (nI k))).tr B4
        have hA4 := hA.tr A4
        have hP4 : PT x (b4 7) t := fun i hi => by rw [P4 i (by omega), getD_set, if_neg (by omega)]
        refine x_stk (st' := []) rfl ?_
        refine x_iload_n dX8_seeks_64 rfl ?_
        refine x_ifN_ne (tgt := 77) dX8_seeks_65 (by decide) (by omega) (fun hv5 => ?_) (fun hv5 => ?_)
        · refine x_iincN dX8_seeks_77 rfl (by decide) rfl ?_
          refine x_lv (lv' := [some (.ref 1000), some (.int (nI x)), some (.int (nI A)), some (.int (nI (k + 1)))]) rfl ?_
          refine x_goto (tgt := 26) dX8_seeks_80 (by decide) ?_
          rw [skL, if_pos hbit, if_neg (by rw [Bool.and_eq_true, decide_eq_true_iff, decide_eq_true_iff]; omega)]
          exact ih (k + 1) _ a4 tw4 b4 s4 R4 hS4 hq4 hP4 hA4 hB4 (by omega)
        · refine x_aload_n dX8_seeks_68 rfl ?_
          refine x_rget (v := .int (nI rr)) f_X8_23 R4 (rg c74) dX8_seeks_69 ?_
          refine x_iconst (v := nI 1) dX8_seeks_72 (by decide) ?_
          refine x_icmpN_ne (tgt := 77) dX8_seeks_73 (by decide) (by omega) (by omega) (fun hv6 => ?_) (fun hv6 => ?_)
          · refine x_iincN dX8_seeks_77 rfl (by decide) rfl ?_
            refine x_lv (lv' := [some (.ref 1000), some (.int (nI x)), some (.int (nI A)), some (.int (nI (k + 1)))]) rfl ?_
            refine x_goto (tgt := 26) dX8_seeks_80 (by decide) ?_
            rw [skL, if_pos hbit, if_neg (by rw [Bool.and_eq_true, decide_eq_true_iff, decide_eq_true_iff]; omega)]
            exact ih (k + 1) _ a4 tw4 b4 s4 R4 hS4 hq4 hP4 hA4 hB4 (by omega)
          · exact x_vret ⟨Nat.le_refl _, Nat.le_refl _⟩ rfl dX8_seeks_76 ⟨rfl, _, _, _, R4, hA4, hB4, hP4, by rw [skL, if_pos hbit, if_pos (by rw [Bool.and_eq_true, decide_eq_true_iff, decide_eq_true_iff]; omega)]; exact hq4⟩
set_option maxHeartbeats 4000000 in
theorem r_seeks {σ0 : ZS} {rr n : Nat} {K N : List Nat} {W : List Int32} {D : List Nat} {fr : Int32} {ru : Nat} {L S : List Nat} {lf jf m : Nat} {oo wo : Bool} : ∀ (f : Nat), ∀ (x A : Nat) (t : List Nat) (q : Q5T) (a : Nat → Int32) (tw : Int64) (b : Nat → List Int32) (σ : ZS), popc A = f → x + f = m → A < 128 → (∀ p, A.testBit p = true → p < n) → RM σ0 σ a tw b → SW a b rr n K N W D fr ru L S lf jf m oo wo → Q5 a q → PT x (b 7) t → T7 t → (∀ i, i < x → t.getD i 0 < n) → Cn (f + 170) M_X8_seeks 0 0 [.ref 1000, .int (nI x), .int (nI A)] σ (fun r9 σ' => r9 = none ∧ ∃ (a' : Nat → Int32) (tw' : Int64) (b' : Nat → List Int32), RM σ0 σ' a' tw' b' ∧ FrQ a a' ∧ Fq b b' ∧ PT x (b' 7) t ∧ Q5 a' (skS n (decide (rr = 1)) oo (fun (t : List Nat) (q : Q5T) => lkV (ffrom (fun s => !rfB rr m t (wlS K N D n (setS t m) fr) s) m 0).isSome (allJ (fun x y => gdI S jf K N W D (t.getD x 0) (t.getD y 0) x m) (bsB rr m) m m) (dgS t m) (allS (hdD S lf jf K N W t m (prS (decide (rr = 1)) m) D) n n) oo wo q) f x A t q)) := by
  intro f
  induction f with
  | zero =>
    intro x A t q a tw b σ hpc hxf hA8 hbits hR hS hq hP ht hTn
    obtain ⟨hC, hT, c31, hm, c38, c39⟩ := id hS
    obtain ⟨c7, hrr, c13, hn7, -⟩ := id hC
    obtain ⟨c33, c34, c35, c36, c37⟩ := id hq
    obtain rfl := popc_0 A hA8 hpc
    obtain rfl : x = m := by omega
    refine Cn.intro (lv0 := [some (.ref 1000), some (.int (nI x)), some (.int (nI 0)), none]) rfl (Nat.le_of_ble_eq_true rfl) rfl (fun d hd => ?_)
    refine x_iload_n dX8_seeks_0 rfl ?_
    refine x_ifN_ne (tgt := 9) dX8_seeks_1 (by decide) (by omega) (fun hv1 => ?_) (fun hv1 => ?_)
    · exact absurd hv1 (by omega)
    · refine x_aload_n dX8_seeks_4 rfl ?_
      refine x_callV m_X8_looks l_X8_341 (r_looks hR hS hq hP ht hTn) rfl hR.2.1 (by omega) rfl rfl (Nat.le_of_ble_eq_true rfl) ⟨Nat.le_refl _, Nat.le_refl _⟩ dX8_seeks_5 (fun r2 s2 q2 => ?_)
      obtain ⟨rfl, a2, tw2, b2, R2, A2, B2, hq2⟩ := q2
      refine x_stk (st' := []) rfl ?_
      exact x_vret ⟨Nat.le_refl _, Nat.le_refl _⟩ rfl dX8_seeks_8 ⟨rfl, _, _, _, R2, A2, B2.q8, hP.fr B2, hq2⟩
  | succ f IH =>
    intro x A t q a tw b σ hpc hxf hA8 hbits hR hS hq hP ht hTn
    obtain ⟨hC, hT, c31, hm, c38, c39⟩ := id hS
    obtain ⟨c7, hrr, c13, hn7, -⟩ := id hC
    obtain ⟨c33, c34, c35, c36, c37⟩ := id hq
    have hA0 : A ≠ 0 := fun e => by rw [e, popc00] at hpc; exact absurd hpc (by omega)
    refine Cn.intro (lv0 := [some (.ref 1000), some (.int (nI x)), some (.int (nI A)), none]) rfl (Nat.le_of_ble_eq_true rfl) rfl (fun d hd => ?_)
    refine x_iload_n dX8_seeks_0 rfl ?_
    refine x_ifN_ne (tgt := 9) dX8_seeks_1 (by decide) (by omega) (fun hv1 => ?_) (fun hv1 => ?_)
    · refine x_aload_n dX8_seeks_9 rfl ?_
      refine x_rget (v := .int (bI oo)) f_X8_332 hR (rg c38) dX8_seeks_10 ?_
      refine x_ifB_eq (tgt := 24) dX8_seeks_13 (by decide) (fun hv2 => ?_) (fun hv2 => ?_)
      · refine x_iconst (v := nI 0) dX8_seeks_24 (by decide) ?_
        refine x_istore_n dX8_seeks_25 (by decide) rfl ?_
        refine x_lv (lv' := [some (.ref 1000), some (.int (nI x)), some (.int (nI A)), some (.int (nI 0))]) rfl ?_
        rw [skS, if_neg (fun z => absurd z.1 (by rw [hv2]; decide))]
        exact lr_seeks (f := f) (x := x) hA8 hpc hxf hbits ht hTn IH hd n 0 q a tw b σ hR hS hq hP FrQ.rf Fq.rf (by omega)
      · refine x_aload_n dX8_seeks_16 rfl ?_
        refine x_rget (v := .int q.1) f_X8_317 hR (rg c33) dX8_seeks_17 ?_
        refine x_ifT_le (p := (q.1).toInt) (tgt := 24) rfl dX8_seeks_20 (by decide) (fun hv3 => ?_) (fun hv3 => ?_)
        · refine x_iconst (v := nI 0) dX8_seeks_24 (by decide) ?_
          refine x_istore_n dX8_seeks_25 (by decide) rfl ?_
          refine x_lv (lv' := [some (.ref 1000), some (.int (nI x)), some (.int (nI A)), some (.int (nI 0))]) rfl ?_
          rw [skS, if_neg (fun z => by have z2 := z.2; omega)]
          exact lr_seeks (f := f) (x := x) hA8 hpc hxf hbits ht hTn IH hd n 0 q a tw b σ hR hS hq hP FrQ.rf Fq.rf (by omega)
        · exact x_vret ⟨Nat.le_refl _, Nat.le_refl _⟩ rfl dX8_seeks_23 ⟨rfl, a, tw, b, hR, FrQ.rf, Fq.rf, hP, by rw [skS, if_pos ⟨hv2, hv3⟩]; exact hq⟩
    · exact absurd hv1 hA0
