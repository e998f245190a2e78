/-! the class: tells -/
theorem popc_all : ∀ n, n < 8 → ∀ A, A < 2 ^ n → popc A = n → ∀ o, o < n → A.testBit o = true := by decide +kernel
set_option maxHeartbeats 4000000 in
theorem c_isTellable {σ : ZS} {tx ik : Int32} (k0 : zg σ 0 = some (.inr (.inr (6, [.ref 1, .ref 6, .ref 11, .ref 16, .ref 22, .ref 28, .ref 31, .int tx, .int ik])))) {rr dn ru n : Nat} {K N : List Nat} {W : List Int32} {D : List Nat} (h : Pa σ 1 (nI rr) (nI dn) (nI ru) n K N W D) {y w : Int32} {p : Int} (hy : y.toInt = p) : Cn 2 M_X7_isTellable 0 0 [.ref 0, .int y, .int w] σ (fun r9 σ' => r9 = some (.int (bI (decide ((0 ≤ w.toInt ∧ w.toInt ≤ 2) ∨ ((10 ≤ w.toInt ∧ w.toInt ≤ 29) ∧ (0 ≤ p ∧ p < (n : Int)) ∧ (0 ≤ (w - w / nI 10 * nI 10).toInt ∧ (w - w / nI 10 * nI 10).toInt < (n : Int)) ∧ ¬ p = (w - w / nI 10 * nI 10).toInt))))) ∧ σ' = σ) := by
  refine Cn.intro (lv0 := [some (.ref 0), some (.int y), some (.int w)]) rfl (Nat.le_of_ble_eq_true rfl) rfl (fun d hd => ?_)
  refine x_iload_n dX7_isTellable_0 rfl ?_
  refine x_iconst (v := nI 0) dX7_isTellable_1 (by decide) ?_
  refine x_iconst (v := nI 2) dX7_isTellable_2 (by decide) ?_
  refine x_callS m_X7_isWithin l_X7_72 (c_within (p := (w).toInt) (q := ((0 : Nat) : Int)) (r := ((2 : Nat) : Int)) rfl (nI_toInt (by omega)) (nI_toInt (by omega))) (by omega) rfl rfl (Nat.le_of_ble_eq_true rfl) ⟨Nat.le_refl _, Nat.le_refl _⟩ dX7_isTellable_3 (fun r1 s1 q1 => ?_)
  obtain ⟨rfl, eq1⟩ := q1
  obtain rfl := eq1.symm
  refine x_stk (st' := [.int (bI (decide (((0 : Nat) : Int) ≤ (w).toInt ∧ (w).toInt ≤ ((2 : Nat) : Int))))]) rfl ?_
  refine x_ifP_eq (P := ((0 : Nat) : Int) ≤ (w).toInt ∧ (w).toInt ≤ ((2 : Nat) : Int)) inferInstance (tgt := 11) dX7_isTellable_6 (by decide) (fun hv2 => ?_) (fun hv2 => ?_)
  · refine x_iload_n dX7_isTellable_11 rfl ?_
    refine x_bipush (v := nI 10) dX7_isTellable_12 (by decide) ?_
    refine x_bipush (v := nI 29) dX7_isTellable_14 (by decide) ?_
    refine x_callS m_X7_isWithin l_X7_72 (c_within (p := (w).toInt) (q := ((10 : Nat) : Int)) (r := ((29 : Nat) : Int)) rfl (nI_toInt (by omega)) (nI_toInt (by omega))) (by omega) rfl rfl (Nat.le_of_ble_eq_true rfl) ⟨Nat.le_refl _, Nat.le_refl _⟩ dX7_isTellable_16 (fun r3 s3 q3 => ?_)
    obtain ⟨rfl, eq3⟩ := q3
    obtain rfl := eq3.symm
    refine x_stk (st' := [.int (bI (decide (((10 : Nat) : Int) ≤ (w).toInt ∧ (w).toInt ≤ ((29 : Nat) : Int))))]) rfl ?_
    refine x_ifP_eq (P := ((10 : Nat) : Int) ≤ (w).toInt ∧ (w).toInt ≤ ((29 : Nat) : Int)) inferInstance (tgt := 41) dX7_isTellable_19 (by decide) (fun hv4 => ?_) (fun hv4 => ?_)
    · refine x_iconst (v := nI 0) dX7_isTellable_41 (by decide) ?_
      exact x_zret ⟨Nat.le_refl _, Nat.le_refl _⟩ rfl (by decide) dX7_isTellable_42 ⟨by rw [decide_eq_false (show ¬ ((0 ≤ w.toInt ∧ w.toInt ≤ 2) ∨ ((10 ≤ w.toInt ∧ w.toInt ≤ 29) ∧ (0 ≤ p ∧ p < (n : Int)) ∧ (0 ≤ (w - w / nI 10 * nI 10).toInt ∧ (w - w / nI 10 * nI 10).toInt < (n : Int)) ∧ ¬ p = (w - w / nI 10 * nI 10).toInt)) from fun q9 => by rcases q9 with z | z; exact hv2 z; exact hv4 z.1)]; rfl, rfl⟩
    · refine x_aload_n dX7_isTellable_22 rfl ?_
      refine x_get (v := .ref 1) f_X7_10 k0 rfl dX7_isTellable_23 ?_
      refine x_iload_n dX7_isTellable_26 rfl ?_
      refine x_iload_n dX7_isTellable_27 rfl ?_
      refine x_bipush (v := nI 10) dX7_isTellable_28 (by decide) ?_
      refine x_irem dX7_isTellable_30 (by decide) ?_
      refine x_callV m_X2_hasBoth l_X7_104 (c_bothP h (p := p) (q := ((w - w / nI 10 * nI 10)).toInt) hy rfl) rfl h.1 (by omega) rfl rfl (Nat.le_of_ble_eq_true rfl) ⟨Nat.le_refl _, Nat.le_refl _⟩ dX7_isTellable_31 (fun r5 s5 q5 => ?_)
      obtain ⟨rfl, eq5⟩ := q5
      obtain rfl := eq5.symm
      refine x_stk (st' := [.int (bI (decide ((0 ≤ p ∧ p < (n : Int)) ∧ (0 ≤ ((w - w / nI 10 * nI 10)).toInt ∧ ((w - w / nI 10 * nI 10)).toInt < (n : Int)) ∧ ¬ p = ((w - w / nI 10 * nI 10)).toInt)))]) rfl ?_
      refine x_ifP_eq (P := (0 ≤ p ∧ p < (n : Int)) ∧ (0 ≤ ((w - w / nI 10 * nI 10)).toInt ∧ ((w - w / nI 10 * nI 10)).toInt < (n : Int)) ∧ ¬ p = ((w - w / nI 10 * nI 10)).toInt) inferInstance (tgt := 41) dX7_isTellable_34 (by decide) (fun hv6 => ?_) (fun hv6 => ?_)
      · refine x_iconst (v := nI 0) dX7_isTellable_41 (by decide) ?_
        exact x_zret ⟨Nat.le_refl _, Nat.le_refl _⟩ rfl (by decide) dX7_isTellable_42 ⟨by rw [decide_eq_false (show ¬ ((0 ≤ w.toInt ∧ w.toInt ≤ 2) ∨ ((10 ≤ w.toInt ∧ w.toInt ≤ 29) ∧ (0 ≤ p ∧ p < (n : Int)) ∧ (0 ≤ (w - w / nI 10 * nI 10).toInt ∧ (w - w / nI 10 * nI 10).toInt < (n : Int)) ∧ ¬ p = (w - w / nI 10 * nI 10).toInt)) from fun q9 => by rcases q9 with z | z; exact hv2 z; exact hv6 z.2)]; rfl, rfl⟩
      · refine x_iconst (v := nI 1) dX7_isTellable_37 (by decide) ?_
        refine x_goto (tgt := 42) dX7_isTellable_38 (by decide) ?_
        exact x_zret ⟨Nat.le_refl _, Nat.le_refl _⟩ rfl (by decide) dX7_isTellable_42 ⟨by rw [decide_eq_true (Or.inr ⟨hv4, hv6⟩ : (0 ≤ w.toInt ∧ w.toInt ≤ 2) ∨ ((10 ≤ w.toInt ∧ w.toInt ≤ 29) ∧ (0 ≤ p ∧ p < (n : Int)) ∧ (0 ≤ (w - w / nI 10 * nI 10).toInt ∧ (w - w / nI 10 * nI 10).toInt < (n : Int)) ∧ ¬ p = (w - w / nI 10 * nI 10).toInt))]; rfl, rfl⟩
  · refine x_iconst (v := nI 1) dX7_isTellable_9 (by decide) ?_
    exact x_zret ⟨Nat.le_refl _, Nat.le_refl _⟩ rfl (by decide) dX7_isTellable_10 ⟨by rw [decide_eq_true (Or.inl hv2 : (0 ≤ w.toInt ∧ w.toInt ≤ 2) ∨ ((10 ≤ w.toInt ∧ w.toInt ≤ 29) ∧ (0 ≤ p ∧ p < (n : Int)) ∧ (0 ≤ (w - w / nI 10 * nI 10).toInt ∧ (w - w / nI 10 * nI 10).toInt < (n : Int)) ∧ ¬ p = (w - w / nI 10 * nI 10).toInt))]; rfl, rfl⟩
set_option maxHeartbeats 4000000 in
theorem c_isTellable_g {σ : ZS} {tx ik : Int32} (k0 : zg σ 0 = some (.inr (.inr (6, [.ref 1, .ref 6, .ref 11, .ref 16, .ref 22, .ref 28, .ref 31, .int tx, .int ik])))) {rr dn ru n : Nat} {K N : List Nat} {W : List Int32} {D : List Nat} (h : Pa σ 1 (nI rr) (nI dn) (nI ru) n K N W D) {o w : Nat} (ho : o < n) (hw : w ≤ 2 ∨ (10 ≤ w ∧ w < 30 ∧ w % 10 < n ∧ o ≠ w % 10)) : Cn 2 M_X7_isTellable 0 0 [.ref 0, .int (nI o), .int (nI w)] σ (fun r9 σ' => r9 = some (.int (nI 1)) ∧ σ' = σ) := by
  have hn7 := h.2.2.2.2.2.1
  refine Cn.intro (lv0 := [some (.ref 0), some (.int (nI o)), some (.int (nI w))]) rfl (Nat.le_of_ble_eq_true rfl) rfl (fun d hd => ?_)
  refine x_iload_n dX7_isTellable_0 rfl ?_
  refine x_iconst (v := nI 0) dX7_isTellable_1 (by decide) ?_
  refine x_iconst (v := nI 2) dX7_isTellable_2 (by decide) ?_
  refine x_callS m_X7_isWithin l_X7_72 (c_within (p := ((w : Nat) : Int)) (q := ((0 : Nat) : Int)) (r := ((2 : Nat) : Int)) (nI_toInt (by omega)) (nI_toInt (by omega)) (nI_toInt (by omega))) (by omega) rfl rfl (Nat.le_of_ble_eq_true rfl) ⟨Nat.le_refl _, Nat.le_refl _⟩ dX7_isTellable_3 (fun r1 s1 q1 => ?_)
  obtain ⟨rfl, eq1⟩ := q1
  obtain rfl := eq1.symm
  refine x_stk (st' := [.int (bI (decide (((0 : Nat) : Int) ≤ ((w : Nat) : Int) ∧ ((w : Nat) : Int) ≤ ((2 : Nat) : Int))))]) rfl ?_
  refine x_ifP_eq (P := ((0 : Nat) : Int) ≤ ((w : Nat) : Int) ∧ ((w : Nat) : Int) ≤ ((2 : Nat) : Int)) inferInstance (tgt := 11) dX7_isTellable_6 (by decide) (fun hv2 => ?_) (fun hv2 => ?_)
  · refine x_iload_n dX7_isTellable_11 rfl ?_
    refine x_bipush (v := nI 10) dX7_isTellable_12 (by decide) ?_
    refine x_bipush (v := nI 29) dX7_isTellable_14 (by decide) ?_
    refine x_callS m_X7_isWithin l_X7_72 (c_within (p := ((w : Nat) : Int)) (q := ((10 : Nat) : Int)) (r := ((29 : Nat) : Int)) (nI_toInt (by omega)) (nI_toInt (by omega)) (nI_toInt (by omega))) (by omega) rfl rfl (Nat.le_of_ble_eq_true rfl) ⟨Nat.le_refl _, Nat.le_refl _⟩ dX7_isTellable_16 (fun r3 s3 q3 => ?_)
    obtain ⟨rfl, eq3⟩ := q3
    obtain rfl := eq3.symm
    refine x_stk (st' := [.int (bI (decide (((10 : Nat) : Int) ≤ ((w : Nat) : Int) ∧ ((w : Nat) : Int) ≤ ((29 : Nat) : Int))))]) rfl ?_
    refine x_ifP_eq (P := ((10 : Nat) : Int) ≤ ((w : Nat) : Int) ∧ ((w : Nat) : Int) ≤ ((29 : Nat) : Int)) inferInstance (tgt := 41) dX7_isTellable_19 (by decide) (fun hv4 => ?_) (fun hv4 => ?_)
    · refine x_iconst (v := nI 0) dX7_isTellable_41 (by decide) ?_
      exact x_zret ⟨Nat.le_refl _, Nat.le_refl _⟩ rfl (by decide) dX7_isTellable_42 (by exfalso; omega)
    · refine x_aload_n dX7_isTellable_22 rfl ?_
      refine x_get (v := .ref 1) f_X7_10 k0 rfl dX7_isTellable_23 ?_
      refine x_iload_n dX7_isTellable_26 rfl ?_
      refine x_iload_n dX7_isTellable_27 rfl ?_
      refine x_bipush (v := nI 10) dX7_isTellable_28 (by decide) ?_
      refine x_iremN (by omega) (by omega) (by omega) dX7_isTellable_30 ?_
      refine x_callV m_X2_hasBoth l_X7_104 (c_bothP h (p := ((o : Nat) : Int)) (q := ((w % 10 : Nat) : Int)) (nI_toInt (by omega)) (nI_toInt (by omega))) rfl h.1 (by omega) rfl rfl (Nat.le_of_ble_eq_true rfl) ⟨Nat.le_refl _, Nat.le_refl _⟩ dX7_isTellable_31 (fun r5 s5 q5 => ?_)
      obtain ⟨rfl, eq5⟩ := q5
      obtain rfl := eq5.symm
      refine x_stk (st' := [.int (bI (decide ((0 ≤ ((o : Nat) : Int) ∧ ((o : Nat) : Int) < (n : Int)) ∧ (0 ≤ ((w % 10 : Nat) : Int) ∧ ((w % 10 : Nat) : Int) < (n : Int)) ∧ ¬ ((o : Nat) : Int) = ((w % 10 : Nat) : Int))))]) rfl ?_
      refine x_ifP_eq (P := (0 ≤ ((o : Nat) : Int) ∧ ((o : Nat) : Int) < (n : Int)) ∧ (0 ≤ ((w % 10 : Nat) : Int) ∧ ((w % 10 : Nat) : Int) < (n : Int)) ∧ ¬ ((o : Nat) : Int) = ((w % 10 : Nat) : Int)) inferInstance (tgt := 41) dX7_isTellable_34 (by decide) (fun hv6 => ?_) (fun hv6 => ?_)
      · refine x_iconst (v := nI 0) dX7_isTellable_41 (by decide) ?_
        exact x_zret ⟨Nat.le_refl _, Nat.le_refl _⟩ rfl (by decide) dX7_isTellable_42 (by exfalso; omega)
      · refine x_iconst (v := nI 1) dX7_isTellable_37 (by decide) ?_
        refine x_goto (tgt := 42) dX7_isTellable_38 (by decide) ?_
        exact x_zret ⟨Nat.le_refl _, Nat.le_refl _⟩ rfl (by decide) dX7_isTellable_42 ⟨rfl, rfl⟩
  · refine x_iconst (v := nI 1) dX7_isTellable_9 (by decide) ?_
    exact x_zret ⟨Nat.le_refl _, Nat.le_refl _⟩ rfl (by decide) dX7_isTellable_10 ⟨rfl, rfl⟩
set_option maxHeartbeats 4000000 in
theorem c_tells_b {σ : ZS} {tx ik : Int32} (k0 : zg σ 0 = some (.inr (.inr (6, [.ref 1, .ref 6, .ref 11, .ref 16, .ref 22, .ref 28, .ref 31, .int tx, .int ik])))) {rr dn ru n : Nat} {K N : List Nat} {W : List Int32} {D : List Nat} (h : Pa σ 1 (nI rr) (nI dn) (nI ru) n K N W D) {x y w : Int32} (hb : ¬ (0 ≤ x.toInt ∧ x.toInt ≤ 3) ∨ ¬ (0 ≤ y.toInt ∧ y.toInt < (n : Int)) ∨ ¬ ((0 ≤ w.toInt ∧ w.toInt ≤ 2) ∨ ((10 ≤ w.toInt ∧ w.toInt ≤ 29) ∧ (0 ≤ y.toInt ∧ y.toInt < (n : Int)) ∧ (0 ≤ (w - w / nI 10 * nI 10).toInt ∧ (w - w / nI 10 * nI 10).toInt < (n : Int)) ∧ ¬ y.toInt = (w - w / nI 10 * nI 10).toInt))) : Cn 5 M_X7_tells 0 0 [.ref 0, .int x, .int y, .int w] σ (fun r9 σ' => r9 = some (.int (-2)) ∧ σ' = σ) := by
  refine Cn.intro (lv0 := [some (.ref 0), some (.int x), some (.int y), some (.int w)]) rfl (Nat.le_of_ble_eq_true rfl) rfl (fun d hd => ?_)
  refine x_iload_n dX7_tells_0 rfl ?_
  refine x_callS m_X7_isSheet l_X7_153 (c_isSheetP (p := (x).toInt) rfl) (by omega) rfl rfl (Nat.le_of_ble_eq_true rfl) ⟨Nat.le_refl _, Nat.le_refl _⟩ dX7_tells_1 (fun r1 s1 q1 => ?_)
  obtain ⟨rfl, eq1⟩ := q1
  obtain rfl := eq1.symm
  refine x_stk (st' := [.int (bI (decide (0 ≤ (x).toInt ∧ (x).toInt ≤ 3)))]) rfl ?_
  refine x_ifP_eq (P := 0 ≤ (x).toInt ∧ (x).toInt ≤ 3) inferInstance (tgt := 27) dX7_tells_4 (by decide) (fun hv2 => ?_) (fun hv2 => ?_)
  · refine x_bipush (v := (-2)) dX7_tells_27 (by decide) ?_
    exact x_iret ⟨Nat.le_refl _, Nat.le_refl _⟩ rfl dX7_tells_29 ⟨rfl, rfl⟩
  · refine x_aload_n dX7_tells_7 rfl ?_
    refine x_get (v := .ref 1) f_X7_10 k0 rfl dX7_tells_8 ?_
    refine x_iload_n dX7_tells_11 rfl ?_
    refine x_callV m_X2_has l_X7_82 (c_hasP h (p := (y).toInt) rfl) rfl h.1 (by omega) rfl rfl (Nat.le_of_ble_eq_true rfl) ⟨Nat.le_refl _, Nat.le_refl _⟩ dX7_tells_12 (fun r3 s3 q3 => ?_)
    obtain ⟨rfl, eq3⟩ := q3
    obtain rfl := eq3.symm
    refine x_stk (st' := [.int (bI (decide (0 ≤ (y).toInt ∧ (y).toInt < (n : Int))))]) rfl ?_
    refine x_ifP_eq (P := 0 ≤ (y).toInt ∧ (y).toInt < (n : Int)) inferInstance (tgt := 27) dX7_tells_15 (by decide) (fun hv4 => ?_) (fun hv4 => ?_)
    · refine x_bipush (v := (-2)) dX7_tells_27 (by decide) ?_
      exact x_iret ⟨Nat.le_refl _, Nat.le_refl _⟩ rfl dX7_tells_29 ⟨rfl, rfl⟩
    · refine x_aload_n dX7_tells_18 rfl ?_
      refine x_iload_n dX7_tells_19 rfl ?_
      refine x_iload_n dX7_tells_20 rfl ?_
      refine x_callV m_X7_isTellable l_X7_248 (c_isTellable k0 h (y := y) (w := w) (p := (y).toInt) rfl) rfl k0 (by omega) rfl rfl (Nat.le_of_ble_eq_true rfl) ⟨Nat.le_refl _, Nat.le_refl _⟩ dX7_tells_21 (fun r5 s5 q5 => ?_)
      obtain ⟨rfl, eq5⟩ := q5
      obtain rfl := eq5.symm
      refine x_stk (st' := [.int (bI (decide ((0 ≤ w.toInt ∧ w.toInt ≤ 2) ∨ ((10 ≤ w.toInt ∧ w.toInt ≤ 29) ∧ (0 ≤ (y).toInt ∧ (y).toInt < (n : Int)) ∧ (0 ≤ (w - w / nI 10 * nI 10).toInt ∧ (w - w / nI 10 * nI 10).toInt < (n : Int)) ∧ ¬ (y).toInt = (w - w / nI 10 * nI 10).toInt))))]) rfl ?_
      refine x_ifP_ne (P := (0 ≤ w.toInt ∧ w.toInt ≤ 2) ∨ ((10 ≤ w.toInt ∧ w.toInt ≤ 29) ∧ (0 ≤ (y).toInt ∧ (y).toInt < (n : Int)) ∧ (0 ≤ (w - w / nI 10 * nI 10).toInt ∧ (w - w / nI 10 * nI 10).toInt < (n : Int)) ∧ ¬ (y).toInt = (w - w / nI 10 * nI 10).toInt)) inferInstance (tgt := 30) dX7_tells_24 (by decide) (fun hv6 => ?_) (fun hv6 => ?_)
      · exfalso; omega
      · refine x_bipush (v := (-2)) dX7_tells_27 (by decide) ?_
        exact x_iret ⟨Nat.le_refl _, Nat.le_refl _⟩ rfl dX7_tells_29 ⟨rfl, rfl⟩
set_option maxHeartbeats 4000000 in
theorem c_tells_m {σ : ZS} {tx ik : Int32} (k0 : zg σ 0 = some (.inr (.inr (6, [.ref 1, .ref 6, .ref 11, .ref 16, .ref 22, .ref 28, .ref 31, .int tx, .int ik])))) {rr dn ru n : Nat} {K N : List Nat} {W : List Int32} {D : List Nat} (h : Pa σ 1 (nI rr) (nI dn) (nI ru) n K N W D) (hr1 : rr ≤ 1) (hJ : SeJ σ) {sh : Nat → SH} (hS : CSH σ sh) (hG : SHG sh) {i : Nat} (hi4 : i < 4) {o : Nat} (ho : o < n) {w : Int32} (hw : (0 ≤ w.toInt ∧ w.toInt ≤ 2) ∨ ((10 ≤ w.toInt ∧ w.toInt ≤ 29) ∧ (0 ≤ ((o : Nat) : Int) ∧ ((o : Nat) : Int) < (n : Int)) ∧ (0 ≤ (w - w / nI 10 * nI 10).toInt ∧ (w - w / nI 10 * nI 10).toInt < (n : Int)) ∧ ¬ ((o : Nat) : Int) = (w - w / nI 10 * nI 10).toInt)) (hb : (sh i).1 = -1) : Cn 5 M_X7_tells 0 0 [.ref 0, .int (nI i), .int (nI o), .int w] σ (fun r9 σ' => r9 = some (.int (-11)) ∧ σ' = σ) := by
  obtain ⟨g31, hS2⟩ := id hS
  obtain ⟨s0, s1⟩ := hS2 i hi4
  obtain ⟨hso9, hz40, hl40⟩ := hG i hi4
  obtain ⟨bw8, am8, sz8, rd8, jd8, fd8, en8, e0⟩ := hJ.ok
  have hn7 := h.2.2.2.2.2.1
  refine Cn.intro (lv0 := [some (.ref 0), some (.int (nI i)), some (.int (nI o)), some (.int w)]) rfl (Nat.le_of_ble_eq_true rfl) rfl (fun d hd => ?_)
  refine x_iload_n dX7_tells_0 rfl ?_
  refine x_callS m_X7_isSheet l_X7_153 (c_isSheetP (p := ((i : Nat) : Int)) (nI_toInt (by omega))) (by omega) rfl rfl (Nat.le_of_ble_eq_true rfl) ⟨Nat.le_refl _, Nat.le_refl _⟩ dX7_tells_1 (fun r1 s1 q1 => ?_)
  obtain ⟨rfl, eq1⟩ := q1
  obtain rfl := eq1.symm
  refine x_stk (st' := [.int (bI (decide (0 ≤ ((i : Nat) : Int) ∧ ((i : Nat) : Int) ≤ 3)))]) rfl ?_
  refine x_ifP_eq (P := 0 ≤ ((i : Nat) : Int) ∧ ((i : Nat) : Int) ≤ 3) inferInstance (tgt := 27) dX7_tells_4 (by decide) (fun hv2 => ?_) (fun hv2 => ?_)
  · exact absurd hv2 (by omega)
  · refine x_aload_n dX7_tells_7 rfl ?_
    refine x_get (v := .ref 1) f_X7_10 k0 rfl dX7_tells_8 ?_
    refine x_iload_n dX7_tells_11 rfl ?_
    refine x_callV m_X2_has l_X7_82 (c_hasP h (p := ((o : Nat) : Int)) (nI_toInt (by omega))) rfl h.1 (by omega) rfl rfl (Nat.le_of_ble_eq_true rfl) ⟨Nat.le_refl _, Nat.le_refl _⟩ dX7_tells_12 (fun r3 s3 q3 => ?_)
    obtain ⟨rfl, eq3⟩ := q3
    obtain rfl := eq3.symm
    refine x_stk (st' := [.int (bI (decide (0 ≤ ((o : Nat) : Int) ∧ ((o : Nat) : Int) < (n : Int))))]) rfl ?_
    refine x_ifP_eq (P := 0 ≤ ((o : Nat) : Int) ∧ ((o : Nat) : Int) < (n : Int)) inferInstance (tgt := 27) dX7_tells_15 (by decide) (fun hv4 => ?_) (fun hv4 => ?_)
    · exact absurd hv4 (by omega)
    · refine x_aload_n dX7_tells_18 rfl ?_
      refine x_iload_n dX7_tells_19 rfl ?_
      refine x_iload_n dX7_tells_20 rfl ?_
      refine x_callV m_X7_isTellable l_X7_248 (c_isTellable k0 h (y := nI o) (w := w) (p := ((o : Nat) : Int)) (nI_toInt (by omega))) rfl k0 (by omega) rfl rfl (Nat.le_of_ble_eq_true rfl) ⟨Nat.le_refl _, Nat.le_refl _⟩ dX7_tells_21 (fun r5 s5 q5 => ?_)
      obtain ⟨rfl, eq5⟩ := q5
      obtain rfl := eq5.symm
      refine x_stk (st' := [.int (bI (decide ((0 ≤ w.toInt ∧ w.toInt ≤ 2) ∨ ((10 ≤ w.toInt ∧ w.toInt ≤ 29) ∧ (0 ≤ ((o : Nat) : Int) ∧ ((o : Nat) : Int) < (n : Int)) ∧ (0 ≤ (w - w / nI 10 * nI 10).toInt ∧ (w - w / nI 10 * nI 10).toInt < (n : Int)) ∧ ¬ ((o : Nat) : Int) = (w - w / nI 10 * nI 10).toInt))))]) rfl ?_
      refine x_ifP_ne (P := (0 ≤ w.toInt ∧ w.toInt ≤ 2) ∨ ((10 ≤ w.toInt ∧ w.toInt ≤ 29) ∧ (0 ≤ ((o : Nat) : Int) ∧ ((o : Nat) : Int) < (n : Int)) ∧ (0 ≤ (w - w / nI 10 * nI 10).toInt ∧ (w - w / nI 10 * nI 10).toInt < (n : Int)) ∧ ¬ ((o : Nat) : Int) = (w - w / nI 10 * nI 10).toInt)) inferInstance (tgt := 30) dX7_tells_24 (by decide) (fun hv6 => ?_) (fun hv6 => ?_)
      · refine x_aload_n dX7_tells_30 rfl ?_
        refine x_get (v := .ref 31) f_X7_45 k0 rfl dX7_tells_31 ?_
        refine x_iload_n dX7_tells_34 rfl ?_
        refine x_aald (Or.inr rfl) g31 rfl (sh_aa hi4) dX7_tells_35 ?_
        refine x_get (v := .int ((sh i).1)) f_X7_179 s0 rfl dX7_tells_36 ?_
        refine x_iconst (v := (-1)) dX7_tells_39 (by decide) ?_
        refine x_icmpT_ne (p := ((sh i).1).toInt) (q := (-1)) (tgt := 46) rfl (by decide) dX7_tells_40 (by decide) (fun hv7 => ?_) (fun hv7 => ?_)
        · exact absurd (by rw [hb]; decide) hv7
        · refine x_bipush (v := (-11)) dX7_tells_43 (by decide) ?_
          exact x_iret ⟨Nat.le_refl _, Nat.le_refl _⟩ rfl dX7_tells_45 ⟨rfl, rfl⟩
      · exact absurd hw hv6
set_option maxHeartbeats 4000000 in
theorem c_tells_n {σ : ZS} {tx ik : Int32} (k0 : zg σ 0 = some (.inr (.inr (6, [.ref 1, .ref 6, .ref 11, .ref 16, .ref 22, .ref 28, .ref 31, .int tx, .int ik])))) {rr dn ru n : Nat} {K N : List Nat} {W : List Int32} {D : List Nat} (h : Pa σ 1 (nI rr) (nI dn) (nI ru) n K N W D) (hr1 : rr ≤ 1) (hJ : SeJ σ) {sh : Nat → SH} (hS : CSH σ sh) (hG : SHG sh) {i : Nat} (hi4 : i < 4) (hne : ¬ (sh i).1 = -1) (hA9 : (tbS n (sh i).2.2 (sh i).2.1) = none) {o : Nat} (ho : o < n) {w : Int32} (hw : (0 ≤ w.toInt ∧ w.toInt ≤ 2) ∨ ((10 ≤ w.toInt ∧ w.toInt ≤ 29) ∧ (0 ≤ ((o : Nat) : Int) ∧ ((o : Nat) : Int) < (n : Int)) ∧ (0 ≤ (w - w / nI 10 * nI 10).toInt ∧ (w - w / nI 10 * nI 10).toInt < (n : Int)) ∧ ¬ ((o : Nat) : Int) = (w - w / nI 10 * nI 10).toInt)) : Cn 5 M_X7_tells 0 0 [.ref 0, .int (nI i), .int (nI o), .int w] σ (fun r9 σ' => r9 = some (.int (-2)) ∧ SeJ σ' ∧ Fr (fun i => 22 ≤ i ∧ i ≤ 25) σ σ') := by
  obtain ⟨g31, hS2⟩ := id hS
  obtain ⟨s0, s1⟩ := hS2 i hi4
  obtain ⟨hso9, hz40, hl40⟩ := hG i hi4
  have hne' : ¬ ((sh i).1).toInt = -1 := fun q => hne (Int32.toInt_inj.mp q)
  obtain ⟨bw8, am8, sz8, rd8, jd8, fd8, en8, e0⟩ := hJ.ok
  have hn7 := h.2.2.2.2.2.1
  refine Cn.intro (lv0 := [some (.ref 0), some (.int (nI i)), some (.int (nI o)), some (.int w)]) rfl (Nat.le_of_ble_eq_true rfl) rfl (fun d hd => ?_)
  refine x_iload_n dX7_tells_0 rfl ?_
  refine x_callS m_X7_isSheet l_X7_153 (c_isSheetP (p := ((i : Nat) : Int)) (nI_toInt (by omega))) (by omega) rfl rfl (Nat.le_of_ble_eq_true rfl) ⟨Nat.le_refl _, Nat.le_refl _⟩ dX7_tells_1 (fun r1 s1 q1 => ?_)
  obtain ⟨rfl, eq1⟩ := q1
  obtain rfl := eq1.symm
  refine x_stk (st' := [.int (bI (decide (0 ≤ ((i : Nat) : Int) ∧ ((i : Nat) : Int) ≤ 3)))]) rfl ?_
  refine x_ifP_eq (P := 0 ≤ ((i : Nat) : Int) ∧ ((i : Nat) : Int) ≤ 3) inferInstance (tgt := 27) dX7_tells_4 (by decide) (fun hv2 => ?_) (fun hv2 => ?_)
  · exact absurd hv2 (by omega)
  · refine x_aload_n dX7_tells_7 rfl ?_
    refine x_get (v := .ref 1) f_X7_10 k0 rfl dX7_tells_8 ?_
    refine x_iload_n dX7_tells_11 rfl ?_
    refine x_callV m_X2_has l_X7_82 (c_hasP h (p := ((o : Nat) : Int)) (nI_toInt (by omega))) rfl h.1 (by omega) rfl rfl (Nat.le_of_ble_eq_true rfl) ⟨Nat.le_refl _, Nat.le_refl _⟩ dX7_tells_12 (fun r3 s3 q3 => ?_)
    obtain ⟨rfl, eq3⟩ := q3
    obtain rfl := eq3.symm
    refine x_stk (st' := [.int (bI (decide (0 ≤ ((o : Nat) : Int) ∧ ((o : Nat) : Int) < (n : Int))))]) rfl ?_
    refine x_ifP_eq (P := 0 ≤ ((o : Nat) : Int) ∧ ((o : Nat) : Int) < (n : Int)) inferInstance (tgt := 27) dX7_tells_15 (by decide) (fun hv4 => ?_) (fun hv4 => ?_)
    · exact absurd hv4 (by omega)
    · refine x_aload_n dX7_tells_18 rfl ?_
      refine x_iload_n dX7_tells_19 rfl ?_
      refine x_iload_n dX7_tells_20 rfl ?_
      refine x_callV m_X7_isTellable l_X7_248 (c_isTellable k0 h (y := nI o) (w := w) (p := ((o : Nat) : Int)) (nI_toInt (by omega))) rfl k0 (by omega) rfl rfl (Nat.le_of_ble_eq_true rfl) ⟨Nat.le_refl _, Nat.le_refl _⟩ dX7_tells_21 (fun r5 s5 q5 => ?_)
      obtain ⟨rfl, eq5⟩ := q5
      obtain rfl := eq5.symm
      refine x_stk (st' := [.int (bI (decide ((0 ≤ w.toInt ∧ w.toInt ≤ 2) ∨ ((10 ≤ w.toInt ∧ w.toInt ≤ 29) ∧ (0 ≤ ((o : Nat) : Int) ∧ ((o : Nat) : Int) < (n : Int)) ∧ (0 ≤ (w - w / nI 10 * nI 10).toInt ∧ (w - w / nI 10 * nI 10).toInt < (n : Int)) ∧ ¬ ((o : Nat) : Int) = (w - w / nI 10 * nI 10).toInt))))]) rfl ?_
      refine x_ifP_ne (P := (0 ≤ w.toInt ∧ w.toInt ≤ 2) ∨ ((10 ≤ w.toInt ∧ w.toInt ≤ 29) ∧ (0 ≤ ((o : Nat) : Int) ∧ ((o : Nat) : Int) < (n : Int)) ∧ (0 ≤ (w - w / nI 10 * nI 10).toInt ∧ (w - w / nI 10 * nI 10).toInt < (n : Int)) ∧ ¬ ((o : Nat) : Int) = (w - w / nI 10 * nI 10).toInt)) inferInstance (tgt := 30) dX7_tells_24 (by decide) (fun hv6 => ?_) (fun hv6 => ?_)
      · refine x_aload_n dX7_tells_30 rfl ?_
        refine x_get (v := .ref 31) f_X7_45 k0 rfl dX7_tells_31 ?_
        refine x_iload_n dX7_tells_34 rfl ?_
        refine x_aald (Or.inr rfl) g31 rfl (sh_aa hi4) dX7_tells_35 ?_
        refine x_get (v := .int ((sh i).1)) f_X7_179 s0 rfl dX7_tells_36 ?_
        refine x_iconst (v := (-1)) dX7_tells_39 (by decide) ?_
        refine x_icmpT_ne (p := ((sh i).1).toInt) (q := (-1)) (tgt := 46) rfl (by decide) dX7_tells_40 (by decide) (fun hv7 => ?_) (fun hv7 => ?_)
        · refine x_aload_n dX7_tells_46 rfl ?_
          refine x_aload_n dX7_tells_47 rfl ?_
          refine x_get (v := .ref 31) f_X7_45 k0 rfl dX7_tells_48 ?_
          refine x_iload_n dX7_tells_51 rfl ?_
          refine x_aald (Or.inr rfl) g31 rfl (sh_aa hi4) dX7_tells_52 ?_
          refine x_callV m_X7_isTable l_X7_156 (c_isTable k0 h hr1 hl40 (by omega) (by omega) s0 s1 hz40 hJ hne') rfl k0 (by omega) rfl rfl (Nat.le_of_ble_eq_true rfl) ⟨Nat.le_refl _, Nat.le_refl _⟩ dX7_tells_53 (fun r8 s8 q8 => ?_)
          obtain ⟨rfl, J8, T8, F8⟩ := q8
          refine x_stk (st' := [.int (bI ((tbS n (sh i).2.2 (sh i).2.1).isSome))]) rfl ?_
          refine x_ifB_eq (tgt := 76) dX7_tells_56 (by decide) (fun hv9 => ?_) (fun hv9 => ?_)
          · refine x_bipush (v := (-2)) dX7_tells_76 (by decide) ?_
            exact x_iret ⟨Nat.le_refl _, Nat.le_refl _⟩ rfl dX7_tells_78 ⟨rfl, J8, (Fr.rf.tr (F8.mono (fun i hi => by omega)))⟩
          · exact absurd (hv9.symm.trans (congrArg Option.isSome hA9)) (fun z => Bool.noConfusion z)
        · exact absurd hv7 hne'
      · exact absurd hw hv6
set_option maxHeartbeats 4000000 in
theorem c_tells_s {σ : ZS} {tx ik : Int32} (k0 : zg σ 0 = some (.inr (.inr (6, [.ref 1, .ref 6, .ref 11, .ref 16, .ref 22, .ref 28, .ref 31, .int tx, .int ik])))) {rr dn ru n : Nat} {K N : List Nat} {W : List Int32} {D : List Nat} (h : Pa σ 1 (nI rr) (nI dn) (nI ru) n K N W D) (hr1 : rr ≤ 1) (hJ : SeJ σ) {sh : Nat → SH} (hS : CSH σ sh) (hG : SHG sh) {i : Nat} (hi4 : i < 4) (hne : ¬ (sh i).1 = -1) {A : Nat} (hA9 : (tbS n (sh i).2.2 (sh i).2.1) = some A) (hsn : ¬ (sh i).2.1 = n) {o : Nat} (ho : o < n) {w : Int32} (hw : (0 ≤ w.toInt ∧ w.toInt ≤ 2) ∨ ((10 ≤ w.toInt ∧ w.toInt ≤ 29) ∧ (0 ≤ ((o : Nat) : Int) ∧ ((o : Nat) : Int) < (n : Int)) ∧ (0 ≤ (w - w / nI 10 * nI 10).toInt ∧ (w - w / nI 10 * nI 10).toInt < (n : Int)) ∧ ¬ ((o : Nat) : Int) = (w - w / nI 10 * nI 10).toInt)) : Cn 5 M_X7_tells 0 0 [.ref 0, .int (nI i), .int (nI o), .int w] σ (fun r9 σ' => r9 = some (.int (-2)) ∧ SeJ σ' ∧ Fr (fun i => 22 ≤ i ∧ i ≤ 25) σ σ') := by
  obtain ⟨g31, hS2⟩ := id hS
  obtain ⟨s0, s1⟩ := hS2 i hi4
  obtain ⟨hso9, hz40, hl40⟩ := hG i hi4
  have hne' : ¬ ((sh i).1).toInt = -1 := fun q => hne (Int32.toInt_inj.mp q)
  obtain ⟨bw8, am8, sz8, rd8, jd8, fd8, en8, e0⟩ := hJ.ok
  have hn7 := h.2.2.2.2.2.1
  obtain ⟨hAn, hA2, hpA, -, -, hsA, hDi⟩ := tbS_ok hn7 hA9
  refine Cn.intro (lv0 := [some (.ref 0), some (.int (nI i)), some (.int (nI o)), some (.int w)]) rfl (Nat.le_of_ble_eq_true rfl) rfl (fun d hd => ?_)
  refine x_iload_n dX7_tells_0 rfl ?_
  refine x_callS m_X7_isSheet l_X7_153 (c_isSheetP (p := ((i : Nat) : Int)) (nI_toInt (by omega))) (by omega) rfl rfl (Nat.le_of_ble_eq_true rfl) ⟨Nat.le_refl _, Nat.le_refl _⟩ dX7_tells_1 (fun r1 s1 q1 => ?_)
  obtain ⟨rfl, eq1⟩ := q1
  obtain rfl := eq1.symm
  refine x_stk (st' := [.int (bI (decide (0 ≤ ((i : Nat) : Int) ∧ ((i : Nat) : Int) ≤ 3)))]) rfl ?_
  refine x_ifP_eq (P := 0 ≤ ((i : Nat) : Int) ∧ ((i : Nat) : Int) ≤ 3) inferInstance (tgt := 27) dX7_tells_4 (by decide) (fun hv2 => ?_) (fun hv2 => ?_)
  · exact absurd hv2 (by omega)
  · refine x_aload_n dX7_tells_7 rfl ?_
    refine x_get (v := .ref 1) f_X7_10 k0 rfl dX7_tells_8 ?_
    refine x_iload_n dX7_tells_11 rfl ?_
    refine x_callV m_X2_has l_X7_82 (c_hasP h (p := ((o : Nat) : Int)) (nI_toInt (by omega))) rfl h.1 (by omega) rfl rfl (Nat.le_of_ble_eq_true rfl) ⟨Nat.le_refl _, Nat.le_refl _⟩ dX7_tells_12 (fun r3 s3 q3 => ?_)
    obtain ⟨rfl, eq3⟩ := q3
    obtain rfl := eq3.symm
    refine x_stk (st' := [.int (bI (decide (0 ≤ ((o : Nat) : Int) ∧ ((o : Nat) : Int) < (n : Int))))]) rfl ?_
    refine x_ifP_eq (P := 0 ≤ ((o : Nat) : Int) ∧ ((o : Nat) : Int) < (n : Int)) inferInstance (tgt := 27) dX7_tells_15 (by decide) (fun hv4 => ?_) (fun hv4 => ?_)
    · exact absurd hv4 (by omega)
    · refine x_aload_n dX7_tells_18 rfl ?_
      refine x_iload_n dX7_tells_19 rfl ?_
      refine x_iload_n dX7_tells_20 rfl ?_
      refine x_callV m_X7_isTellable l_X7_248 (c_isTellable k0 h (y := nI o) (w := w) (p := ((o : Nat) : Int)) (nI_toInt (by omega))) rfl k0 (by omega) rfl rfl (Nat.le_of_ble_eq_true rfl) ⟨Nat.le_refl _, Nat.le_refl _⟩ dX7_tells_21 (fun r5 s5 q5 => ?_)
      obtain ⟨rfl, eq5⟩ := q5
      obtain rfl := eq5.symm
      refine x_stk (st' := [.int (bI (decide ((0 ≤ w.toInt ∧ w.toInt ≤ 2) ∨ ((10 ≤ w.toInt ∧ w.toInt ≤ 29) ∧ (0 ≤ ((o : Nat) : Int) ∧ ((o : Nat) : Int) < (n : Int)) ∧ (0 ≤ (w - w / nI 10 * nI 10).toInt ∧ (w - w / nI 10 * nI 10).toInt < (n : Int)) ∧ ¬ ((o : Nat) : Int) = (w - w / nI 10 * nI 10).toInt))))]) rfl ?_
      refine x_ifP_ne (P := (0 ≤ w.toInt ∧ w.toInt ≤ 2) ∨ ((10 ≤ w.toInt ∧ w.toInt ≤ 29) ∧ (0 ≤ ((o : Nat) : Int) ∧ ((o : Nat) : Int) < (n : Int)) ∧ (0 ≤ (w - w / nI 10 * nI 10).toInt ∧ (w - w / nI 10 * nI 10).toInt < (n : Int)) ∧ ¬ ((o : Nat) : Int) = (w - w / nI 10 * nI 10).toInt)) inferInstance (tgt := 30) dX7_tells_24 (by decide) (fun hv6 => ?_) (fun hv6 => ?_)
      · refine x_aload_n dX7_tells_30 rfl ?_
        refine x_get (v := .ref 31) f_X7_45 k0 rfl dX7_tells_31 ?_
        refine x_iload_n dX7_tells_34 rfl ?_
        refine x_aald (Or.inr rfl) g31 rfl (sh_aa hi4) dX7_tells_35 ?_
        refine x_get (v := .int ((sh i).1)) f_X7_179 s0 rfl dX7_tells_36 ?_
        refine x_iconst (v := (-1)) dX7_tells_39 (by decide) ?_
        refine x_icmpT_ne (p := ((sh i).1).toInt) (q := (-1)) (tgt := 46) rfl (by decide) dX7_tells_40 (by decide) (fun hv7 => ?_) (fun hv7 => ?_)
        · refine x_aload_n dX7_tells_46 rfl ?_
          refine x_aload_n dX7_tells_47 rfl ?_
          refine x_get (v := .ref 31) f_X7_45 k0 rfl dX7_tells_48 ?_
          refine x_iload_n dX7_tells_51 rfl ?_
          refine x_aald (Or.inr rfl) g31 rfl (sh_aa hi4) dX7_tells_52 ?_
          refine x_callV m_X7_isTable l_X7_156 (c_isTable k0 h hr1 hl40 (by omega) (by omega) s0 s1 hz40 hJ hne') rfl k0 (by omega) rfl rfl (Nat.le_of_ble_eq_true rfl) ⟨Nat.le_refl _, Nat.le_refl _⟩ dX7_tells_53 (fun r8 s8 q8 => ?_)
          obtain ⟨rfl, J8, T8, F8⟩ := q8
          obtain ⟨bw8, jd8, fd8, en8, e0_8⟩ := (T8 _ hA9).ok
          refine x_stk (st' := [.int (bI ((tbS n (sh i).2.2 (sh i).2.1).isSome))]) rfl ?_
          refine x_ifB_eq (tgt := 76) dX7_tells_56 (by decide) (fun hv9 => ?_) (fun hv9 => ?_)
          · exact absurd (hv9.symm.trans (congrArg Option.isSome hA9)) (fun z => Bool.noConfusion z)
          · refine x_aload_n dX7_tells_59 rfl ?_
            refine x_get (v := .ref 22) f_X7_32 (F8.at (by omega) k0) rfl dX7_tells_60 ?_
            refine x_get (v := .int (nI ((sh i).2.1))) f_X7_251 e0_8 rfl dX7_tells_63 ?_
            refine x_aload_n dX7_tells_66 rfl ?_
            refine x_get (v := .ref 1) f_X7_10 (F8.at (by omega) k0) rfl dX7_tells_67 ?_
            refine x_get (v := .int (nI n)) f_X7_98 (F8.at (by omega) h.1) rfl dX7_tells_70 ?_
            refine x_icmpN_eq (tgt := 79) dX7_tells_73 (by decide) (by omega) (by omega) (fun hv10 => ?_) (fun hv10 => ?_)
            · exact absurd hv10 hsn
            · refine x_bipush (v := (-2)) dX7_tells_76 (by decide) ?_
              exact x_iret ⟨Nat.le_refl _, Nat.le_refl _⟩ rfl dX7_tells_78 ⟨rfl, J8, (Fr.rf.tr (F8.mono (fun i hi => by omega)))⟩
        · exact absurd hv7 hne'
      · exact absurd hw hv6
set_option maxHeartbeats 4000000 in
theorem c_tells0 {σ : ZS} {tx ik : Int32} (k0 : zg σ 0 = some (.inr (.inr (6, [.ref 1, .ref 6, .ref 11, .ref 16, .ref 22, .ref 28, .ref 31, .int tx, .int ik])))) {rr dn ru n : Nat} {K N : List Nat} {W : List Int32} {D : List Nat} (h : Pa σ 1 (nI rr) (nI dn) (nI ru) n K N W D) (hr1 : rr ≤ 1) (hJ : SeJ σ) {sh : Nat → SH} (hS : CSH σ sh) (hG : SHG sh) {i : Nat} (hi4 : i < 4) (hne : ¬ (sh i).1 = -1) {A : Nat} (hA9 : (tbS n (sh i).2.2 (sh i).2.1) = some A) (hsn : (sh i).2.1 = n) {o : Nat} (ho : o < n) : Cn 5 M_X7_tells 0 0 [.ref 0, .int (nI i), .int (nI o), .int (nI 0)] σ (fun r9 σ' => r9 = some (.int (oI (unlT rr n K N D (sh i).2.1 (tOf (sh i).2.2 (sh i).2.1) (-1)))) ∧ SeJ σ' ∧ Fr (fun i => 22 ≤ i ∧ i ≤ 25) σ σ') := by
  obtain ⟨g31, hS2⟩ := id hS
  obtain ⟨s0, s1⟩ := hS2 i hi4
  obtain ⟨hso9, hz40, hl40⟩ := hG i hi4
  have hne' : ¬ ((sh i).1).toInt = -1 := fun q => hne (Int32.toInt_inj.mp q)
  obtain ⟨bw8, am8, sz8, rd8, jd8, fd8, en8, e0⟩ := hJ.ok
  have hn7 := h.2.2.2.2.2.1
  obtain ⟨hAn, hA2, hpA, -, -, hsA, hDi⟩ := tbS_ok hn7 hA9
  have hw : (0 : Nat) ≤ 2 ∨ (10 ≤ 0 ∧ 0 < 30 ∧ 0 % 10 < n ∧ o ≠ 0 % 10) := Or.inl (by omega)
  refine Cn.intro (lv0 := [some (.ref 0), some (.int (nI i)), some (.int (nI o)), some (.int (nI 0))]) rfl (Nat.le_of_ble_eq_true rfl) rfl (fun d hd => ?_)
  refine x_iload_n dX7_tells_0 rfl ?_
  refine x_callS m_X7_isSheet l_X7_153 (c_isSheetP (p := ((i : Nat) : Int)) (nI_toInt (by omega))) (by omega) rfl rfl (Nat.le_of_ble_eq_true rfl) ⟨Nat.le_refl _, Nat.le_refl _⟩ dX7_tells_1 (fun r1 s1 q1 => ?_)
  obtain ⟨rfl, eq1⟩ := q1
  obtain rfl := eq1.symm
  refine x_stk (st' := [.int (bI (decide (0 ≤ ((i : Nat) : Int) ∧ ((i : Nat) : Int) ≤ 3)))]) rfl ?_
  refine x_ifP_eq (P := 0 ≤ ((i : Nat) : Int) ∧ ((i : Nat) : Int) ≤ 3) inferInstance (tgt := 27) dX7_tells_4 (by decide) (fun hv2 => ?_) (fun hv2 => ?_)
  · exact absurd hv2 (by omega)
  · refine x_aload_n dX7_tells_7 rfl ?_
    refine x_get (v := .ref 1) f_X7_10 k0 rfl dX7_tells_8 ?_
    refine x_iload_n dX7_tells_11 rfl ?_
    refine x_callV m_X2_has l_X7_82 (c_hasP h (p := ((o : Nat) : Int)) (nI_toInt (by omega))) rfl h.1 (by omega) rfl rfl (Nat.le_of_ble_eq_true rfl) ⟨Nat.le_refl _, Nat.le_refl _⟩ dX7_tells_12 (fun r3 s3 q3 => ?_)
    obtain ⟨rfl, eq3⟩ := q3
    obtain rfl := eq3.symm
    refine x_stk (st' := [.int (bI (decide (0 ≤ ((o : Nat) : Int) ∧ ((o : Nat) : Int) < (n : Int))))]) rfl ?_
    refine x_ifP_eq (P := 0 ≤ ((o : Nat) : Int) ∧ ((o : Nat) : Int) < (n : Int)) inferInstance (tgt := 27) dX7_tells_15 (by decide) (fun hv4 => ?_) (fun hv4 => ?_)
    · exact absurd hv4 (by omega)
    · refine x_aload_n dX7_tells_18 rfl ?_
      refine x_iload_n dX7_tells_19 rfl ?_
      refine x_iload_n dX7_tells_20 rfl ?_
      refine x_callV m_X7_isTellable l_X7_248 (c_isTellable_g k0 h ho hw) rfl k0 (by omega) rfl rfl (Nat.le_of_ble_eq_true rfl) ⟨Nat.le_refl _, Nat.le_refl _⟩ dX7_tells_21 (fun r5 s5 q5 => ?_)
      obtain ⟨rfl, eq5⟩ := q5
      obtain rfl := eq5.symm
      refine x_stk (st' := [.int (nI 1)]) rfl ?_
      refine x_ifN_ne (tgt := 30) dX7_tells_24 (by decide) (by omega) (fun hv6 => ?_) (fun hv6 => ?_)
      · refine x_aload_n dX7_tells_30 rfl ?_
        refine x_get (v := .ref 31) f_X7_45 k0 rfl dX7_tells_31 ?_
        refine x_iload_n dX7_tells_34 rfl ?_
        refine x_aald (Or.inr rfl) g31 rfl (sh_aa hi4) dX7_tells_35 ?_
        refine x_get (v := .int ((sh i).1)) f_X7_179 s0 rfl dX7_tells_36 ?_
        refine x_iconst (v := (-1)) dX7_tells_39 (by decide) ?_
        refine x_icmpT_ne (p := ((sh i).1).toInt) (q := (-1)) (tgt := 46) rfl (by decide) dX7_tells_40 (by decide) (fun hv7 => ?_) (fun hv7 => ?_)
        · refine x_aload_n dX7_tells_46 rfl ?_
          refine x_aload_n dX7_tells_47 rfl ?_
          refine x_get (v := .ref 31) f_X7_45 k0 rfl dX7_tells_48 ?_
          refine x_iload_n dX7_tells_51 rfl ?_
          refine x_aald (Or.inr rfl) g31 rfl (sh_aa hi4) dX7_tells_52 ?_
          refine x_callV m_X7_isTable l_X7_156 (c_isTable k0 h hr1 hl40 (by omega) (by omega) s0 s1 hz40 hJ hne') rfl k0 (by omega) rfl rfl (Nat.le_of_ble_eq_true rfl) ⟨Nat.le_refl _, Nat.le_refl _⟩ dX7_tells_53 (fun r8 s8 q8 => ?_)
          obtain ⟨rfl, J8, T8, F8⟩ := q8
          obtain ⟨bw8, jd8, fd8, en8, e0_8⟩ := (T8 _ hA9).ok
          refine x_stk (st' := [.int (bI ((tbS n (sh i).2.2 (sh i).2.1).isSome))]) rfl ?_
          refine x_ifB_eq (tgt := 76) dX7_tells_56 (by decide) (fun hv9 => ?_) (fun hv9 => ?_)
          · exact absurd (hv9.symm.trans (congrArg Option.isSome hA9)) (fun z => Bool.noConfusion z)
          · refine x_aload_n dX7_tells_59 rfl ?_
            refine x_get (v := .ref 22) f_X7_32 (F8.at (by omega) k0) rfl dX7_tells_60 ?_
            refine x_get (v := .int (nI ((sh i).2.1))) f_X7_251 e0_8 rfl dX7_tells_63 ?_
            refine x_aload_n dX7_tells_66 rfl ?_
            refine x_get (v := .ref 1) f_X7_10 (F8.at (by omega) k0) rfl dX7_tells_67 ?_
            refine x_get (v := .int (nI n)) f_X7_98 (F8.at (by omega) h.1) rfl dX7_tells_70 ?_
            refine x_icmpN_eq (tgt := 79) dX7_tells_73 (by decide) (by omega) (by omega) (fun hv10 => ?_) (fun hv10 => ?_)
            · refine x_iload_n dX7_tells_79 rfl ?_
              refine x_ifN_ne (tgt := 91) dX7_tells_80 (by decide) (by omega) (fun hv11 => ?_) (fun hv11 => ?_)
              · exact absurd hv11 (by decide)
              · refine x_aload_n dX7_tells_83 rfl ?_
                refine x_get (v := .ref 22) f_X7_32 (F8.at (by omega) k0) rfl dX7_tells_84 ?_
                refine x_callV m_X5_firstWronged l_X7_161 (c_fwT (T8 _ hA9) (by omega) (wlS_ok hn7)) rfl e0_8 (by omega) rfl rfl (Nat.le_of_ble_eq_true rfl) ⟨Nat.le_refl _, Nat.le_refl _⟩ dX7_tells_87 (fun r12 s12 q12 => ?_)
                obtain ⟨rfl, eq12⟩ := q12
                obtain rfl := eq12.symm
                refine x_stk (st' := [.int ((oI (ffrom (fun s => !contB (decide (rr = 1)) (sh i).2.1 (tOf (sh i).2.2 (sh i).2.1) (wlS K N D n A (-1)) s) (sh i).2.1 0)))]) rfl ?_
                exact x_iret ⟨Nat.le_refl _, Nat.le_refl _⟩ rfl dX7_tells_90 ⟨by rw [unlT, hsA], J8, (Fr.rf.tr (F8.mono (fun i hi => by omega)))⟩
            · exact absurd hsn hv10
        · exact absurd hv7 hne'
      · exact absurd hv6 (by decide)
set_option maxHeartbeats 4000000 in
theorem c_tells1 {σ : ZS} {tx ik : Int32} (k0 : zg σ 0 = some (.inr (.inr (6, [.ref 1, .ref 6, .ref 11, .ref 16, .ref 22, .ref 28, .ref 31, .int tx, .int ik])))) {rr dn ru n : Nat} {K N : List Nat} {W : List Int32} {D : List Nat} (h : Pa σ 1 (nI rr) (nI dn) (nI ru) n K N W D) (hr1 : rr ≤ 1) (hJ : SeJ σ) {sh : Nat → SH} (hS : CSH σ sh) (hG : SHG sh) {i : Nat} (hi4 : i < 4) (hne : ¬ (sh i).1 = -1) {A : Nat} (hA9 : (tbS n (sh i).2.2 (sh i).2.1) = some A) (hsn : (sh i).2.1 = n) {o : Nat} (ho : o < n) (h11 : PaJ σ 11) : Cn 6 M_X7_tells 0 0 [.ref 0, .int (nI i), .int (nI o), .int (nI 1)] σ (fun r9 σ' => r9 = some (.int (nI (fitB (fun v => decide (unlT rr n (K.set o v) N D (sh i).2.1 (tOf (sh i).2.2 (sh i).2.1) (-1) = none)) 6))) ∧ SeJ σ' ∧ PaJ σ' 11 ∧ Fr (fun i => (11 ≤ i ∧ i ≤ 15) ∨ (22 ≤ i ∧ i ≤ 25)) σ σ') := by
  obtain ⟨g31, hS2⟩ := id hS
  obtain ⟨s0, s1⟩ := hS2 i hi4
  obtain ⟨hso9, hz40, hl40⟩ := hG i hi4
  have hne' : ¬ ((sh i).1).toInt = -1 := fun q => hne (Int32.toInt_inj.mp q)
  obtain ⟨bw8, am8, sz8, rd8, jd8, fd8, en8, e0⟩ := hJ.ok
  obtain ⟨ro9, di9, ru9, n9, K9, N9, W9, D9, hT9⟩ := id h11
  have t0 := hT9.1
  have hn7 := h.2.2.2.2.2.1
  obtain ⟨hAn, hA2, hpA, -, -, hsA, hDi⟩ := tbS_ok hn7 hA9
  have hA7 : A < 128 := Nat.lt_of_lt_of_le hA2 (two_le hn7)
  have hA1 : A.testBit o = true := popc_all n (by omega) A hA2 (by omega) o ho
  have hw : (1 : Nat) ≤ 2 ∨ (10 ≤ 1 ∧ 1 < 30 ∧ 1 % 10 < n ∧ o ≠ 1 % 10) := Or.inl (by omega)
  refine Cn.intro (lv0 := [some (.ref 0), some (.int (nI i)), some (.int (nI o)), some (.int (nI 1))]) rfl (Nat.le_of_ble_eq_true rfl) rfl (fun d hd => ?_)
  refine x_iload_n dX7_tells_0 rfl ?_
  refine x_callS m_X7_isSheet l_X7_153 (c_isSheetP (p := ((i : Nat) : Int)) (nI_toInt (by omega))) (by omega) rfl rfl (Nat.le_of_ble_eq_true rfl) ⟨Nat.le_refl _, Nat.le_refl _⟩ dX7_tells_1 (fun r1 s1 q1 => ?_)
  obtain ⟨rfl, eq1⟩ := q1
  obtain rfl := eq1.symm
  refine x_stk (st' := [.int (bI (decide (0 ≤ ((i : Nat) : Int) ∧ ((i : Nat) : Int) ≤ 3)))]) rfl ?_
  refine x_ifP_eq (P := 0 ≤ ((i : Nat) : Int) ∧ ((i : Nat) : Int) ≤ 3) inferInstance (tgt := 27) dX7_tells_4 (by decide) (fun hv2 => ?_) (fun hv2 => ?_)
  · exact absurd hv2 (by omega)
  · refine x_aload_n dX7_tells_7 rfl ?_
    refine x_get (v := .ref 1) f_X7_10 k0 rfl dX7_tells_8 ?_
    refine x_iload_n dX7_tells_11 rfl ?_
    refine x_callV m_X2_has l_X7_82 (c_hasP h (p := ((o : Nat) : Int)) (nI_toInt (by omega))) rfl h.1 (by omega) rfl rfl (Nat.le_of_ble_eq_true rfl) ⟨Nat.le_refl _, Nat.le_refl _⟩ dX7_tells_12 (fun r3 s3 q3 => ?_)
    obtain ⟨rfl, eq3⟩ := q3
    obtain rfl := eq3.symm
    refine x_stk (st' := [.int (bI (decide (0 ≤ ((o : Nat) : Int) ∧ ((o : Nat) : Int) < (n : Int))))]) rfl ?_
    refine x_ifP_eq (P := 0 ≤ ((o : Nat) : Int) ∧ ((o : Nat) : Int) < (n : Int)) inferInstance (tgt := 27) dX7_tells_15 (by decide) (fun hv4 => ?_) (fun hv4 => ?_)
    · exact absurd hv4 (by omega)
    · refine x_aload_n dX7_tells_18 rfl ?_
      refine x_iload_n dX7_tells_19 rfl ?_
      refine x_iload_n dX7_tells_20 rfl ?_
      refine x_callV m_X7_isTellable l_X7_248 (c_isTellable_g k0 h ho hw) rfl k0 (by omega) rfl rfl (Nat.le_of_ble_eq_true rfl) ⟨Nat.le_refl _, Nat.le_refl _⟩ dX7_tells_21 (fun r5 s5 q5 => ?_)
      obtain ⟨rfl, eq5⟩ := q5
      obtain rfl := eq5.symm
      refine x_stk (st' := [.int (nI 1)]) rfl ?_
      refine x_ifN_ne (tgt := 30) dX7_tells_24 (by decide) (by omega) (fun hv6 => ?_) (fun hv6 => ?_)
      · refine x_aload_n dX7_tells_30 rfl ?_
        refine x_get (v := .ref 31) f_X7_45 k0 rfl dX7_tells_31 ?_
        refine x_iload_n dX7_tells_34 rfl ?_
        refine x_aald (Or.inr rfl) g31 rfl (sh_aa hi4) dX7_tells_35 ?_
        refine x_get (v := .int ((sh i).1)) f_X7_179 s0 rfl dX7_tells_36 ?_
        refine x_iconst (v := (-1)) dX7_tells_39 (by decide) ?_
        refine x_icmpT_ne (p := ((sh i).1).toInt) (q := (-1)) (tgt := 46) rfl (by decide) dX7_tells_40 (by decide) (fun hv7 => ?_) (fun hv7 => ?_)
        · refine x_aload_n dX7_tells_46 rfl ?_
          refine x_aload_n dX7_tells_47 rfl ?_
          refine x_get (v := .ref 31) f_X7_45 k0 rfl dX7_tells_48 ?_
          refine x_iload_n dX7_tells_51 rfl ?_
          refine x_aald (Or.inr rfl) g31 rfl (sh_aa hi4) dX7_tells_52 ?_
          refine x_callV m_X7_isTable l_X7_156 (c_isTable k0 h hr1 hl40 (by omega) (by omega) s0 s1 hz40 hJ hne') rfl k0 (by omega) rfl rfl (Nat.le_of_ble_eq_true rfl) ⟨Nat.le_refl _, Nat.le_refl _⟩ dX7_tells_53 (fun r8 s8 q8 => ?_)
          obtain ⟨rfl, J8, T8, F8⟩ := q8
          obtain ⟨bw8, jd8, fd8, en8, e0_8⟩ := (T8 _ hA9).ok
          refine x_stk (st' := [.int (bI ((tbS n (sh i).2.2 (sh i).2.1).isSome))]) rfl ?_
          refine x_ifB_eq (tgt := 76) dX7_tells_56 (by decide) (fun hv9 => ?_) (fun hv9 => ?_)
          · exact absurd (hv9.symm.trans (congrArg Option.isSome hA9)) (fun z => Bool.noConfusion z)
          · refine x_aload_n dX7_tells_59 rfl ?_
            refine x_get (v := .ref 22) f_X7_32 (F8.at (by omega) k0) rfl dX7_tells_60 ?_
            refine x_get (v := .int (nI ((sh i).2.1))) f_X7_251 e0_8 rfl dX7_tells_63 ?_
            refine x_aload_n dX7_tells_66 rfl ?_
            refine x_get (v := .ref 1) f_X7_10 (F8.at (by omega) k0) rfl dX7_tells_67 ?_
            refine x_get (v := .int (nI n)) f_X7_98 (F8.at (by omega) h.1) rfl dX7_tells_70 ?_
            refine x_icmpN_eq (tgt := 79) dX7_tells_73 (by decide) (by omega) (by omega) (fun hv10 => ?_) (fun hv10 => ?_)
            · refine x_iload_n dX7_tells_79 rfl ?_
              refine x_ifN_ne (tgt := 91) dX7_tells_80 (by decide) (by omega) (fun hv11 => ?_) (fun hv11 => ?_)
              · refine x_aload_n dX7_tells_91 rfl ?_
                refine x_get (v := .ref 11) f_X7_19 (F8.at (by omega) k0) rfl dX7_tells_92 ?_
                refine x_aload_n dX7_tells_95 rfl ?_
                refine x_get (v := .ref 1) f_X7_10 (F8.at (by omega) k0) rfl dX7_tells_96 ?_
                refine x_callV m_X2_become l_X7_168 (c_become (hT9.fr F8 (by omega)) (h.fr F8 (by omega)) (by omega)) rfl (F8.at (by omega) t0) (by omega) rfl rfl (Nat.le_of_ble_eq_true rfl) ⟨Nat.le_refl _, Nat.le_refl _⟩ dX7_tells_99 (fun r12 s12 q12 => ?_)
                obtain ⟨rfl, P12, F12⟩ := q12
                refine x_stk (st' := []) rfl ?_
                refine x_iload_n dX7_tells_102 rfl ?_
                refine x_iconst (v := nI 1) dX7_tells_103 (by decide) ?_
                refine x_icmpN_ne (tgt := 113) dX7_tells_104 (by decide) (by omega) (by omega) (fun hv13 => ?_) (fun hv13 => ?_)
                · exact absurd hv13 (by decide)
                · refine x_aload_n dX7_tells_107 rfl ?_
                  refine x_iload_n dX7_tells_108 rfl ?_
                  refine x_callV m_X7_fittingKinds l_X7_252 (c_fitKinds (by omega) (by omega) hA1 hA7 hsA (F12.at (by omega) (F8.at (by omega) k0)) P12 ((T8 _ hA9).fr F12 (by omega))) rfl (F12.at (by omega) (F8.at (by omega) k0)) (by omega) rfl rfl (Nat.le_of_ble_eq_true rfl) ⟨Nat.le_refl _, Nat.le_refl _⟩ dX7_tells_109 (fun r14 s14 q14 => ?_)
                  obtain ⟨rfl, J14, Q14, F14⟩ := q14
                  refine x_stk (st' := [.int (nI ((fitB (fun v => decide (unlT rr n (K.set o v) N D (sh i).2.1 (tOf (sh i).2.2 (sh i).2.1) (-1) = none)) 6)))]) rfl ?_
                  exact x_iret ⟨Nat.le_refl _, Nat.le_refl _⟩ rfl dX7_tells_112 ⟨rfl, J14, Q14, (((Fr.rf.tr (F8.mono (fun i hi => by omega))).tr (F12.mono (fun i hi => by omega))).tr (F14.mono (fun i hi => by omega)))⟩
              · exact absurd hv11 (by decide)
            · exact absurd hsn hv10
        · exact absurd hv7 hne'
      · exact absurd hv6 (by decide)
set_option maxHeartbeats 4000000 in
theorem c_tells2 {σ : ZS} {tx ik : Int32} (k0 : zg σ 0 = some (.inr (.inr (6, [.ref 1, .ref 6, .ref 11, .ref 16, .ref 22, .ref 28, .ref 31, .int tx, .int ik])))) {rr dn ru n : Nat} {K N : List Nat} {W : List Int32} {D : List Nat} (h : Pa σ 1 (nI rr) (nI dn) (nI ru) n K N W D) (hr1 : rr ≤ 1) (hJ : SeJ σ) {sh : Nat → SH} (hS : CSH σ sh) (hG : SHG sh) {i : Nat} (hi4 : i < 4) (hne : ¬ (sh i).1 = -1) {A : Nat} (hA9 : (tbS n (sh i).2.2 (sh i).2.1) = some A) (hsn : (sh i).2.1 = n) {o : Nat} (ho : o < n) (h11 : PaJ σ 11) : Cn 6 M_X7_tells 0 0 [.ref 0, .int (nI i), .int (nI o), .int (nI 2)] σ (fun r9 σ' => r9 = some (.int (nI (fitB (fun v => decide (unlT rr n K (N.set o v) D (sh i).2.1 (tOf (sh i).2.2 (sh i).2.1) (-1) = none)) 10))) ∧ SeJ σ' ∧ PaJ σ' 11 ∧ Fr (fun i => (11 ≤ i ∧ i ≤ 15) ∨ (22 ≤ i ∧ i ≤ 25)) σ σ') := by
  obtain ⟨g31, hS2⟩ := id hS
  obtain ⟨s0, s1⟩ := hS2 i hi4
  obtain ⟨hso9, hz40, hl40⟩ := hG i hi4
  have hne' : ¬ ((sh i).1).toInt = -1 := fun q => hne (Int32.toInt_inj.mp q)
  obtain ⟨bw8, am8, sz8, rd8, jd8, fd8, en8, e0⟩ := hJ.ok
  obtain ⟨ro9, di9, ru9, n9, K9, N9, W9, D9, hT9⟩ := id h11
  have t0 := hT9.1
  have hn7 := h.2.2.2.2.2.1
  obtain ⟨hAn, hA2, hpA, -, -, hsA, hDi⟩ := tbS_ok hn7 hA9
  have hA7 : A < 128 := Nat.lt_of_lt_of_le hA2 (two_le hn7)
  have hA1 : A.testBit o = true := popc_all n (by omega) A hA2 (by omega) o ho
  have hw : (2 : Nat) ≤ 2 ∨ (10 ≤ 2 ∧ 2 < 30 ∧ 2 % 10 < n ∧ o ≠ 2 % 10) := Or.inl (by omega)
  refine Cn.intro (lv0 := [some (.ref 0), some (.int (nI i)), some (.int (nI o)), some (.int (nI 2))]) rfl (Nat.le_of_ble_eq_true rfl) rfl (fun d hd => ?_)
  refine x_iload_n dX7_tells_0 rfl ?_
  refine x_callS m_X7_isSheet l_X7_153 (c_isSheetP (p := ((i : Nat) : Int)) (nI_toInt (by omega))) (by omega) rfl rfl (Nat.le_of_ble_eq_true rfl) ⟨Nat.le_refl _, Nat.le_refl _⟩ dX7_tells_1 (fun r1 s1 q1 => ?_)
  obtain ⟨rfl, eq1⟩ := q1
  obtain rfl := eq1.symm
  refine x_stk (st' := [.int (bI (decide (0 ≤ ((i : Nat) : Int) ∧ ((i : Nat) : Int) ≤ 3)))]) rfl ?_
  refine x_ifP_eq (P := 0 ≤ ((i : Nat) : Int) ∧ ((i : Nat) : Int) ≤ 3) inferInstance (tgt := 27) dX7_tells_4 (by decide) (fun hv2 => ?_) (fun hv2 => ?_)
  · exact absurd hv2 (by omega)
  · refine x_aload_n dX7_tells_7 rfl ?_
    refine x_get (v := .ref 1) f_X7_10 k0 rfl dX7_tells_8 ?_
    refine x_iload_n dX7_tells_11 rfl ?_
    refine x_callV m_X2_has l_X7_82 (c_hasP h (p := ((o : Nat) : Int)) (nI_toInt (by omega))) rfl h.1 (by omega) rfl rfl (Nat.le_of_ble_eq_true rfl) ⟨Nat.le_refl _, Nat.le_refl _⟩ dX7_tells_12 (fun r3 s3 q3 => ?_)
    obtain ⟨rfl, eq3⟩ := q3
    obtain rfl := eq3.symm
    refine x_stk (st' := [.int (bI (decide (0 ≤ ((o : Nat) : Int) ∧ ((o : Nat) : Int) < (n : Int))))]) rfl ?_
    refine x_ifP_eq (P := 0 ≤ ((o : Nat) : Int) ∧ ((o : Nat) : Int) < (n : Int)) inferInstance (tgt := 27) dX7_tells_15 (by decide) (fun hv4 => ?_) (fun hv4 => ?_)
    · exact absurd hv4 (by omega)
    · refine x_aload_n dX7_tells_18 rfl ?_
      refine x_iload_n dX7_tells_19 rfl ?_
      refine x_iload_n dX7_tells_20 rfl ?_
      refine x_callV m_X7_isTellable l_X7_248 (c_isTellable_g k0 h ho hw) rfl k0 (by omega) rfl rfl (Nat.le_of_ble_eq_true rfl) ⟨Nat.le_refl _, Nat.le_refl _⟩ dX7_tells_21 (fun r5 s5 q5 => ?_)
      obtain ⟨rfl, eq5⟩ := q5
      obtain rfl := eq5.symm
      refine x_stk (st' := [.int (nI 1)]) rfl ?_
      refine x_ifN_ne (tgt := 30) dX7_tells_24 (by decide) (by omega) (fun hv6 => ?_) (fun hv6 => ?_)
      · refine x_aload_n dX7_tells_30 rfl ?_
        refine x_get (v := .ref 31) f_X7_45 k0 rfl dX7_tells_31 ?_
        refine x_iload_n dX7_tells_34 rfl ?_
        refine x_aald (Or.inr rfl) g31 rfl (sh_aa hi4) dX7_tells_35 ?_
        refine x_get (v := .int ((sh i).1)) f_X7_179 s0 rfl dX7_tells_36 ?_
        refine x_iconst (v := (-1)) dX7_tells_39 (by decide) ?_
        refine x_icmpT_ne (p := ((sh i).1).toInt) (q := (-1)) (tgt := 46) rfl (by decide) dX7_tells_40 (by decide) (fun hv7 => ?_) (fun hv7 => ?_)
        · refine x_aload_n dX7_tells_46 rfl ?_
          refine x_aload_n dX7_tells_47 rfl ?_
          refine x_get (v := .ref 31) f_X7_45 k0 rfl dX7_tells_48 ?_
          refine x_iload_n dX7_tells_51 rfl ?_
          refine x_aald (Or.inr rfl) g31 rfl (sh_aa hi4) dX7_tells_52 ?_
          refine x_callV m_X7_isTable l_X7_156 (c_isTable k0 h hr1 hl40 (by omega) (by omega) s0 s1 hz40 hJ hne') rfl k0 (by omega) rfl rfl (Nat.le_of_ble_eq_true rfl) ⟨Nat.le_refl _, Nat.le_refl _⟩ dX7_tells_53 (fun r8 s8 q8 => ?_)
          obtain ⟨rfl, J8, T8, F8⟩ := q8
          obtain ⟨bw8, jd8, fd8, en8, e0_8⟩ := (T8 _ hA9).ok
          refine x_stk (st' := [.int (bI ((tbS n (sh i).2.2 (sh i).2.1).isSome))]) rfl ?_
          refine x_ifB_eq (tgt := 76) dX7_tells_56 (by decide) (fun hv9 => ?_) (fun hv9 => ?_)
          · exact absurd (hv9.symm.trans (congrArg Option.isSome hA9)) (fun z => Bool.noConfusion z)
          · refine x_aload_n dX7_tells_59 rfl ?_
            refine x_get (v := .ref 22) f_X7_32 (F8.at (by omega) k0) rfl dX7_tells_60 ?_
            refine x_get (v := .int (nI ((sh i).2.1))) f_X7_251 e0_8 rfl dX7_tells_63 ?_
            refine x_aload_n dX7_tells_66 rfl ?_
            refine x_get (v := .ref 1) f_X7_10 (F8.at (by omega) k0) rfl dX7_tells_67 ?_
            refine x_get (v := .int (nI n)) f_X7_98 (F8.at (by omega) h.1) rfl dX7_tells_70 ?_
            refine x_icmpN_eq (tgt := 79) dX7_tells_73 (by decide) (by omega) (by omega) (fun hv10 => ?_) (fun hv10 => ?_)
            · refine x_iload_n dX7_tells_79 rfl ?_
              refine x_ifN_ne (tgt := 91) dX7_tells_80 (by decide) (by omega) (fun hv11 => ?_) (fun hv11 => ?_)
              · refine x_aload_n dX7_tells_91 rfl ?_
                refine x_get (v := .ref 11) f_X7_19 (F8.at (by omega) k0) rfl dX7_tells_92 ?_
                refine x_aload_n dX7_tells_95 rfl ?_
                refine x_get (v := .ref 1) f_X7_10 (F8.at (by omega) k0) rfl dX7_tells_96 ?_
                refine x_callV m_X2_become l_X7_168 (c_become (hT9.fr F8 (by omega)) (h.fr F8 (by omega)) (by omega)) rfl (F8.at (by omega) t0) (by omega) rfl rfl (Nat.le_of_ble_eq_true rfl) ⟨Nat.le_refl _, Nat.le_refl _⟩ dX7_tells_99 (fun r12 s12 q12 => ?_)
                obtain ⟨rfl, P12, F12⟩ := q12
                refine x_stk (st' := []) rfl ?_
                refine x_iload_n dX7_tells_102 rfl ?_
                refine x_iconst (v := nI 1) dX7_tells_103 (by decide) ?_
                refine x_icmpN_ne (tgt := 113) dX7_tells_104 (by decide) (by omega) (by omega) (fun hv13 => ?_) (fun hv13 => ?_)
                · refine x_iload_n dX7_tells_113 rfl ?_
                  refine x_iconst (v := nI 2) dX7_tells_114 (by decide) ?_
                  refine x_icmpN_ne (tgt := 124) dX7_tells_115 (by decide) (by omega) (by omega) (fun hv14 => ?_) (fun hv14 => ?_)
                  · exact absurd hv14 (by decide)
                  · refine x_aload_n dX7_tells_118 rfl ?_
                    refine x_iload_n dX7_tells_119 rfl ?_
                    refine x_callV m_X7_fittingNumbers l_X7_255 (c_fitNumbers (by omega) (by omega) hA1 hA7 hsA (F12.at (by omega) (F8.at (by omega) k0)) P12 ((T8 _ hA9).fr F12 (by omega))) rfl (F12.at (by omega) (F8.at (by omega) k0)) (by omega) rfl rfl (Nat.le_of_ble_eq_true rfl) ⟨Nat.le_refl _, Nat.le_refl _⟩ dX7_tells_120 (fun r15 s15 q15 => ?_)
                    obtain ⟨rfl, J15, Q15, F15⟩ := q15
                    refine x_stk (st' := [.int (nI ((fitB (fun v => decide (unlT rr n K (N.set o v) D (sh i).2.1 (tOf (sh i).2.2 (sh i).2.1) (-1) = none)) 10)))]) rfl ?_
                    exact x_iret ⟨Nat.le_refl _, Nat.le_refl _⟩ rfl dX7_tells_123 ⟨rfl, J15, Q15, (((Fr.rf.tr (F8.mono (fun i hi => by omega))).tr (F12.mono (fun i hi => by omega))).tr (F15.mono (fun i hi => by omega)))⟩
                · exact absurd hv13 (by decide)
              · exact absurd hv11 (by decide)
            · exact absurd hsn hv10
        · exact absurd hv7 hne'
      · exact absurd hv6 (by decide)
set_option maxHeartbeats 4000000 in
theorem c_tellsN {σ : ZS} {tx ik : Int32} (k0 : zg σ 0 = some (.inr (.inr (6, [.ref 1, .ref 6, .ref 11, .ref 16, .ref 22, .ref 28, .ref 31, .int tx, .int ik])))) {rr dn ru n : Nat} {K N : List Nat} {W : List Int32} {D : List Nat} (h : Pa σ 1 (nI rr) (nI dn) (nI ru) n K N W D) (hr1 : rr ≤ 1) (hJ : SeJ σ) {sh : Nat → SH} (hS : CSH σ sh) (hG : SHG sh) {i : Nat} (hi4 : i < 4) (hne : ¬ (sh i).1 = -1) {A : Nat} (hA9 : (tbS n (sh i).2.2 (sh i).2.1) = some A) (hsn : (sh i).2.1 = n) {o w : Nat} (ho : o < n) (hw9 : 10 ≤ w ∧ w < 30) (hwn : w % 10 < n) (hwo : o ≠ w % 10) (h11 : PaJ σ 11) : Cn 6 M_X7_tells 0 0 [.ref 0, .int (nI i), .int (nI o), .int (nI w)] σ (fun r9 σ' => r9 = some (.int (if w < 20 then nI (fitC (fun v => decide (unlT rr n K N (D.set (o * 7 + w % 10) v) (sh i).2.1 (tOf (sh i).2.2 (sh i).2.1) (-1) = none)) 1000) else oI (fitM (fun v => decide (unlT rr n K N (D.set (o * 7 + w % 10) v) (sh i).2.1 (tOf (sh i).2.2 (sh i).2.1) (-1) = none)) 1000))) ∧ SeJ σ' ∧ PaJ σ' 11 ∧ Fr (fun i => (11 ≤ i ∧ i ≤ 15) ∨ (22 ≤ i ∧ i ≤ 25)) σ σ') := by
  obtain ⟨g31, hS2⟩ := id hS
  obtain ⟨s0, s1⟩ := hS2 i hi4
  obtain ⟨hso9, hz40, hl40⟩ := hG i hi4
  have hne' : ¬ ((sh i).1).toInt = -1 := fun q => hne (Int32.toInt_inj.mp q)
  obtain ⟨bw8, am8, sz8, rd8, jd8, fd8, en8, e0⟩ := hJ.ok
  obtain ⟨ro9, di9, ru9, n9, K9, N9, W9, D9, hT9⟩ := id h11
  have t0 := hT9.1
  have hn7 := h.2.2.2.2.2.1
  obtain ⟨hAn, hA2, hpA, -, -, hsA, hDi⟩ := tbS_ok hn7 hA9
  have hA7 : A < 128 := Nat.lt_of_lt_of_le hA2 (two_le hn7)
  have hA1 : A.testBit o = true := popc_all n (by omega) A hA2 (by omega) o ho
  have hw : w ≤ 2 ∨ (10 ≤ w ∧ w < 30 ∧ w % 10 < n ∧ o ≠ w % 10) := Or.inr ⟨hw9.1, hw9.2, hwn, hwo⟩
  refine Cn.intro (lv0 := [some (.ref 0), some (.int (nI i)), some (.int (nI o)), some (.int (nI w))]) rfl (Nat.le_of_ble_eq_true rfl) rfl (fun d hd => ?_)
  refine x_iload_n dX7_tells_0 rfl ?_
  refine x_callS m_X7_isSheet l_X7_153 (c_isSheetP (p := ((i : Nat) : Int)) (nI_toInt (by omega))) (by omega) rfl rfl (Nat.le_of_ble_eq_true rfl) ⟨Nat.le_refl _, Nat.le_refl _⟩ dX7_tells_1 (fun r1 s1 q1 => ?_)
  obtain ⟨rfl, eq1⟩ := q1
  obtain rfl := eq1.symm
  refine x_stk (st' := [.int (bI (decide (0 ≤ ((i : Nat) : Int) ∧ ((i : Nat) : Int) ≤ 3)))]) rfl ?_
  refine x_ifP_eq (P := 0 ≤ ((i : Nat) : Int) ∧ ((i : Nat) : Int) ≤ 3) inferInstance (tgt := 27) dX7_tells_4 (by decide) (fun hv2 => ?_) (fun hv2 => ?_)
  · exact absurd hv2 (by omega)
  · refine x_aload_n dX7_tells_7 rfl ?_
    refine x_get (v := .ref 1) f_X7_10 k0 rfl dX7_tells_8 ?_
    refine x_iload_n dX7_tells_11 rfl ?_
    refine x_callV m_X2_has l_X7_82 (c_hasP h (p := ((o : Nat) : Int)) (nI_toInt (by omega))) rfl h.1 (by omega) rfl rfl (Nat.le_of_ble_eq_true rfl) ⟨Nat.le_refl _, Nat.le_refl _⟩ dX7_tells_12 (fun r3 s3 q3 => ?_)
    obtain ⟨rfl, eq3⟩ := q3
    obtain rfl := eq3.symm
    refine x_stk (st' := [.int (bI (decide (0 ≤ ((o : Nat) : Int) ∧ ((o : Nat) : Int) < (n : Int))))]) rfl ?_
    refine x_ifP_eq (P := 0 ≤ ((o : Nat) : Int) ∧ ((o : Nat) : Int) < (n : Int)) inferInstance (tgt := 27) dX7_tells_15 (by decide) (fun hv4 => ?_) (fun hv4 => ?_)
    · exact absurd hv4 (by omega)
    · refine x_aload_n dX7_tells_18 rfl ?_
      refine x_iload_n dX7_tells_19 rfl ?_
      refine x_iload_n dX7_tells_20 rfl ?_
      refine x_callV m_X7_isTellable l_X7_248 (c_isTellable_g k0 h ho hw) rfl k0 (by omega) rfl rfl (Nat.le_of_ble_eq_true rfl) ⟨Nat.le_refl _, Nat.le_refl _⟩ dX7_tells_21 (fun r5 s5 q5 => ?_)
      obtain ⟨rfl, eq5⟩ := q5
      obtain rfl := eq5.symm
      refine x_stk (st' := [.int (nI 1)]) rfl ?_
      refine x_ifN_ne (tgt := 30) dX7_tells_24 (by decide) (by omega) (fun hv6 => ?_) (fun hv6 => ?_)
      · refine x_aload_n dX7_tells_30 rfl ?_
        refine x_get (v := .ref 31) f_X7_45 k0 rfl dX7_tells_31 ?_
        refine x_iload_n dX7_tells_34 rfl ?_
        refine x_aald (Or.inr rfl) g31 rfl (sh_aa hi4) dX7_tells_35 ?_
        refine x_get (v := .int ((sh i).1)) f_X7_179 s0 rfl dX7_tells_36 ?_
        refine x_iconst (v := (-1)) dX7_tells_39 (by decide) ?_
        refine x_icmpT_ne (p := ((sh i).1).toInt) (q := (-1)) (tgt := 46) rfl (by decide) dX7_tells_40 (by decide) (fun hv7 => ?_) (fun hv7 => ?_)
        · refine x_aload_n dX7_tells_46 rfl ?_
          refine x_aload_n dX7_tells_47 rfl ?_
          refine x_get (v := .ref 31) f_X7_45 k0 rfl dX7_tells_48 ?_
          refine x_iload_n dX7_tells_51 rfl ?_
          refine x_aald (Or.inr rfl) g31 rfl (sh_aa hi4) dX7_tells_52 ?_
          refine x_callV m_X7_isTable l_X7_156 (c_isTable k0 h hr1 hl40 (by omega) (by omega) s0 s1 hz40 hJ hne') rfl k0 (by omega) rfl rfl (Nat.le_of_ble_eq_true rfl) ⟨Nat.le_refl _, Nat.le_refl _⟩ dX7_tells_53 (fun r8 s8 q8 => ?_)
          obtain ⟨rfl, J8, T8, F8⟩ := q8
          obtain ⟨bw8, jd8, fd8, en8, e0_8⟩ := (T8 _ hA9).ok
          refine x_stk (st' := [.int (bI ((tbS n (sh i).2.2 (sh i).2.1).isSome))]) rfl ?_
          refine x_ifB_eq (tgt := 76) dX7_tells_56 (by decide) (fun hv9 => ?_) (fun hv9 => ?_)
          · exact absurd (hv9.symm.trans (congrArg Option.isSome hA9)) (fun z => Bool.noConfusion z)
          · refine x_aload_n dX7_tells_59 rfl ?_
            refine x_get (v := .ref 22) f_X7_32 (F8.at (by omega) k0) rfl dX7_tells_60 ?_
            refine x_get (v := .int (nI ((sh i).2.1))) f_X7_251 e0_8 rfl dX7_tells_63 ?_
            refine x_aload_n dX7_tells_66 rfl ?_
            refine x_get (v := .ref 1) f_X7_10 (F8.at (by omega) k0) rfl dX7_tells_67 ?_
            refine x_get (v := .int (nI n)) f_X7_98 (F8.at (by omega) h.1) rfl dX7_tells_70 ?_
            refine x_icmpN_eq (tgt := 79) dX7_tells_73 (by decide) (by omega) (by omega) (fun hv10 => ?_) (fun hv10 => ?_)
            · refine x_iload_n dX7_tells_79 rfl ?_
              refine x_ifN_ne (tgt := 91) dX7_tells_80 (by decide) (by omega) (fun hv11 => ?_) (fun hv11 => ?_)
              · refine x_aload_n dX7_tells_91 rfl ?_
                refine x_get (v := .ref 11) f_X7_19 (F8.at (by omega) k0) rfl dX7_tells_92 ?_
                refine x_aload_n dX7_tells_95 rfl ?_
                refine x_get (v := .ref 1) f_X7_10 (F8.at (by omega) k0) rfl dX7_tells_96 ?_
                refine x_callV m_X2_become l_X7_168 (c_become (hT9.fr F8 (by omega)) (h.fr F8 (by omega)) (by omega)) rfl (F8.at (by omega) t0) (by omega) rfl rfl (Nat.le_of_ble_eq_true rfl) ⟨Nat.le_refl _, Nat.le_refl _⟩ dX7_tells_99 (fun r12 s12 q12 => ?_)
                obtain ⟨rfl, P12, F12⟩ := q12
                refine x_stk (st' := []) rfl ?_
                refine x_iload_n dX7_tells_102 rfl ?_
                refine x_iconst (v := nI 1) dX7_tells_103 (by decide) ?_
                refine x_icmpN_ne (tgt := 113) dX7_tells_104 (by decide) (by omega) (by omega) (fun hv13 => ?_) (fun hv13 => ?_)
                · refine x_iload_n dX7_tells_113 rfl ?_
                  refine x_iconst (v := nI 2) dX7_tells_114 (by decide) ?_
                  refine x_icmpN_ne (tgt := 124) dX7_tells_115 (by decide) (by omega) (by omega) (fun hv14 => ?_) (fun hv14 => ?_)
                  · refine x_iload_n dX7_tells_124 rfl ?_
                    refine x_bipush (v := nI 20) dX7_tells_125 (by decide) ?_
                    refine x_icmpN_ge (tgt := 142) dX7_tells_127 (by decide) (by omega) (by omega) (fun hv15 => ?_) (fun hv15 => ?_)
                    · refine x_aload_n dX7_tells_142 rfl ?_
                      refine x_iload_n dX7_tells_143 rfl ?_
                      refine x_iload_n dX7_tells_144 rfl ?_
                      refine x_bipush (v := nI 20) dX7_tells_145 (by decide) ?_
                      refine x_isubN (by omega) dX7_tells_147 ?_
                      refine x_callV m_X7_greatestDebt l_X7_261 (c_greatest (by omega) (by omega) (by omega) hA1 hA7 hsA (F12.at (by omega) (F8.at (by omega) k0)) P12 ((T8 _ hA9).fr F12 (by omega))) rfl (F12.at (by omega) (F8.at (by omega) k0)) (by omega) rfl rfl (Nat.le_of_ble_eq_true rfl) ⟨Nat.le_refl _, Nat.le_refl _⟩ dX7_tells_148 (fun r16 s16 q16 => ?_)
                      obtain ⟨rfl, J16, Q16, F16⟩ := q16
                      refine x_stk (st' := [.int ((oI (fitM (fun v => decide (unlT rr n K N (D.set (o * 7 + (w - 20)) v) (sh i).2.1 (tOf (sh i).2.2 (sh i).2.1) (-1) = none)) 1000)))]) rfl ?_
                      exact x_iret ⟨Nat.le_refl _, Nat.le_refl _⟩ rfl dX7_tells_151 ⟨by rw [if_neg (show ¬ w < 20 by omega), show w % 10 = w - 20 by omega], J16, Q16, (((Fr.rf.tr (F8.mono (fun i hi => by omega))).tr (F12.mono (fun i hi => by omega))).tr (F16.mono (fun i hi => by omega)))⟩
                    · refine x_aload_n dX7_tells_130 rfl ?_
                      refine x_iload_n dX7_tells_131 rfl ?_
                      refine x_iload_n dX7_tells_132 rfl ?_
                      refine x_bipush (v := nI 10) dX7_tells_133 (by decide) ?_
                      refine x_isubN (by omega) dX7_tells_135 ?_
                      refine x_callV m_X7_fittingDebts l_X7_258 (c_fitDebts (by omega) (by omega) (by omega) hA1 hA7 hsA (F12.at (by omega) (F8.at (by omega) k0)) P12 ((T8 _ hA9).fr F12 (by omega))) rfl (F12.at (by omega) (F8.at (by omega) k0)) (by omega) rfl rfl (Nat.le_of_ble_eq_true rfl) ⟨Nat.le_refl _, Nat.le_refl _⟩ dX7_tells_136 (fun r17 s17 q17 => ?_)
                      obtain ⟨rfl, J17, Q17, F17⟩ := q17
                      refine x_stk (st' := [.int ((nI (fitC (fun v => decide (unlT rr n K N (D.set (o * 7 + (w - 10)) v) (sh i).2.1 (tOf (sh i).2.2 (sh i).2.1) (-1) = none)) 1000)))]) rfl ?_
                      refine x_goto (tgt := 151) dX7_tells_139 (by decide) ?_
                      exact x_iret ⟨Nat.le_refl _, Nat.le_refl _⟩ rfl dX7_tells_151 ⟨by rw [if_pos (show w < 20 by omega), show w % 10 = w - 10 by omega], J17, Q17, (((Fr.rf.tr (F8.mono (fun i hi => by omega))).tr (F12.mono (fun i hi => by omega))).tr (F17.mono (fun i hi => by omega)))⟩
                  · exact absurd hv14 (by omega)
                · exact absurd hv13 (by omega)
              · exact absurd hv11 (by omega)
            · exact absurd hsn hv10
        · exact absurd hv7 hne'
      · exact absurd hv6 (by decide)
