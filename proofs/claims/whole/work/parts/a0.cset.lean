/-! the class's own calls: checks -/
theorem bI_d {b : Bool} {P : Prop} {i : Decidable P} (h : b = true ↔ P) : bI b = bI (@decide P i) := bI_p b i h
theorem c_within {σ : ZS} {v lo hi : Int32} {p q r : Int} (hv : v.toInt = p) (hlo : lo.toInt = q) (hhi : hi.toInt = r) : Cn 0 M_X7_isWithin 0 0 [.int v, .int lo, .int hi] σ (fun r9 σ' => r9 = some (.int (bI (decide (q ≤ p ∧ p ≤ r)))) ∧ σ' = σ) := by
  have e := bI_d (b := inB v lo hi) (P := q ≤ p ∧ p ≤ r) (i := inferInstance) (by rw [inB, Bool.and_eq_true, decide_eq_true_eq, decide_eq_true_eq, Int32.le_iff_toInt_le, Int32.le_iff_toInt_le, hv, hlo, hhi])
  rw [← e]
  exact c_isWithin v lo hi
theorem hasB_iff {n : Nat} {x : Int32} {p : Int} (hn : n ≤ 7) (hx : x.toInt = p) : hasB n x = true ↔ 0 ≤ p ∧ p < (n : Int) := by
  rw [hasB, Bool.and_eq_true, decide_eq_true_eq, decide_eq_true_eq, Int32.le_iff_toInt_le, Int32.lt_iff_toInt_lt, hx, nI_toInt (by omega), Int32.toInt_zero]
theorem c_hasP {σ : ZS} {p0 : Nat} {ro di ru : Int32} {n : Nat} {K N : List Nat} {Wt : List Int32} {D : List Nat} (h : Pa σ p0 ro di ru n K N Wt D) {x : Int32} {p : Int} (hx : x.toInt = p) : Cn 0 M_X2_has 0 0 [.ref p0, .int x] σ (fun r9 σ' => r9 = some (.int (bI (decide (0 ≤ p ∧ p < (n : Int))))) ∧ σ' = σ) := by
  rw [← bI_d (hasB_iff h.2.2.2.2.2.1 hx)]
  exact c_has h x
theorem c_bothP {σ : ZS} {p0 : Nat} {ro di ru : Int32} {n : Nat} {K N : List Nat} {Wt : List Int32} {D : List Nat} (h : Pa σ p0 ro di ru n K N Wt D) {x y : Int32} {p q : Int} (hx : x.toInt = p) (hy : y.toInt = q) : Cn 1 M_X2_hasBoth 0 0 [.ref p0, .int x, .int y] σ (fun r9 σ' => r9 = some (.int (bI (decide ((0 ≤ p ∧ p < (n : Int)) ∧ (0 ≤ q ∧ q < (n : Int)) ∧ ¬ p = q)))) ∧ σ' = σ) := by
  have e := bI_d (b := hasB n x && hasB n y && !decide (x = y)) (P := (0 ≤ p ∧ p < (n : Int)) ∧ (0 ≤ q ∧ q < (n : Int)) ∧ ¬ p = q) (i := inferInstance) (by
    rw [Bool.and_eq_true, Bool.and_eq_true, hasB_iff h.2.2.2.2.2.1 hx, hasB_iff h.2.2.2.2.2.1 hy, Bool.not_eq_true', decide_eq_false_iff_not, and_assoc, ← Int32.toInt_inj, hx, hy])
  rw [← e]
  exact c_hasBoth h x y
theorem c_kindP {σ : ZS} {x : Int32} {p : Int} (hx : x.toInt = p) : Cn 1 M_X0_isKind 0 0 [.int x] σ (fun r9 σ' => r9 = some (.int (bI (decide (0 ≤ p ∧ p ≤ 5)))) ∧ σ' = σ) := by
  have e := bI_d (b := inB x (nI 0) (nI 5)) (P := 0 ≤ p ∧ p ≤ 5) (i := inferInstance) (by rw [inB, Bool.and_eq_true, decide_eq_true_eq, decide_eq_true_eq, Int32.le_iff_toInt_le, Int32.le_iff_toInt_le, hx]; rfl)
  rw [← e]
  exact c_isKind x
set_option maxHeartbeats 4000000 in
theorem c_isSheetP {σ : ZS} {x : Int32} {p : Int} (hx : x.toInt = p) : Cn 1 M_X7_isSheet 0 0 [.int x] σ (fun r9 σ' => r9 = some (.int (bI (decide (0 ≤ p ∧ p ≤ 3)))) ∧ σ' = σ) := by
  refine Cn.intro (lv0 := [some (.int x)]) rfl (Nat.le_of_ble_eq_true rfl) rfl (fun d hd => ?_)
  refine x_iload_n dX7_isSheet_0 rfl ?_
  refine x_iconst (v := nI 0) dX7_isSheet_1 (by decide) ?_
  refine x_iconst (v := nI 3) dX7_isSheet_2 (by decide) ?_
  refine x_callS m_X7_isWithin l_X7_72 (c_within (p := p) (q := ((0 : Nat) : Int)) (r := ((3 : Nat) : Int)) hx (nI_toInt (by omega)) (nI_toInt (by omega))) (by omega) rfl rfl (Nat.le_of_ble_eq_true rfl) ⟨Nat.le_refl _, Nat.le_refl _⟩ dX7_isSheet_3 (fun r1 s1 q1 => ?_)
  obtain ⟨rfl, eq1⟩ := q1
  obtain rfl := eq1.symm
  refine x_stk (st' := [.int (bI (decide (((0 : Nat) : Int) ≤ p ∧ p ≤ ((3 : Nat) : Int))))]) rfl ?_
  exact x_zret ⟨Nat.le_refl _, Nat.le_refl _⟩ rfl (bI_nar _) dX7_isSheet_6 ⟨rfl, rfl⟩
set_option maxHeartbeats 4000000 in
theorem c_isSortP {σ : ZS} {x : Int32} {p : Int} (hx : x.toInt = p) : Cn 1 M_X7_isSort 0 0 [.int x] σ (fun r9 σ' => r9 = some (.int (bI (decide (0 ≤ p ∧ p ≤ 2)))) ∧ σ' = σ) := by
  refine Cn.intro (lv0 := [some (.int x)]) rfl (Nat.le_of_ble_eq_true rfl) rfl (fun d hd => ?_)
  refine x_iload_n dX7_isSort_0 rfl ?_
  refine x_iconst (v := nI 0) dX7_isSort_1 (by decide) ?_
  refine x_iconst (v := nI 2) dX7_isSort_2 (by decide) ?_
  refine x_callS m_X7_isWithin l_X7_72 (c_within (p := p) (q := ((0 : Nat) : Int)) (r := ((2 : Nat) : Int)) hx (nI_toInt (by omega)) (nI_toInt (by omega))) (by omega) rfl rfl (Nat.le_of_ble_eq_true rfl) ⟨Nat.le_refl _, Nat.le_refl _⟩ dX7_isSort_3 (fun r1 s1 q1 => ?_)
  obtain ⟨rfl, eq1⟩ := q1
  obtain rfl := eq1.symm
  refine x_stk (st' := [.int (bI (decide (((0 : Nat) : Int) ≤ p ∧ p ≤ ((2 : Nat) : Int))))]) rfl ?_
  exact x_zret ⟨Nat.le_refl _, Nat.le_refl _⟩ rfl (bI_nar _) dX7_isSort_6 ⟨rfl, rfl⟩
set_option maxHeartbeats 4000000 in
theorem c_setRound {σ : ZS} {tx ik : Int32} (k0 : zg σ 0 = some (.inr (.inr (6, [.ref 1, .ref 6, .ref 11, .ref 16, .ref 22, .ref 28, .ref 31, .int tx, .int ik])))) {rr dn ru n : Nat} {K N : List Nat} {W : List Int32} {D : List Nat} (h : Pa σ 1 (nI rr) (nI dn) (nI ru) n K N W D) {v : Nat} (hv : v ≤ 1) : Cn 1 M_X7_setRound 0 0 [.ref 0, .int (nI v)] σ (fun r9 σ' => r9 = some (.int (nI rr)) ∧ Pa σ' 1 (nI v) (nI dn) (nI ru) n K N W D ∧ Fr (fun i => 1 ≤ i ∧ i ≤ 5) σ σ') := by
  obtain ⟨g0, g1, g2, g3, g4, hn7, hK7, hN7, hW7, hD49, hK5, hN9, hD999⟩ := id h
  refine Cn.intro (lv0 := [some (.ref 0), some (.int (nI v)), none]) rfl (Nat.le_of_ble_eq_true rfl) rfl (fun d hd => ?_)
  refine x_iload_n dX7_setRound_0 rfl ?_
  refine x_iconst (v := nI 0) dX7_setRound_1 (by decide) ?_
  refine x_iconst (v := nI 1) dX7_setRound_2 (by decide) ?_
  refine x_callS m_X7_isWithin l_X7_72 (c_within (p := ((v : Nat) : Int)) (q := ((0 : Nat) : Int)) (r := ((1 : Nat) : Int)) (nI_toInt (by omega)) (nI_toInt (by omega)) (nI_toInt (by omega))) (by omega) rfl rfl (Nat.le_of_ble_eq_true rfl) ⟨Nat.le_refl _, Nat.le_refl _⟩ dX7_setRound_3 (fun r1 s1 q1 => ?_)
  obtain ⟨rfl, eq1⟩ := q1
  obtain rfl := eq1.symm
  refine x_stk (st' := [.int (bI (decide (((0 : Nat) : Int) ≤ ((v : Nat) : Int) ∧ ((v : Nat) : Int) ≤ ((1 : Nat) : Int))))]) rfl ?_
  refine x_ifP_ne (P := ((0 : Nat) : Int) ≤ ((v : Nat) : Int) ∧ ((v : Nat) : Int) ≤ ((1 : Nat) : Int)) inferInstance (tgt := 12) dX7_setRound_6 (by decide) (fun hv2 => ?_) (fun hv2 => ?_)
  · refine x_aload_n dX7_setRound_12 rfl ?_
    refine x_get (v := .ref 1) f_X7_10 k0 rfl dX7_setRound_13 ?_
    refine x_get (v := .int (nI rr)) f_X7_76 g0 rfl dX7_setRound_16 ?_
    refine x_istore_n dX7_setRound_19 (by decide) rfl ?_
    refine x_lv (lv' := [some (.ref 0), some (.int (nI v)), some (.int (nI rr))]) rfl ?_
    refine x_aload_n dX7_setRound_20 rfl ?_
    refine x_get (v := .ref 1) f_X7_10 k0 rfl dX7_setRound_21 ?_
    refine x_iload_n dX7_setRound_24 rfl ?_
    refine x_putK f_X7_76 g0 (Nat.le_of_ble_eq_true rfl) (fun c => ⟨rfl, rfl⟩) dX7_setRound_25 (fun sw3 gw3 Fw3 => ?_)
    refine x_iload_n dX7_setRound_28 rfl ?_
    exact x_iret ⟨Nat.le_refl _, Nat.le_refl _⟩ rfl dX7_setRound_29 ⟨rfl, ⟨gw3, (Fw3.at (by omega) g1), (Fw3.at (by omega) g2), (Fw3.at (by omega) g3), (Fw3.at (by omega) g4), hn7, hK7, hN7, hW7, hD49, hK5, hN9, hD999⟩, (Fr.rf.tr (Fw3.mono (fun i hi => by omega)))⟩
  · exact absurd hv2 (by omega)
set_option maxHeartbeats 4000000 in
theorem c_setRound_b {σ : ZS} {tx ik : Int32} (k0 : zg σ 0 = some (.inr (.inr (6, [.ref 1, .ref 6, .ref 11, .ref 16, .ref 22, .ref 28, .ref 31, .int tx, .int ik])))) {rr dn ru n : Nat} {K N : List Nat} {W : List Int32} {D : List Nat} (h : Pa σ 1 (nI rr) (nI dn) (nI ru) n K N W D) {v : Int32} (hv : ¬ (0 ≤ v.toInt ∧ v.toInt ≤ 1)) : Cn 1 M_X7_setRound 0 0 [.ref 0, .int v] σ (fun r9 σ' => r9 = some (.int (-2)) ∧ σ' = σ) := by
  obtain ⟨g0, g1, g2, g3, g4, hn7, hK7, hN7, hW7, hD49, hK5, hN9, hD999⟩ := id h
  refine Cn.intro (lv0 := [some (.ref 0), some (.int v), none]) rfl (Nat.le_of_ble_eq_true rfl) rfl (fun d hd => ?_)
  refine x_iload_n dX7_setRound_0 rfl ?_
  refine x_iconst (v := nI 0) dX7_setRound_1 (by decide) ?_
  refine x_iconst (v := nI 1) dX7_setRound_2 (by decide) ?_
  refine x_callS m_X7_isWithin l_X7_72 (c_within (p := (v).toInt) (q := ((0 : Nat) : Int)) (r := ((1 : Nat) : Int)) rfl (nI_toInt (by omega)) (nI_toInt (by omega))) (by omega) rfl rfl (Nat.le_of_ble_eq_true rfl) ⟨Nat.le_refl _, Nat.le_refl _⟩ dX7_setRound_3 (fun r1 s1 q1 => ?_)
  obtain ⟨rfl, eq1⟩ := q1
  obtain rfl := eq1.symm
  refine x_stk (st' := [.int (bI (decide (((0 : Nat) : Int) ≤ (v).toInt ∧ (v).toInt ≤ ((1 : Nat) : Int))))]) rfl ?_
  refine x_ifP_ne (P := ((0 : Nat) : Int) ≤ (v).toInt ∧ (v).toInt ≤ ((1 : Nat) : Int)) inferInstance (tgt := 12) dX7_setRound_6 (by decide) (fun hv2 => ?_) (fun hv2 => ?_)
  · exact absurd hv2 (by omega)
  · refine x_bipush (v := (-2)) dX7_setRound_9 (by decide) ?_
    exact x_iret ⟨Nat.le_refl _, Nat.le_refl _⟩ rfl dX7_setRound_11 ⟨rfl, rfl⟩
