/-! the class's own calls: checks -/
theorem bI_d {b : Bool} {P : Prop} {i : Decidable P} (h : b = true ↔ P) : bI b = bI (@decide P i) := bI_p b i h
theorem c_within {σ : ZS} {v lo hi : Int32} {p q r : Int} (hv : v.toInt = p) (hlo : lo.toInt = q) (hhi : hi.toInt = r) : Cn 0 M_X7_isWithin 0 0 [.int v, .int lo, .int hi] σ (fun r9 σ' => r9 = some (.int (bI (decide (q ≤ p ∧ p ≤ r)))) ∧ σ' = σ) := by
  have e := bI_d (b := inB v lo hi) (P := q ≤ p ∧ p ≤ r) (i := inferInstance) (by rw [inB, Bool.and_eq_true, decide_eq_true_eq, decide_eq_true_eq, Int32.le_iff_toInt_le, Int32.le_iff_toInt_le, hv, hlo, hhi])
  rw [← e]
  exact c_isWithin v lo hi
theorem hasB_iff {n : Nat} {x : Int32} {p : Int} (hn : n ≤ 7) (hx : x.toInt = p) : hasB n x = true ↔ 0 ≤ p ∧ p < (n : Int) := by
  rw [hasB, Bool.and_eq_true, decide_eq_true_eq, decide_eq_true_eq, Int32.le_iff_toInt_le, Int32.lt_iff_toInt_lt, hx, nI_toInt (by omega), Int32.toInt_zero]
theorem c_hasP {σ : ZS} {p0 : Nat} {ro di ru : Int32} {n : Nat} {K N : List Nat} {Wt : List Int32} {D : List Nat} (h : Pa σ p0 ro di ru n K N Wt D) {x : Int32} {p : Int} (hx : x.toInt = p) : Cn 0 M_X2_has 0 0 [.ref p0, .int x] σ (fun r9 σ' => r9 = some (.int (bI (decide (0 ≤ p ∧ p < (n : Int))))) ∧ σ' = σ) := by
  rw [← bI_d (hasB_iff h.2.2.2.2.2.1 hx)]
  exact c_has h x
theorem c_bothP {σ : ZS} {p0 : Nat} {ro di ru : Int32} {n : Nat} {K N : List Nat} {Wt : List Int32} {D : List Nat} (h : Pa σ p0 ro di ru n K N Wt D) {x y : Int32} {p q : Int} (hx : x.toInt = p) (hy : y.toInt = q) : Cn 1 M_X2_hasBoth 0 0 [.ref p0, .int x, .int y] σ (fun r9 σ' => r9 = some (.int (bI (decide ((0 ≤ p ∧ p < (n : Int)) ∧ (0 ≤ q ∧ q < (n : Int)) ∧ ¬ p = q)))) ∧ σ' = σ) := by
  have e := bI_d (b := hasB n x && hasB n y && !decide (x = y)) (P := (0 ≤ p ∧ p < (n : Int)) ∧ (0 ≤ q ∧ q < (n : Int)) ∧ ¬ p = q) (i := inferInstance) (by
    rw [Bool.and_eq_true, Bool.and_eq_true, hasB_iff h.2.2.2.2.2.1 hx, hasB_iff h.2.2.2.2.2.1 hy, Bool.not_eq_true', decide_eq_false_iff_not, and_assoc, ← Int32.toInt_inj, hx, hy])
  rw [← e]
  exact c_hasBoth h x y
theorem c_kindP {σ : ZS} {x : Int32} {p : Int} (hx : x.toInt = p) : Cn 1 M_X0_isKind 0 0 [.int x] σ (fun r9 σ' => r9 = some (.int (bI (decide (0 ≤ p ∧ p ≤ 5)))) ∧ σ' = σ) := by
  have e := bI_d (b := inB x (nI 0) (nI 5)) (P := 0 ≤ p ∧ p ≤ 5) (i := inferInstance) (by rw [inB, Bool.and_eq_true, decide_eq_true_eq, decide_eq_true_eq, Int32.le_iff_toInt_le, Int32.le_iff_toInt_le, hx]; rfl)
  rw [← e]
  exact c_isKind x
set_option maxHeartbeats 4000000 in
theorem c_isSheetP {σ : ZS} {x : Int32} {p : Int} (hx : x.toInt = p) : Cn 1 M_X7_isSheet 0 0 [.int x] σ (fun r9 σ' => r9 = some (.int (bI (decide (0 ≤ p ∧ p ≤ 3)))) ∧ σ' = σ) := by
  refine Cn.intro (lv0 := [some (.int x)]) rfl (Nat.le_of_ble_eq_true rfl) rfl (fun d hd => ?_)
  refine x_iload_n dX7_isSheet_0 rfl ?_
  refine x_iconst (v := nI 0) dX7_isSheet_1 (by decide) ?_
  refine x_iconst (v := nI 3) dX7_isSheet_2 (by decide) ?_
  refine x_callS m_X7_isWithin l_X7_72 (c_within (p := p) (q := ((0 : Nat) : Int)) (r := ((3 : Nat) : Int)) hx (nI_toInt (by omega)) (nI_toInt (by omega))) (by omega) rfl rfl (Nat.le_of_ble_eq_true rfl) ⟨Nat.le_refl _, Nat.le_refl _⟩ dX7_isSheet_3 (fun r1 s1 q1 => ?_)
  obtain ⟨rfl, eq1⟩ := q1
  obtain rfl := eq1.symm
  refine x_stk (st' := [.int (bI (decide (((0 : Nat) : Int) ≤ p ∧ p ≤ ((3 : Nat) : Int))))]) rfl ?_
  exact x_zret ⟨Nat.le_refl _, Nat.le_refl _⟩ rfl (bI_nar _) dX7_isSheet_6 ⟨rfl, rfl⟩
set_option maxHeartbeats 4000000 in
theorem c_isSortP {σ : ZS} {x : Int32} {p : Int} (hx : x.toInt = p) : Cn 1 M_X7_isSort 0 0 [.int x] σ (fun r9 σ' => r9 = some (.int (bI (decide (0 ≤ p ∧ p ≤ 2)))) ∧ σ' = σ) := by
  refine Cn.intro (lv0 := [some (.int x)]) rfl (Nat.le_of_ble_eq_true rfl) rfl (fun d hd => ?_)
  refine x_iload_n dX7_isSort_0 rfl ?_
  refine x_iconst (v := nI 0) dX7_isSort_1 (by decide) ?_
  refine x_iconst (v := nI 2) dX7_isSort_2 (by decide) ?_
  refine x_callS m_X7_isWithin l_X7_72 (c_within (p := p) (q := ((0 : Nat) : Int)) (r := ((2 : Nat) : Int)) hx (nI_toInt (by omega)) (nI_toInt (by omega))) (by omega) rfl rfl (Nat.le_of_ble_eq_true rfl) ⟨Nat.le_refl _, Nat.le_refl _⟩ dX7_isSort_3 (fun r1 s1 q1 => ?_)
  obtain ⟨rfl, eq1⟩ := q1
  obtain rfl := eq1.symm
  refine x_stk (st' := [.int (bI (decide (((0 : Nat) : Int) ≤ p ∧ p ≤ ((2 : Nat) : Int))))]) rfl ?_
  exact x_zret ⟨Nat.le_refl _, Nat.le_refl _⟩ rfl (bI_nar _) dX7_isSort_6 ⟨rfl, rfl⟩
set_option maxHeartbeats 4000000 in
theorem c_setRound {σ : ZS} {tx ik : Int32} (k0 : zg σ 0 = some (.inr (.inr (6, [.ref 1, .ref 6, .ref 11, .ref 16, .ref 22, .ref 28, .ref 31, .int tx, .int ik])))) {rr dn ru n : Nat} {K N : List Nat} {W : List Int32} {D : List Nat} (h : Pa σ 1 (nI rr) (nI dn) (nI ru) n K N W D) {v : Nat} (hv : v ≤ 1) : Cn 2 M_X7_setRound 0 0 [.ref 0, .int (nI v)] σ (fun r9 σ' => r9 = some (.int (nI rr)) ∧ Pa σ' 1 (nI v) (nI dn) (nI ru) n K N W D ∧ Fr (fun i => 1 ≤ i ∧ i ≤ 5) σ σ') := by
  obtain ⟨g0, g1, g2, g3, g4, hn7, hK7, hN7, hW7, hD49, hK5, hN9, hD999⟩ := id h
  refine Cn.intro (lv0 := [some (.ref 0), some (.int (nI v)), none]) rfl (Nat.le_of_ble_eq_true rfl) rfl (fun d hd => ?_)
  refine x_iload_n dX7_setRound_0 rfl ?_
  refine x_iconst (v := nI 0) dX7_setRound_1 (by decide) ?_
  refine x_iconst (v := nI 1) dX7_setRound_2 (by decide) ?_
  refine x_callS m_X7_isWithin l_X7_72 (c_within (p := ((v : Nat) : Int)) (q := ((0 : Nat) : Int)) (r := ((1 : Nat) : Int)) (nI_toInt (by omega)) (nI_toInt (by omega)) (nI_toInt (by omega))) (by omega) rfl rfl (Nat.le_of_ble_eq_true rfl) ⟨Nat.le_refl _, Nat.le_refl _⟩ dX7_setRound_3 (fun r1 s1 q1 => ?_)
  obtain ⟨rfl, eq1⟩ := q1
  obtain rfl := eq1.symm
  refine x_stk (st' := [.int (bI (decide (((0 : Nat) : Int) ≤ ((v : Nat) : Int) ∧ ((v : Nat) : Int) ≤ ((1 : Nat) : Int))))]) rfl ?_
  refine x_ifP_ne (P := ((0 : Nat) : Int) ≤ ((v : Nat) : Int) ∧ ((v : Nat) : Int) ≤ ((1 : Nat) : Int)) inferInstance (tgt := 12) dX7_setRound_6 (by decide) (fun hv2 => ?_) (fun hv2 => ?_)
  · refine x_aload_n dX7_setRound_12 rfl ?_
    refine x_get (v := .ref 1) f_X7_10 k0 rfl dX7_setRound_13 ?_
    refine x_get (v := .int (nI rr)) f_X7_76 g0 rfl dX7_setRound_16 ?_
    refine x_istore_n dX7_setRound_19 (by decide) rfl ?_
    refine x_lv (lv' := [some (.ref 0), some (.int (nI v)), some (.int (nI rr))]) rfl ?_
    refine x_aload_n dX7_setRound_20 rfl ?_
    refine x_get (v := .ref 1) f_X7_10 k0 rfl dX7_setRound_21 ?_
    refine x_iload_n dX7_setRound_24 rfl ?_
    refine x_putK f_X7_76 g0 (Nat.le_of_ble_eq_true rfl) (fun c => ⟨rfl, rfl⟩) dX7_setRound_25 (fun sw3 gw3 Fw3 => ?_)
    refine x_iload_n dX7_setRound_28 rfl ?_
    exact x_iret ⟨Nat.le_refl _, Nat.le_refl _⟩ rfl dX7_setRound_29 ⟨rfl, ⟨gw3, (Fw3.at (by omega) g1), (Fw3.at (by omega) g2), (Fw3.at (by omega) g3), (Fw3.at (by omega) g4), hn7, hK7, hN7, hW7, hD49, hK5, hN9, hD999⟩, (Fr.rf.tr (Fw3.mono (fun i hi => by omega)))⟩
  · exact absurd hv2 (by omega)
set_option maxHeartbeats 4000000 in
theorem c_setRound_b {σ : ZS} {tx ik : Int32} (k0 : zg σ 0 = some (.inr (.inr (6, [.ref 1, .ref 6, .ref 11, .ref 16, .ref 22, .ref 28, .ref 31, .int tx, .int ik])))) {rr dn ru n : Nat} {K N : List Nat} {W : List Int32} {D : List Nat} (h : Pa σ 1 (nI rr) (nI dn) (nI ru) n K N W D) {v : Int32} (hv : ¬ (0 ≤ v.toInt ∧ v.toInt ≤ 1)) : Cn 2 M_X7_setRound 0 0 [.ref 0, .int v] σ (fun r9 σ' => r9 = some (.int (-2)) ∧ σ' = σ) := by
  obtain ⟨g0, g1, g2, g3, g4, hn7, hK7, hN7, hW7, hD49, hK5, hN9, hD999⟩ := id h
  refine Cn.intro (lv0 := [some (.ref 0), some (.int v), none]) rfl (Nat.le_of_ble_eq_true rfl) rfl (fun d hd => ?_)
  refine x_iload_n dX7_setRound_0 rfl ?_
  refine x_iconst (v := nI 0) dX7_setRound_1 (by decide) ?_
  refine x_iconst (v := nI 1) dX7_setRound_2 (by decide) ?_
  refine x_callS m_X7_isWithin l_X7_72 (c_within (p := (v).toInt) (q := ((0 : Nat) : Int)) (r := ((1 : Nat) : Int)) rfl (nI_toInt (by omega)) (nI_toInt (by omega))) (by omega) rfl rfl (Nat.le_of_ble_eq_true rfl) ⟨Nat.le_refl _, Nat.le_refl _⟩ dX7_setRound_3 (fun r1 s1 q1 => ?_)
  obtain ⟨rfl, eq1⟩ := q1
  obtain rfl := eq1.symm
  refine x_stk (st' := [.int (bI (decide (((0 : Nat) : Int) ≤ (v).toInt ∧ (v).toInt ≤ ((1 : Nat) : Int))))]) rfl ?_
  refine x_ifP_ne (P := ((0 : Nat) : Int) ≤ (v).toInt ∧ (v).toInt ≤ ((1 : Nat) : Int)) inferInstance (tgt := 12) dX7_setRound_6 (by decide) (fun hv2 => ?_) (fun hv2 => ?_)
  · exact absurd hv2 (by omega)
  · refine x_bipush (v := (-2)) dX7_setRound_9 (by decide) ?_
    exact x_iret ⟨Nat.le_refl _, Nat.le_refl _⟩ rfl dX7_setRound_11 ⟨rfl, rfl⟩
set_option maxHeartbeats 4000000 in
theorem c_setDinners {σ : ZS} {tx ik : Int32} (k0 : zg σ 0 = some (.inr (.inr (6, [.ref 1, .ref 6, .ref 11, .ref 16, .ref 22, .ref 28, .ref 31, .int tx, .int ik])))) {rr dn ru n : Nat} {K N : List Nat} {W : List Int32} {D : List Nat} (h : Pa σ 1 (nI rr) (nI dn) (nI ru) n K N W D) {v : Nat} (hv : v ≤ 999) : Cn 2 M_X7_setDinners 0 0 [.ref 0, .int (nI v)] σ (fun r9 σ' => r9 = some (.int (nI dn)) ∧ Pa σ' 1 (nI rr) (nI v) (nI ru) n K N W D ∧ Fr (fun i => 1 ≤ i ∧ i ≤ 5) σ σ') := by
  obtain ⟨g0, g1, g2, g3, g4, hn7, hK7, hN7, hW7, hD49, hK5, hN9, hD999⟩ := id h
  refine Cn.intro (lv0 := [some (.ref 0), some (.int (nI v)), none]) rfl (Nat.le_of_ble_eq_true rfl) rfl (fun d hd => ?_)
  refine x_iload_n dX7_setDinners_0 rfl ?_
  refine x_iconst (v := nI 0) dX7_setDinners_1 (by decide) ?_
  refine x_sipush (v := nI 999) dX7_setDinners_2 (by decide) ?_
  refine x_callS m_X7_isWithin l_X7_72 (c_within (p := ((v : Nat) : Int)) (q := ((0 : Nat) : Int)) (r := ((999 : Nat) : Int)) (nI_toInt (by omega)) (nI_toInt (by omega)) (nI_toInt (by omega))) (by omega) rfl rfl (Nat.le_of_ble_eq_true rfl) ⟨Nat.le_refl _, Nat.le_refl _⟩ dX7_setDinners_5 (fun r1 s1 q1 => ?_)
  obtain ⟨rfl, eq1⟩ := q1
  obtain rfl := eq1.symm
  refine x_stk (st' := [.int (bI (decide (((0 : Nat) : Int) ≤ ((v : Nat) : Int) ∧ ((v : Nat) : Int) ≤ ((999 : Nat) : Int))))]) rfl ?_
  refine x_ifP_ne (P := ((0 : Nat) : Int) ≤ ((v : Nat) : Int) ∧ ((v : Nat) : Int) ≤ ((999 : Nat) : Int)) inferInstance (tgt := 14) dX7_setDinners_8 (by decide) (fun hv2 => ?_) (fun hv2 => ?_)
  · refine x_aload_n dX7_setDinners_14 rfl ?_
    refine x_get (v := .ref 1) f_X7_10 k0 rfl dX7_setDinners_15 ?_
    refine x_get (v := .int (nI dn)) f_X7_79 g0 rfl dX7_setDinners_18 ?_
    refine x_istore_n dX7_setDinners_21 (by decide) rfl ?_
    refine x_lv (lv' := [some (.ref 0), some (.int (nI v)), some (.int (nI dn))]) rfl ?_
    refine x_aload_n dX7_setDinners_22 rfl ?_
    refine x_get (v := .ref 1) f_X7_10 k0 rfl dX7_setDinners_23 ?_
    refine x_iload_n dX7_setDinners_26 rfl ?_
    refine x_putK f_X7_79 g0 (Nat.le_of_ble_eq_true rfl) (fun c => ⟨rfl, rfl⟩) dX7_setDinners_27 (fun sw3 gw3 Fw3 => ?_)
    refine x_iload_n dX7_setDinners_30 rfl ?_
    exact x_iret ⟨Nat.le_refl _, Nat.le_refl _⟩ rfl dX7_setDinners_31 ⟨rfl, ⟨gw3, (Fw3.at (by omega) g1), (Fw3.at (by omega) g2), (Fw3.at (by omega) g3), (Fw3.at (by omega) g4), hn7, hK7, hN7, hW7, hD49, hK5, hN9, hD999⟩, (Fr.rf.tr (Fw3.mono (fun i hi => by omega)))⟩
  · exact absurd hv2 (by omega)
set_option maxHeartbeats 4000000 in
theorem c_setDinners_b {σ : ZS} {tx ik : Int32} (k0 : zg σ 0 = some (.inr (.inr (6, [.ref 1, .ref 6, .ref 11, .ref 16, .ref 22, .ref 28, .ref 31, .int tx, .int ik])))) {rr dn ru n : Nat} {K N : List Nat} {W : List Int32} {D : List Nat} (h : Pa σ 1 (nI rr) (nI dn) (nI ru) n K N W D) {v : Int32} (hv : ¬ (0 ≤ v.toInt ∧ v.toInt ≤ 999)) : Cn 2 M_X7_setDinners 0 0 [.ref 0, .int v] σ (fun r9 σ' => r9 = some (.int (-2)) ∧ σ' = σ) := by
  obtain ⟨g0, g1, g2, g3, g4, hn7, hK7, hN7, hW7, hD49, hK5, hN9, hD999⟩ := id h
  refine Cn.intro (lv0 := [some (.ref 0), some (.int v), none]) rfl (Nat.le_of_ble_eq_true rfl) rfl (fun d hd => ?_)
  refine x_iload_n dX7_setDinners_0 rfl ?_
  refine x_iconst (v := nI 0) dX7_setDinners_1 (by decide) ?_
  refine x_sipush (v := nI 999) dX7_setDinners_2 (by decide) ?_
  refine x_callS m_X7_isWithin l_X7_72 (c_within (p := (v).toInt) (q := ((0 : Nat) : Int)) (r := ((999 : Nat) : Int)) rfl (nI_toInt (by omega)) (nI_toInt (by omega))) (by omega) rfl rfl (Nat.le_of_ble_eq_true rfl) ⟨Nat.le_refl _, Nat.le_refl _⟩ dX7_setDinners_5 (fun r1 s1 q1 => ?_)
  obtain ⟨rfl, eq1⟩ := q1
  obtain rfl := eq1.symm
  refine x_stk (st' := [.int (bI (decide (((0 : Nat) : Int) ≤ (v).toInt ∧ (v).toInt ≤ ((999 : Nat) : Int))))]) rfl ?_
  refine x_ifP_ne (P := ((0 : Nat) : Int) ≤ (v).toInt ∧ (v).toInt ≤ ((999 : Nat) : Int)) inferInstance (tgt := 14) dX7_setDinners_8 (by decide) (fun hv2 => ?_) (fun hv2 => ?_)
  · exact absurd hv2 (by omega)
  · refine x_bipush (v := (-2)) dX7_setDinners_11 (by decide) ?_
    exact x_iret ⟨Nat.le_refl _, Nat.le_refl _⟩ rfl dX7_setDinners_13 ⟨rfl, rfl⟩
set_option maxHeartbeats 4000000 in
theorem c_setNumber {σ : ZS} {tx ik : Int32} (k0 : zg σ 0 = some (.inr (.inr (6, [.ref 1, .ref 6, .ref 11, .ref 16, .ref 22, .ref 28, .ref 31, .int tx, .int ik])))) {rr dn ru n : Nat} {K N : List Nat} {W : List Int32} {D : List Nat} (h : Pa σ 1 (nI rr) (nI dn) (nI ru) n K N W D) {o v : Nat} (ho : o < n) (hv : v ≤ 9) : Cn 2 M_X7_setNumber 0 0 [.ref 0, .int (nI o), .int (nI v)] σ (fun r9 σ' => r9 = some (.int (nI (N.getD o 0))) ∧ Pa σ' 1 (nI rr) (nI dn) (nI ru) n K (N.set o v) W D ∧ Fr (fun i => 1 ≤ i ∧ i ≤ 5) σ σ') := by
  obtain ⟨g0, g1, g2, g3, g4, hn7, hK7, hN7, hW7, hD49, hK5, hN9, hD999⟩ := id h
  refine Cn.intro (lv0 := [some (.ref 0), some (.int (nI o)), some (.int (nI v)), none]) rfl (Nat.le_of_ble_eq_true rfl) rfl (fun d hd => ?_)
  refine x_aload_n dX7_setNumber_0 rfl ?_
  refine x_get (v := .ref 1) f_X7_10 k0 rfl dX7_setNumber_1 ?_
  refine x_iload_n dX7_setNumber_4 rfl ?_
  refine x_callV m_X2_has l_X7_82 (c_hasP h (p := ((o : Nat) : Int)) (nI_toInt (by omega))) rfl g0 (by omega) rfl rfl (Nat.le_of_ble_eq_true rfl) ⟨Nat.le_refl _, Nat.le_refl _⟩ dX7_setNumber_5 (fun r1 s1 q1 => ?_)
  obtain ⟨rfl, eq1⟩ := q1
  obtain rfl := eq1.symm
  refine x_stk (st' := [.int (bI (decide (0 ≤ ((o : Nat) : Int) ∧ ((o : Nat) : Int) < (n : Int))))]) rfl ?_
  refine x_ifP_eq (P := 0 ≤ ((o : Nat) : Int) ∧ ((o : Nat) : Int) < (n : Int)) inferInstance (tgt := 21) dX7_setNumber_8 (by decide) (fun hv2 => ?_) (fun hv2 => ?_)
  · exact absurd hv2 (by omega)
  · refine x_iload_n dX7_setNumber_11 rfl ?_
    refine x_iconst (v := nI 0) dX7_setNumber_12 (by decide) ?_
    refine x_bipush (v := nI 9) dX7_setNumber_13 (by decide) ?_
    refine x_callS m_X7_isWithin l_X7_72 (c_within (p := ((v : Nat) : Int)) (q := ((0 : Nat) : Int)) (r := ((9 : Nat) : Int)) (nI_toInt (by omega)) (nI_toInt (by omega)) (nI_toInt (by omega))) (by omega) rfl rfl (Nat.le_of_ble_eq_true rfl) ⟨Nat.le_refl _, Nat.le_refl _⟩ dX7_setNumber_15 (fun r3 s3 q3 => ?_)
    obtain ⟨rfl, eq3⟩ := q3
    obtain rfl := eq3.symm
    refine x_stk (st' := [.int (bI (decide (((0 : Nat) : Int) ≤ ((v : Nat) : Int) ∧ ((v : Nat) : Int) ≤ ((9 : Nat) : Int))))]) rfl ?_
    refine x_ifP_ne (P := ((0 : Nat) : Int) ≤ ((v : Nat) : Int) ∧ ((v : Nat) : Int) ≤ ((9 : Nat) : Int)) inferInstance (tgt := 24) dX7_setNumber_18 (by decide) (fun hv4 => ?_) (fun hv4 => ?_)
    · refine x_aload_n dX7_setNumber_24 rfl ?_
      refine x_get (v := .ref 1) f_X7_10 k0 rfl dX7_setNumber_25 ?_
      refine x_get (v := .ref 3) f_X7_86 g0 rfl dX7_setNumber_28 ?_
      refine x_iload_n dX7_setNumber_31 rfl ?_
      refine x_iald (n := o) g2 rfl (by simp only [List.length_map, List.length_set, *] <;> omega) dX7_setNumber_32 ?_
      refine x_topi (y := nI ((N.getD o 0))) gm_getD ?_
      refine x_istore_n dX7_setNumber_33 (by decide) rfl ?_
      refine x_lv (lv' := [some (.ref 0), some (.int (nI o)), some (.int (nI v)), some (.int (nI ((N.getD o 0))))]) rfl ?_
      refine x_aload_n dX7_setNumber_34 rfl ?_
      refine x_get (v := .ref 1) f_X7_10 k0 rfl dX7_setNumber_35 ?_
      refine x_get (v := .ref 3) f_X7_86 g0 rfl dX7_setNumber_38 ?_
      refine x_iload_n dX7_setNumber_41 rfl ?_
      refine x_iload_n dX7_setNumber_42 rfl ?_
      refine x_iastK (n := o) g2 rfl (by simp only [List.length_map, List.length_set, *] <;> omega) dX7_setNumber_43 (fun sw5 gw5 Fw5 => ?_)
      refine x_iload_n dX7_setNumber_44 rfl ?_
      exact x_iret ⟨Nat.le_refl _, Nat.le_refl _⟩ rfl dX7_setNumber_45 ⟨rfl, ⟨(Fw5.at (by omega) g0), (Fw5.at (by omega) g1), (gma gw5), (Fw5.at (by omega) g3), (Fw5.at (by omega) g4), hn7, hK7, (by rw [List.length_set]; exact hN7), hW7, hD49, hK5, (getD_set_le hN9 (by omega)), hD999⟩, (Fr.rf.tr (Fw5.mono (fun i hi => by omega)))⟩
    · exact absurd hv4 (by omega)
set_option maxHeartbeats 4000000 in
theorem c_setNumber_b {σ : ZS} {tx ik : Int32} (k0 : zg σ 0 = some (.inr (.inr (6, [.ref 1, .ref 6, .ref 11, .ref 16, .ref 22, .ref 28, .ref 31, .int tx, .int ik])))) {rr dn ru n : Nat} {K N : List Nat} {W : List Int32} {D : List Nat} (h : Pa σ 1 (nI rr) (nI dn) (nI ru) n K N W D) {x v : Int32} (hb : ¬ (0 ≤ x.toInt ∧ x.toInt < (n : Int)) ∨ ¬ (0 ≤ v.toInt ∧ v.toInt ≤ 9)) : Cn 2 M_X7_setNumber 0 0 [.ref 0, .int x, .int v] σ (fun r9 σ' => r9 = some (.int (-2)) ∧ σ' = σ) := by
  obtain ⟨g0, g1, g2, g3, g4, hn7, hK7, hN7, hW7, hD49, hK5, hN9, hD999⟩ := id h
  refine Cn.intro (lv0 := [some (.ref 0), some (.int x), some (.int v), none]) rfl (Nat.le_of_ble_eq_true rfl) rfl (fun d hd => ?_)
  refine x_aload_n dX7_setNumber_0 rfl ?_
  refine x_get (v := .ref 1) f_X7_10 k0 rfl dX7_setNumber_1 ?_
  refine x_iload_n dX7_setNumber_4 rfl ?_
  refine x_callV m_X2_has l_X7_82 (c_hasP h (p := (x).toInt) rfl) rfl g0 (by omega) rfl rfl (Nat.le_of_ble_eq_true rfl) ⟨Nat.le_refl _, Nat.le_refl _⟩ dX7_setNumber_5 (fun r1 s1 q1 => ?_)
  obtain ⟨rfl, eq1⟩ := q1
  obtain rfl := eq1.symm
  refine x_stk (st' := [.int (bI (decide (0 ≤ (x).toInt ∧ (x).toInt < (n : Int))))]) rfl ?_
  refine x_ifP_eq (P := 0 ≤ (x).toInt ∧ (x).toInt < (n : Int)) inferInstance (tgt := 21) dX7_setNumber_8 (by decide) (fun hv2 => ?_) (fun hv2 => ?_)
  · refine x_bipush (v := (-2)) dX7_setNumber_21 (by decide) ?_
    exact x_iret ⟨Nat.le_refl _, Nat.le_refl _⟩ rfl dX7_setNumber_23 ⟨rfl, rfl⟩
  · refine x_iload_n dX7_setNumber_11 rfl ?_
    refine x_iconst (v := nI 0) dX7_setNumber_12 (by decide) ?_
    refine x_bipush (v := nI 9) dX7_setNumber_13 (by decide) ?_
    refine x_callS m_X7_isWithin l_X7_72 (c_within (p := (v).toInt) (q := ((0 : Nat) : Int)) (r := ((9 : Nat) : Int)) rfl (nI_toInt (by omega)) (nI_toInt (by omega))) (by omega) rfl rfl (Nat.le_of_ble_eq_true rfl) ⟨Nat.le_refl _, Nat.le_refl _⟩ dX7_setNumber_15 (fun r3 s3 q3 => ?_)
    obtain ⟨rfl, eq3⟩ := q3
    obtain rfl := eq3.symm
    refine x_stk (st' := [.int (bI (decide (((0 : Nat) : Int) ≤ (v).toInt ∧ (v).toInt ≤ ((9 : Nat) : Int))))]) rfl ?_
    refine x_ifP_ne (P := ((0 : Nat) : Int) ≤ (v).toInt ∧ (v).toInt ≤ ((9 : Nat) : Int)) inferInstance (tgt := 24) dX7_setNumber_18 (by decide) (fun hv4 => ?_) (fun hv4 => ?_)
    · exact absurd hv4 (by omega)
    · refine x_bipush (v := (-2)) dX7_setNumber_21 (by decide) ?_
      exact x_iret ⟨Nat.le_refl _, Nat.le_refl _⟩ rfl dX7_setNumber_23 ⟨rfl, rfl⟩
set_option maxHeartbeats 4000000 in
theorem c_setWanted {σ : ZS} {tx ik : Int32} (k0 : zg σ 0 = some (.inr (.inr (6, [.ref 1, .ref 6, .ref 11, .ref 16, .ref 22, .ref 28, .ref 31, .int tx, .int ik])))) {rr dn ru n : Nat} {K N : List Nat} {W : List Int32} {D : List Nat} (h : Pa σ 1 (nI rr) (nI dn) (nI ru) n K N W D) {o v : Nat} (ho : o < n) (hv : v < n) (hne : v ≠ o) : Cn 2 M_X7_setWanted 0 0 [.ref 0, .int (nI o), .int (nI v)] σ (fun r9 σ' => r9 = some (.int (W.getD o 0)) ∧ Pa σ' 1 (nI rr) (nI dn) (nI ru) n K N (W.set o (nI v)) D ∧ Fr (fun i => 1 ≤ i ∧ i ≤ 5) σ σ') := by
  obtain ⟨g0, g1, g2, g3, g4, hn7, hK7, hN7, hW7, hD49, hK5, hN9, hD999⟩ := id h
  refine Cn.intro (lv0 := [some (.ref 0), some (.int (nI o)), some (.int (nI v)), none]) rfl (Nat.le_of_ble_eq_true rfl) rfl (fun d hd => ?_)
  refine x_aload_n dX7_setWanted_0 rfl ?_
  refine x_get (v := .ref 1) f_X7_10 k0 rfl dX7_setWanted_1 ?_
  refine x_iload_n dX7_setWanted_4 rfl ?_
  refine x_callV m_X2_has l_X7_82 (c_hasP h (p := ((o : Nat) : Int)) (nI_toInt (by omega))) rfl g0 (by omega) rfl rfl (Nat.le_of_ble_eq_true rfl) ⟨Nat.le_refl _, Nat.le_refl _⟩ dX7_setWanted_5 (fun r1 s1 q1 => ?_)
  obtain ⟨rfl, eq1⟩ := q1
  obtain rfl := eq1.symm
  refine x_stk (st' := [.int (bI (decide (0 ≤ ((o : Nat) : Int) ∧ ((o : Nat) : Int) < (n : Int))))]) rfl ?_
  refine x_ifP_eq (P := 0 ≤ ((o : Nat) : Int) ∧ ((o : Nat) : Int) < (n : Int)) inferInstance (tgt := 32) dX7_setWanted_8 (by decide) (fun hv2 => ?_) (fun hv2 => ?_)
  · exact absurd hv2 (by omega)
  · refine x_iload_n dX7_setWanted_11 rfl ?_
    refine x_iconst (v := (-1)) dX7_setWanted_12 (by decide) ?_
    refine x_icmpT_eq (p := ((v : Nat) : Int)) (q := (-1)) (tgt := 27) (nI_toInt (by omega)) (by decide) dX7_setWanted_13 (by decide) (fun hv3 => ?_) (fun hv3 => ?_)
    · exact absurd hv3 (by omega)
    · refine x_aload_n dX7_setWanted_16 rfl ?_
      refine x_get (v := .ref 1) f_X7_10 k0 rfl dX7_setWanted_17 ?_
      refine x_iload_n dX7_setWanted_20 rfl ?_
      refine x_callV m_X2_has l_X7_82 (c_hasP h (p := ((v : Nat) : Int)) (nI_toInt (by omega))) rfl g0 (by omega) rfl rfl (Nat.le_of_ble_eq_true rfl) ⟨Nat.le_refl _, Nat.le_refl _⟩ dX7_setWanted_21 (fun r4 s4 q4 => ?_)
      obtain ⟨rfl, eq4⟩ := q4
      obtain rfl := eq4.symm
      refine x_stk (st' := [.int (bI (decide (0 ≤ ((v : Nat) : Int) ∧ ((v : Nat) : Int) < (n : Int))))]) rfl ?_
      refine x_ifP_eq (P := 0 ≤ ((v : Nat) : Int) ∧ ((v : Nat) : Int) < (n : Int)) inferInstance (tgt := 32) dX7_setWanted_24 (by decide) (fun hv5 => ?_) (fun hv5 => ?_)
      · exact absurd hv5 (by omega)
      · refine x_iload_n dX7_setWanted_27 rfl ?_
        refine x_iload_n dX7_setWanted_28 rfl ?_
        refine x_icmpN_ne (tgt := 35) dX7_setWanted_29 (by decide) (by omega) (by omega) (fun hv6 => ?_) (fun hv6 => ?_)
        · refine x_aload_n dX7_setWanted_35 rfl ?_
          refine x_get (v := .ref 1) f_X7_10 k0 rfl dX7_setWanted_36 ?_
          refine x_get (v := .ref 4) f_X7_90 g0 rfl dX7_setWanted_39 ?_
          refine x_iload_n dX7_setWanted_42 rfl ?_
          refine x_iald (n := o) g3 rfl (by simp only [List.length_map, List.length_set, *] <;> omega) dX7_setWanted_43 ?_
          refine x_istore_n dX7_setWanted_44 (by decide) rfl ?_
          refine x_lv (lv' := [some (.ref 0), some (.int (nI o)), some (.int (nI v)), some (.int ((W.getD o 0)))]) rfl ?_
          refine x_aload_n dX7_setWanted_45 rfl ?_
          refine x_get (v := .ref 1) f_X7_10 k0 rfl dX7_setWanted_46 ?_
          refine x_get (v := .ref 4) f_X7_90 g0 rfl dX7_setWanted_49 ?_
          refine x_iload_n dX7_setWanted_52 rfl ?_
          refine x_iload_n dX7_setWanted_53 rfl ?_
          refine x_iastK (n := o) g3 rfl (by simp only [List.length_map, List.length_set, *] <;> omega) dX7_setWanted_54 (fun sw7 gw7 Fw7 => ?_)
          refine x_iload_n dX7_setWanted_55 rfl ?_
          exact x_iret ⟨Nat.le_refl _, Nat.le_refl _⟩ rfl dX7_setWanted_56 ⟨rfl, ⟨(Fw7.at (by omega) g0), (Fw7.at (by omega) g1), (Fw7.at (by omega) g2), gw7, (Fw7.at (by omega) g4), hn7, hK7, hN7, (by rw [List.length_set]; exact hW7), hD49, hK5, hN9, hD999⟩, (Fr.rf.tr (Fw7.mono (fun i hi => by omega)))⟩
        · exact absurd hv6 (by omega)
set_option maxHeartbeats 4000000 in
theorem c_setWanted_n {σ : ZS} {tx ik : Int32} (k0 : zg σ 0 = some (.inr (.inr (6, [.ref 1, .ref 6, .ref 11, .ref 16, .ref 22, .ref 28, .ref 31, .int tx, .int ik])))) {rr dn ru n : Nat} {K N : List Nat} {W : List Int32} {D : List Nat} (h : Pa σ 1 (nI rr) (nI dn) (nI ru) n K N W D) {o : Nat} (ho : o < n) : Cn 2 M_X7_setWanted 0 0 [.ref 0, .int (nI o), .int ((-1))] σ (fun r9 σ' => r9 = some (.int (W.getD o 0)) ∧ Pa σ' 1 (nI rr) (nI dn) (nI ru) n K N (W.set o (-1)) D ∧ Fr (fun i => 1 ≤ i ∧ i ≤ 5) σ σ') := by
  obtain ⟨g0, g1, g2, g3, g4, hn7, hK7, hN7, hW7, hD49, hK5, hN9, hD999⟩ := id h
  refine Cn.intro (lv0 := [some (.ref 0), some (.int (nI o)), some (.int ((-1))), none]) rfl (Nat.le_of_ble_eq_true rfl) rfl (fun d hd => ?_)
  refine x_aload_n dX7_setWanted_0 rfl ?_
  refine x_get (v := .ref 1) f_X7_10 k0 rfl dX7_setWanted_1 ?_
  refine x_iload_n dX7_setWanted_4 rfl ?_
  refine x_callV m_X2_has l_X7_82 (c_hasP h (p := ((o : Nat) : Int)) (nI_toInt (by omega))) rfl g0 (by omega) rfl rfl (Nat.le_of_ble_eq_true rfl) ⟨Nat.le_refl _, Nat.le_refl _⟩ dX7_setWanted_5 (fun r1 s1 q1 => ?_)
  obtain ⟨rfl, eq1⟩ := q1
  obtain rfl := eq1.symm
  refine x_stk (st' := [.int (bI (decide (0 ≤ ((o : Nat) : Int) ∧ ((o : Nat) : Int) < (n : Int))))]) rfl ?_
  refine x_ifP_eq (P := 0 ≤ ((o : Nat) : Int) ∧ ((o : Nat) : Int) < (n : Int)) inferInstance (tgt := 32) dX7_setWanted_8 (by decide) (fun hv2 => ?_) (fun hv2 => ?_)
  · exact absurd hv2 (by omega)
  · refine x_iload_n dX7_setWanted_11 rfl ?_
    refine x_iconst (v := (-1)) dX7_setWanted_12 (by decide) ?_
    refine x_icmpT_eq (p := (-1)) (q := (-1)) (tgt := 27) (by decide) (by decide) dX7_setWanted_13 (by decide) (fun hv3 => ?_) (fun hv3 => ?_)
    · refine x_iload_n dX7_setWanted_27 rfl ?_
      refine x_iload_n dX7_setWanted_28 rfl ?_
      refine x_icmpT_ne (p := (-1)) (q := ((o : Nat) : Int)) (tgt := 35) (by decide) (nI_toInt (by omega)) dX7_setWanted_29 (by decide) (fun hv4 => ?_) (fun hv4 => ?_)
      · refine x_aload_n dX7_setWanted_35 rfl ?_
        refine x_get (v := .ref 1) f_X7_10 k0 rfl dX7_setWanted_36 ?_
        refine x_get (v := .ref 4) f_X7_90 g0 rfl dX7_setWanted_39 ?_
        refine x_iload_n dX7_setWanted_42 rfl ?_
        refine x_iald (n := o) g3 rfl (by simp only [List.length_map, List.length_set, *] <;> omega) dX7_setWanted_43 ?_
        refine x_istore_n dX7_setWanted_44 (by decide) rfl ?_
        refine x_lv (lv' := [some (.ref 0), some (.int (nI o)), some (.int ((-1))), some (.int ((W.getD o 0)))]) rfl ?_
        refine x_aload_n dX7_setWanted_45 rfl ?_
        refine x_get (v := .ref 1) f_X7_10 k0 rfl dX7_setWanted_46 ?_
        refine x_get (v := .ref 4) f_X7_90 g0 rfl dX7_setWanted_49 ?_
        refine x_iload_n dX7_setWanted_52 rfl ?_
        refine x_iload_n dX7_setWanted_53 rfl ?_
        refine x_iastK (n := o) g3 rfl (by simp only [List.length_map, List.length_set, *] <;> omega) dX7_setWanted_54 (fun sw5 gw5 Fw5 => ?_)
        refine x_iload_n dX7_setWanted_55 rfl ?_
        exact x_iret ⟨Nat.le_refl _, Nat.le_refl _⟩ rfl dX7_setWanted_56 ⟨rfl, ⟨(Fw5.at (by omega) g0), (Fw5.at (by omega) g1), (Fw5.at (by omega) g2), gw5, (Fw5.at (by omega) g4), hn7, hK7, hN7, (by rw [List.length_set]; exact hW7), hD49, hK5, hN9, hD999⟩, (Fr.rf.tr (Fw5.mono (fun i hi => by omega)))⟩
      · exact absurd hv4 (by omega)
    · exact absurd hv3 (by omega)
set_option maxHeartbeats 4000000 in
theorem c_setWanted_b {σ : ZS} {tx ik : Int32} (k0 : zg σ 0 = some (.inr (.inr (6, [.ref 1, .ref 6, .ref 11, .ref 16, .ref 22, .ref 28, .ref 31, .int tx, .int ik])))) {rr dn ru n : Nat} {K N : List Nat} {W : List Int32} {D : List Nat} (h : Pa σ 1 (nI rr) (nI dn) (nI ru) n K N W D) {x v : Int32} (hb : ¬ (0 ≤ x.toInt ∧ x.toInt < (n : Int)) ∨ (¬ v.toInt = -1 ∧ ¬ (0 ≤ v.toInt ∧ v.toInt < (n : Int))) ∨ v.toInt = x.toInt) : Cn 2 M_X7_setWanted 0 0 [.ref 0, .int x, .int v] σ (fun r9 σ' => r9 = some (.int (-2)) ∧ σ' = σ) := by
  obtain ⟨g0, g1, g2, g3, g4, hn7, hK7, hN7, hW7, hD49, hK5, hN9, hD999⟩ := id h
  refine Cn.intro (lv0 := [some (.ref 0), some (.int x), some (.int v), none]) rfl (Nat.le_of_ble_eq_true rfl) rfl (fun d hd => ?_)
  refine x_aload_n dX7_setWanted_0 rfl ?_
  refine x_get (v := .ref 1) f_X7_10 k0 rfl dX7_setWanted_1 ?_
  refine x_iload_n dX7_setWanted_4 rfl ?_
  refine x_callV m_X2_has l_X7_82 (c_hasP h (p := (x).toInt) rfl) rfl g0 (by omega) rfl rfl (Nat.le_of_ble_eq_true rfl) ⟨Nat.le_refl _, Nat.le_refl _⟩ dX7_setWanted_5 (fun r1 s1 q1 => ?_)
  obtain ⟨rfl, eq1⟩ := q1
  obtain rfl := eq1.symm
  refine x_stk (st' := [.int (bI (decide (0 ≤ (x).toInt ∧ (x).toInt < (n : Int))))]) rfl ?_
  refine x_ifP_eq (P := 0 ≤ (x).toInt ∧ (x).toInt < (n : Int)) inferInstance (tgt := 32) dX7_setWanted_8 (by decide) (fun hv2 => ?_) (fun hv2 => ?_)
  · refine x_bipush (v := (-2)) dX7_setWanted_32 (by decide) ?_
    exact x_iret ⟨Nat.le_refl _, Nat.le_refl _⟩ rfl dX7_setWanted_34 ⟨rfl, rfl⟩
  · refine x_iload_n dX7_setWanted_11 rfl ?_
    refine x_iconst (v := (-1)) dX7_setWanted_12 (by decide) ?_
    refine x_icmpT_eq (p := (v).toInt) (q := (-1)) (tgt := 27) rfl (by decide) dX7_setWanted_13 (by decide) (fun hv3 => ?_) (fun hv3 => ?_)
    · refine x_iload_n dX7_setWanted_27 rfl ?_
      refine x_iload_n dX7_setWanted_28 rfl ?_
      refine x_icmpT_ne (p := (v).toInt) (q := (x).toInt) (tgt := 35) rfl rfl dX7_setWanted_29 (by decide) (fun hv4 => ?_) (fun hv4 => ?_)
      · exact absurd hv4 (by omega)
      · refine x_bipush (v := (-2)) dX7_setWanted_32 (by decide) ?_
        exact x_iret ⟨Nat.le_refl _, Nat.le_refl _⟩ rfl dX7_setWanted_34 ⟨rfl, rfl⟩
    · refine x_aload_n dX7_setWanted_16 rfl ?_
      refine x_get (v := .ref 1) f_X7_10 k0 rfl dX7_setWanted_17 ?_
      refine x_iload_n dX7_setWanted_20 rfl ?_
      refine x_callV m_X2_has l_X7_82 (c_hasP h (p := (v).toInt) rfl) rfl g0 (by omega) rfl rfl (Nat.le_of_ble_eq_true rfl) ⟨Nat.le_refl _, Nat.le_refl _⟩ dX7_setWanted_21 (fun r5 s5 q5 => ?_)
      obtain ⟨rfl, eq5⟩ := q5
      obtain rfl := eq5.symm
      refine x_stk (st' := [.int (bI (decide (0 ≤ (v).toInt ∧ (v).toInt < (n : Int))))]) rfl ?_
      refine x_ifP_eq (P := 0 ≤ (v).toInt ∧ (v).toInt < (n : Int)) inferInstance (tgt := 32) dX7_setWanted_24 (by decide) (fun hv6 => ?_) (fun hv6 => ?_)
      · refine x_bipush (v := (-2)) dX7_setWanted_32 (by decide) ?_
        exact x_iret ⟨Nat.le_refl _, Nat.le_refl _⟩ rfl dX7_setWanted_34 ⟨rfl, rfl⟩
      · refine x_iload_n dX7_setWanted_27 rfl ?_
        refine x_iload_n dX7_setWanted_28 rfl ?_
        refine x_icmpT_ne (p := (v).toInt) (q := (x).toInt) (tgt := 35) rfl rfl dX7_setWanted_29 (by decide) (fun hv7 => ?_) (fun hv7 => ?_)
        · exact absurd hv7 (by omega)
        · refine x_bipush (v := (-2)) dX7_setWanted_32 (by decide) ?_
          exact x_iret ⟨Nat.le_refl _, Nat.le_refl _⟩ rfl dX7_setWanted_34 ⟨rfl, rfl⟩
set_option maxHeartbeats 4000000 in
theorem c_set0 {σ : ZS} {tx ik : Int32} (k0 : zg σ 0 = some (.inr (.inr (6, [.ref 1, .ref 6, .ref 11, .ref 16, .ref 22, .ref 28, .ref 31, .int tx, .int ik])))) {rr dn ru n : Nat} {K N : List Nat} {W : List Int32} {D : List Nat} (h : Pa σ 1 (nI rr) (nI dn) (nI ru) n K N W D) {x : Int32} {v : Nat} (hv : v ≤ 1) : Cn 3 M_X7_set 0 0 [.ref 0, .int (nI 0), .int x, .int (nI v)] σ (fun r9 σ' => r9 = some (.int ((nI rr))) ∧ Pa σ' 1 (nI v) (nI dn) (nI ru) n K N W D ∧ Fr (fun i => 1 ≤ i ∧ i ≤ 5) σ σ') := by
  obtain ⟨g0, g1, g2, g3, g4, hn7, hK7, hN7, hW7, hD49, hK5, hN9, hD999⟩ := id h
  refine Cn.intro (lv0 := [some (.ref 0), some (.int (nI 0)), some (.int x), some (.int (nI v))]) rfl (Nat.le_of_ble_eq_true rfl) rfl (fun d hd => ?_)
  refine x_iload_n dX7_set_0 rfl ?_
  refine x_tableIn (tgt := 32) dX7_set_1 (by decide) (by decide) rfl (by decide) ?_
  refine x_aload_n dX7_set_32 rfl ?_
  refine x_iload_n dX7_set_33 rfl ?_
  refine x_callV m_X7_setRound l_X7_58 (c_setRound k0 h hv) rfl k0 (by omega) rfl rfl (Nat.le_of_ble_eq_true rfl) ⟨Nat.le_refl _, Nat.le_refl _⟩ dX7_set_34 (fun r1 s1 q1 => ?_)
  obtain ⟨rfl, P1, F1⟩ := q1
  refine x_stk (st' := [.int (nI rr)]) rfl ?_
  exact x_iret ⟨Nat.le_refl _, Nat.le_refl _⟩ rfl dX7_set_37 ⟨rfl, P1, (Fr.rf.tr (F1.mono (fun i hi => by omega)))⟩
set_option maxHeartbeats 4000000 in
theorem c_set0_b {σ : ZS} {tx ik : Int32} (k0 : zg σ 0 = some (.inr (.inr (6, [.ref 1, .ref 6, .ref 11, .ref 16, .ref 22, .ref 28, .ref 31, .int tx, .int ik])))) {rr dn ru n : Nat} {K N : List Nat} {W : List Int32} {D : List Nat} (h : Pa σ 1 (nI rr) (nI dn) (nI ru) n K N W D) {x v : Int32} (hv : ¬ (0 ≤ v.toInt ∧ v.toInt ≤ 1)) : Cn 3 M_X7_set 0 0 [.ref 0, .int (nI 0), .int x, .int v] σ (fun r9 σ' => r9 = some (.int (-2)) ∧ σ' = σ) := by
  obtain ⟨g0, g1, g2, g3, g4, hn7, hK7, hN7, hW7, hD49, hK5, hN9, hD999⟩ := id h
  refine Cn.intro (lv0 := [some (.ref 0), some (.int (nI 0)), some (.int x), some (.int v)]) rfl (Nat.le_of_ble_eq_true rfl) rfl (fun d hd => ?_)
  refine x_iload_n dX7_set_0 rfl ?_
  refine x_tableIn (tgt := 32) dX7_set_1 (by decide) (by decide) rfl (by decide) ?_
  refine x_aload_n dX7_set_32 rfl ?_
  refine x_iload_n dX7_set_33 rfl ?_
  refine x_callV m_X7_setRound l_X7_58 (c_setRound_b k0 h hv) rfl k0 (by omega) rfl rfl (Nat.le_of_ble_eq_true rfl) ⟨Nat.le_refl _, Nat.le_refl _⟩ dX7_set_34 (fun r1 s1 q1 => ?_)
  obtain ⟨rfl, eq1⟩ := q1
  obtain rfl := eq1.symm
  refine x_stk (st' := [.int ((-2))]) rfl ?_
  exact x_iret ⟨Nat.le_refl _, Nat.le_refl _⟩ rfl dX7_set_37 ⟨rfl, rfl⟩
set_option maxHeartbeats 4000000 in
theorem c_set1 {σ : ZS} {tx ik : Int32} (k0 : zg σ 0 = some (.inr (.inr (6, [.ref 1, .ref 6, .ref 11, .ref 16, .ref 22, .ref 28, .ref 31, .int tx, .int ik])))) {rr dn ru n : Nat} {K N : List Nat} {W : List Int32} {D : List Nat} (h : Pa σ 1 (nI rr) (nI dn) (nI ru) n K N W D) {x : Int32} {v : Nat} (hv : v ≤ 999) : Cn 3 M_X7_set 0 0 [.ref 0, .int (nI 1), .int x, .int (nI v)] σ (fun r9 σ' => r9 = some (.int ((nI dn))) ∧ Pa σ' 1 (nI rr) (nI v) (nI ru) n K N W D ∧ Fr (fun i => 1 ≤ i ∧ i ≤ 5) σ σ') := by
  obtain ⟨g0, g1, g2, g3, g4, hn7, hK7, hN7, hW7, hD49, hK5, hN9, hD999⟩ := id h
  refine Cn.intro (lv0 := [some (.ref 0), some (.int (nI 1)), some (.int x), some (.int (nI v))]) rfl (Nat.le_of_ble_eq_true rfl) rfl (fun d hd => ?_)
  refine x_iload_n dX7_set_0 rfl ?_
  refine x_tableIn (tgt := 38) dX7_set_1 (by decide) (by decide) rfl (by decide) ?_
  refine x_aload_n dX7_set_38 rfl ?_
  refine x_iload_n dX7_set_39 rfl ?_
  refine x_callV m_X7_setDinners l_X7_62 (c_setDinners k0 h hv) rfl k0 (by omega) rfl rfl (Nat.le_of_ble_eq_true rfl) ⟨Nat.le_refl _, Nat.le_refl _⟩ dX7_set_40 (fun r1 s1 q1 => ?_)
  obtain ⟨rfl, P1, F1⟩ := q1
  refine x_stk (st' := [.int (nI dn)]) rfl ?_
  exact x_iret ⟨Nat.le_refl _, Nat.le_refl _⟩ rfl dX7_set_43 ⟨rfl, P1, (Fr.rf.tr (F1.mono (fun i hi => by omega)))⟩
set_option maxHeartbeats 4000000 in
theorem c_set1_b {σ : ZS} {tx ik : Int32} (k0 : zg σ 0 = some (.inr (.inr (6, [.ref 1, .ref 6, .ref 11, .ref 16, .ref 22, .ref 28, .ref 31, .int tx, .int ik])))) {rr dn ru n : Nat} {K N : List Nat} {W : List Int32} {D : List Nat} (h : Pa σ 1 (nI rr) (nI dn) (nI ru) n K N W D) {x v : Int32} (hv : ¬ (0 ≤ v.toInt ∧ v.toInt ≤ 999)) : Cn 3 M_X7_set 0 0 [.ref 0, .int (nI 1), .int x, .int v] σ (fun r9 σ' => r9 = some (.int (-2)) ∧ σ' = σ) := by
  obtain ⟨g0, g1, g2, g3, g4, hn7, hK7, hN7, hW7, hD49, hK5, hN9, hD999⟩ := id h
  refine Cn.intro (lv0 := [some (.ref 0), some (.int (nI 1)), some (.int x), some (.int v)]) rfl (Nat.le_of_ble_eq_true rfl) rfl (fun d hd => ?_)
  refine x_iload_n dX7_set_0 rfl ?_
  refine x_tableIn (tgt := 38) dX7_set_1 (by decide) (by decide) rfl (by decide) ?_
  refine x_aload_n dX7_set_38 rfl ?_
  refine x_iload_n dX7_set_39 rfl ?_
  refine x_callV m_X7_setDinners l_X7_62 (c_setDinners_b k0 h hv) rfl k0 (by omega) rfl rfl (Nat.le_of_ble_eq_true rfl) ⟨Nat.le_refl _, Nat.le_refl _⟩ dX7_set_40 (fun r1 s1 q1 => ?_)
  obtain ⟨rfl, eq1⟩ := q1
  obtain rfl := eq1.symm
  refine x_stk (st' := [.int ((-2))]) rfl ?_
  exact x_iret ⟨Nat.le_refl _, Nat.le_refl _⟩ rfl dX7_set_43 ⟨rfl, rfl⟩
set_option maxHeartbeats 4000000 in
theorem c_set2 {σ : ZS} {tx ik : Int32} (k0 : zg σ 0 = some (.inr (.inr (6, [.ref 1, .ref 6, .ref 11, .ref 16, .ref 22, .ref 28, .ref 31, .int tx, .int ik])))) {rr dn ru n : Nat} {K N : List Nat} {W : List Int32} {D : List Nat} (h : Pa σ 1 (nI rr) (nI dn) (nI ru) n K N W D) {o v : Nat} (ho : o < n) (hv : v ≤ 9) : Cn 3 M_X7_set 0 0 [.ref 0, .int (nI 2), .int (nI o), .int (nI v)] σ (fun r9 σ' => r9 = some (.int ((nI ((N.getD o 0))))) ∧ Pa σ' 1 (nI rr) (nI dn) (nI ru) n K (N.set o v) W D ∧ Fr (fun i => 1 ≤ i ∧ i ≤ 5) σ σ') := by
  obtain ⟨g0, g1, g2, g3, g4, hn7, hK7, hN7, hW7, hD49, hK5, hN9, hD999⟩ := id h
  refine Cn.intro (lv0 := [some (.ref 0), some (.int (nI 2)), some (.int (nI o)), some (.int (nI v))]) rfl (Nat.le_of_ble_eq_true rfl) rfl (fun d hd => ?_)
  refine x_iload_n dX7_set_0 rfl ?_
  refine x_tableIn (tgt := 44) dX7_set_1 (by decide) (by decide) rfl (by decide) ?_
  refine x_aload_n dX7_set_44 rfl ?_
  refine x_iload_n dX7_set_45 rfl ?_
  refine x_iload_n dX7_set_46 rfl ?_
  refine x_callV m_X7_setNumber l_X7_65 (c_setNumber k0 h ho hv) rfl k0 (by omega) rfl rfl (Nat.le_of_ble_eq_true rfl) ⟨Nat.le_refl _, Nat.le_refl _⟩ dX7_set_47 (fun r1 s1 q1 => ?_)
  obtain ⟨rfl, P1, F1⟩ := q1
  refine x_stk (st' := [.int (nI ((N.getD o 0)))]) rfl ?_
  exact x_iret ⟨Nat.le_refl _, Nat.le_refl _⟩ rfl dX7_set_50 ⟨rfl, P1, (Fr.rf.tr (F1.mono (fun i hi => by omega)))⟩
set_option maxHeartbeats 4000000 in
theorem c_set2_b {σ : ZS} {tx ik : Int32} (k0 : zg σ 0 = some (.inr (.inr (6, [.ref 1, .ref 6, .ref 11, .ref 16, .ref 22, .ref 28, .ref 31, .int tx, .int ik])))) {rr dn ru n : Nat} {K N : List Nat} {W : List Int32} {D : List Nat} (h : Pa σ 1 (nI rr) (nI dn) (nI ru) n K N W D) {x v : Int32} (hb : ¬ (0 ≤ x.toInt ∧ x.toInt < (n : Int)) ∨ ¬ (0 ≤ v.toInt ∧ v.toInt ≤ 9)) : Cn 3 M_X7_set 0 0 [.ref 0, .int (nI 2), .int x, .int v] σ (fun r9 σ' => r9 = some (.int (-2)) ∧ σ' = σ) := by
  obtain ⟨g0, g1, g2, g3, g4, hn7, hK7, hN7, hW7, hD49, hK5, hN9, hD999⟩ := id h
  refine Cn.intro (lv0 := [some (.ref 0), some (.int (nI 2)), some (.int x), some (.int v)]) rfl (Nat.le_of_ble_eq_true rfl) rfl (fun d hd => ?_)
  refine x_iload_n dX7_set_0 rfl ?_
  refine x_tableIn (tgt := 44) dX7_set_1 (by decide) (by decide) rfl (by decide) ?_
  refine x_aload_n dX7_set_44 rfl ?_
  refine x_iload_n dX7_set_45 rfl ?_
  refine x_iload_n dX7_set_46 rfl ?_
  refine x_callV m_X7_setNumber l_X7_65 (c_setNumber_b k0 h hb) rfl k0 (by omega) rfl rfl (Nat.le_of_ble_eq_true rfl) ⟨Nat.le_refl _, Nat.le_refl _⟩ dX7_set_47 (fun r1 s1 q1 => ?_)
  obtain ⟨rfl, eq1⟩ := q1
  obtain rfl := eq1.symm
  refine x_stk (st' := [.int ((-2))]) rfl ?_
  exact x_iret ⟨Nat.le_refl _, Nat.le_refl _⟩ rfl dX7_set_50 ⟨rfl, rfl⟩
set_option maxHeartbeats 4000000 in
theorem c_set3 {σ : ZS} {tx ik : Int32} (k0 : zg σ 0 = some (.inr (.inr (6, [.ref 1, .ref 6, .ref 11, .ref 16, .ref 22, .ref 28, .ref 31, .int tx, .int ik])))) {rr dn ru n : Nat} {K N : List Nat} {W : List Int32} {D : List Nat} (h : Pa σ 1 (nI rr) (nI dn) (nI ru) n K N W D) {o v : Nat} (ho : o < n) (hv : v < n) (hne : v ≠ o) : Cn 3 M_X7_set 0 0 [.ref 0, .int (nI 3), .int (nI o), .int (nI v)] σ (fun r9 σ' => r9 = some (.int (((W.getD o 0)))) ∧ Pa σ' 1 (nI rr) (nI dn) (nI ru) n K N (W.set o (nI v)) D ∧ Fr (fun i => 1 ≤ i ∧ i ≤ 5) σ σ') := by
  obtain ⟨g0, g1, g2, g3, g4, hn7, hK7, hN7, hW7, hD49, hK5, hN9, hD999⟩ := id h
  refine Cn.intro (lv0 := [some (.ref 0), some (.int (nI 3)), some (.int (nI o)), some (.int (nI v))]) rfl (Nat.le_of_ble_eq_true rfl) rfl (fun d hd => ?_)
  refine x_iload_n dX7_set_0 rfl ?_
  refine x_tableIn (tgt := 51) dX7_set_1 (by decide) (by decide) rfl (by decide) ?_
  refine x_aload_n dX7_set_51 rfl ?_
  refine x_iload_n dX7_set_52 rfl ?_
  refine x_iload_n dX7_set_53 rfl ?_
  refine x_callV m_X7_setWanted l_X7_69 (c_setWanted k0 h ho hv hne) rfl k0 (by omega) rfl rfl (Nat.le_of_ble_eq_true rfl) ⟨Nat.le_refl _, Nat.le_refl _⟩ dX7_set_54 (fun r1 s1 q1 => ?_)
  obtain ⟨rfl, P1, F1⟩ := q1
  refine x_stk (st' := [.int ((W.getD o 0))]) rfl ?_
  exact x_iret ⟨Nat.le_refl _, Nat.le_refl _⟩ rfl dX7_set_57 ⟨rfl, P1, (Fr.rf.tr (F1.mono (fun i hi => by omega)))⟩
set_option maxHeartbeats 4000000 in
theorem c_set3n {σ : ZS} {tx ik : Int32} (k0 : zg σ 0 = some (.inr (.inr (6, [.ref 1, .ref 6, .ref 11, .ref 16, .ref 22, .ref 28, .ref 31, .int tx, .int ik])))) {rr dn ru n : Nat} {K N : List Nat} {W : List Int32} {D : List Nat} (h : Pa σ 1 (nI rr) (nI dn) (nI ru) n K N W D) {o : Nat} (ho : o < n) : Cn 3 M_X7_set 0 0 [.ref 0, .int (nI 3), .int (nI o), .int ((-1))] σ (fun r9 σ' => r9 = some (.int (((W.getD o 0)))) ∧ Pa σ' 1 (nI rr) (nI dn) (nI ru) n K N (W.set o (-1)) D ∧ Fr (fun i => 1 ≤ i ∧ i ≤ 5) σ σ') := by
  obtain ⟨g0, g1, g2, g3, g4, hn7, hK7, hN7, hW7, hD49, hK5, hN9, hD999⟩ := id h
  refine Cn.intro (lv0 := [some (.ref 0), some (.int (nI 3)), some (.int (nI o)), some (.int ((-1)))]) rfl (Nat.le_of_ble_eq_true rfl) rfl (fun d hd => ?_)
  refine x_iload_n dX7_set_0 rfl ?_
  refine x_tableIn (tgt := 51) dX7_set_1 (by decide) (by decide) rfl (by decide) ?_
  refine x_aload_n dX7_set_51 rfl ?_
  refine x_iload_n dX7_set_52 rfl ?_
  refine x_iload_n dX7_set_53 rfl ?_
  refine x_callV m_X7_setWanted l_X7_69 (c_setWanted_n k0 h ho) rfl k0 (by omega) rfl rfl (Nat.le_of_ble_eq_true rfl) ⟨Nat.le_refl _, Nat.le_refl _⟩ dX7_set_54 (fun r1 s1 q1 => ?_)
  obtain ⟨rfl, P1, F1⟩ := q1
  refine x_stk (st' := [.int ((W.getD o 0))]) rfl ?_
  exact x_iret ⟨Nat.le_refl _, Nat.le_refl _⟩ rfl dX7_set_57 ⟨rfl, P1, (Fr.rf.tr (F1.mono (fun i hi => by omega)))⟩
set_option maxHeartbeats 4000000 in
theorem c_set3_b {σ : ZS} {tx ik : Int32} (k0 : zg σ 0 = some (.inr (.inr (6, [.ref 1, .ref 6, .ref 11, .ref 16, .ref 22, .ref 28, .ref 31, .int tx, .int ik])))) {rr dn ru n : Nat} {K N : List Nat} {W : List Int32} {D : List Nat} (h : Pa σ 1 (nI rr) (nI dn) (nI ru) n K N W D) {x v : Int32} (hb : ¬ (0 ≤ x.toInt ∧ x.toInt < (n : Int)) ∨ (¬ v.toInt = -1 ∧ ¬ (0 ≤ v.toInt ∧ v.toInt < (n : Int))) ∨ v.toInt = x.toInt) : Cn 3 M_X7_set 0 0 [.ref 0, .int (nI 3), .int x, .int v] σ (fun r9 σ' => r9 = some (.int (-2)) ∧ σ' = σ) := by
  obtain ⟨g0, g1, g2, g3, g4, hn7, hK7, hN7, hW7, hD49, hK5, hN9, hD999⟩ := id h
  refine Cn.intro (lv0 := [some (.ref 0), some (.int (nI 3)), some (.int x), some (.int v)]) rfl (Nat.le_of_ble_eq_true rfl) rfl (fun d hd => ?_)
  refine x_iload_n dX7_set_0 rfl ?_
  refine x_tableIn (tgt := 51) dX7_set_1 (by decide) (by decide) rfl (by decide) ?_
  refine x_aload_n dX7_set_51 rfl ?_
  refine x_iload_n dX7_set_52 rfl ?_
  refine x_iload_n dX7_set_53 rfl ?_
  refine x_callV m_X7_setWanted l_X7_69 (c_setWanted_b k0 h hb) rfl k0 (by omega) rfl rfl (Nat.le_of_ble_eq_true rfl) ⟨Nat.le_refl _, Nat.le_refl _⟩ dX7_set_54 (fun r1 s1 q1 => ?_)
  obtain ⟨rfl, eq1⟩ := q1
  obtain rfl := eq1.symm
  refine x_stk (st' := [.int ((-2))]) rfl ?_
  exact x_iret ⟨Nat.le_refl _, Nat.le_refl _⟩ rfl dX7_set_57 ⟨rfl, rfl⟩
set_option maxHeartbeats 4000000 in
theorem c_set_b {σ : ZS} {tx ik : Int32} (k0 : zg σ 0 = some (.inr (.inr (6, [.ref 1, .ref 6, .ref 11, .ref 16, .ref 22, .ref 28, .ref 31, .int tx, .int ik])))) {rr dn ru n : Nat} {K N : List Nat} {W : List Int32} {D : List Nat} (h : Pa σ 1 (nI rr) (nI dn) (nI ru) n K N W D) {w x v : Int32} (hw : ¬ (0 ≤ w.toInt ∧ w.toInt ≤ 3)) : Cn 2 M_X7_set 0 0 [.ref 0, .int w, .int x, .int v] σ (fun r9 σ' => r9 = some (.int (-2)) ∧ σ' = σ) := by
  obtain ⟨g0, g1, g2, g3, g4, hn7, hK7, hN7, hW7, hD49, hK5, hN9, hD999⟩ := id h
  refine Cn.intro (lv0 := [some (.ref 0), some (.int w), some (.int x), some (.int v)]) rfl (Nat.le_of_ble_eq_true rfl) rfl (fun d hd => ?_)
  refine x_iload_n dX7_set_0 rfl ?_
  refine x_tableOut (tgt := 58) dX7_set_1 (by omega) (by decide) ?_
  refine x_bipush (v := (-2)) dX7_set_58 (by decide) ?_
  exact x_iret ⟨Nat.le_refl _, Nat.le_refl _⟩ rfl dX7_set_60 ⟨rfl, rfl⟩
set_option maxHeartbeats 4000000 in
theorem c_guest {σ : ZS} {tx ik : Int32} (k0 : zg σ 0 = some (.inr (.inr (6, [.ref 1, .ref 6, .ref 11, .ref 16, .ref 22, .ref 28, .ref 31, .int tx, .int ik])))) {rr dn ru n : Nat} {K N : List Nat} {W : List Int32} {D : List Nat} (h : Pa σ 1 (nI rr) (nI dn) (nI ru) n K N W D) {kd nu : Nat} (hkd : kd ≤ 5) (hnu : nu ≤ 9) (hlt : n < 7) (hz : ∀ j, j ≤ n → D.getD (n * 7 + j) 0 = 0 ∧ D.getD (j * 7 + n) 0 = 0) : Cn 2 M_X7_guest 0 0 [.ref 0, .int (nI kd), .int (nI nu)] σ (fun r9 σ' => r9 = some (.int (nI n)) ∧ Pa σ' 1 (nI rr) (nI dn) (nI ru) (n + 1) (K.set n kd) (N.set n nu) (W.set n (-1)) D ∧ Fr (fun i => 1 ≤ i ∧ i ≤ 5) σ σ') := by
  obtain ⟨g0, g1, g2, g3, g4, hn7, hK7, hN7, hW7, hD49, hK5, hN9, hD999⟩ := id h
  refine Cn.intro (lv0 := [some (.ref 0), some (.int (nI kd)), some (.int (nI nu))]) rfl (Nat.le_of_ble_eq_true rfl) rfl (fun d hd => ?_)
  refine x_iload_n dX7_guest_0 rfl ?_
  refine x_callS m_X0_isKind l_X7_93 (c_kindP (p := ((kd : Nat) : Int)) (nI_toInt (by omega))) (by omega) rfl rfl (Nat.le_of_ble_eq_true rfl) ⟨Nat.le_refl _, Nat.le_refl _⟩ dX7_guest_1 (fun r1 s1 q1 => ?_)
  obtain ⟨rfl, eq1⟩ := q1
  obtain rfl := eq1.symm
  refine x_stk (st' := [.int (bI (decide (0 ≤ ((kd : Nat) : Int) ∧ ((kd : Nat) : Int) ≤ 5)))]) rfl ?_
  refine x_ifP_eq (P := 0 ≤ ((kd : Nat) : Int) ∧ ((kd : Nat) : Int) ≤ 5) inferInstance (tgt := 17) dX7_guest_4 (by decide) (fun hv2 => ?_) (fun hv2 => ?_)
  · exact absurd hv2 (by omega)
  · refine x_iload_n dX7_guest_7 rfl ?_
    refine x_iconst (v := nI 0) dX7_guest_8 (by decide) ?_
    refine x_bipush (v := nI 9) dX7_guest_9 (by decide) ?_
    refine x_callS m_X7_isWithin l_X7_72 (c_within (p := ((nu : Nat) : Int)) (q := ((0 : Nat) : Int)) (r := ((9 : Nat) : Int)) (nI_toInt (by omega)) (nI_toInt (by omega)) (nI_toInt (by omega))) (by omega) rfl rfl (Nat.le_of_ble_eq_true rfl) ⟨Nat.le_refl _, Nat.le_refl _⟩ dX7_guest_11 (fun r3 s3 q3 => ?_)
    obtain ⟨rfl, eq3⟩ := q3
    obtain rfl := eq3.symm
    refine x_stk (st' := [.int (bI (decide (((0 : Nat) : Int) ≤ ((nu : Nat) : Int) ∧ ((nu : Nat) : Int) ≤ ((9 : Nat) : Int))))]) rfl ?_
    refine x_ifP_ne (P := ((0 : Nat) : Int) ≤ ((nu : Nat) : Int) ∧ ((nu : Nat) : Int) ≤ ((9 : Nat) : Int)) inferInstance (tgt := 20) dX7_guest_14 (by decide) (fun hv4 => ?_) (fun hv4 => ?_)
    · refine x_aload_n dX7_guest_20 rfl ?_
      refine x_get (v := .ref 1) f_X7_10 k0 rfl dX7_guest_21 ?_
      refine x_get (v := .int (nI n)) f_X7_98 g0 rfl dX7_guest_24 ?_
      refine x_bipush (v := nI 7) dX7_guest_27 (by decide) ?_
      refine x_icmpN_lt (tgt := 37) dX7_guest_29 (by decide) (by omega) (by omega) (fun hv5 => ?_) (fun hv5 => ?_)
      · refine x_aload_n dX7_guest_37 rfl ?_
        refine x_get (v := .ref 1) f_X7_10 k0 rfl dX7_guest_38 ?_
        refine x_iload_n dX7_guest_41 rfl ?_
        refine x_iload_n dX7_guest_42 rfl ?_
        refine x_callV m_X2_welcome l_X7_101 (c_welcome h hlt hkd hnu hz) rfl g0 (by omega) rfl rfl (Nat.le_of_ble_eq_true rfl) ⟨Nat.le_refl _, Nat.le_refl _⟩ dX7_guest_43 (fun r6 s6 q6 => ?_)
        obtain ⟨rfl, P6, F6⟩ := q6
        refine x_stk (st' := [.int (nI n)]) rfl ?_
        exact x_iret ⟨Nat.le_refl _, Nat.le_refl _⟩ rfl dX7_guest_46 ⟨rfl, P6, (Fr.rf.tr (F6.mono (fun i hi => by omega)))⟩
      · exact absurd hv5 (by omega)
    · exact absurd hv4 (by omega)
set_option maxHeartbeats 4000000 in
theorem c_guest_f {σ : ZS} {tx ik : Int32} (k0 : zg σ 0 = some (.inr (.inr (6, [.ref 1, .ref 6, .ref 11, .ref 16, .ref 22, .ref 28, .ref 31, .int tx, .int ik])))) {rr dn ru n : Nat} {K N : List Nat} {W : List Int32} {D : List Nat} (h : Pa σ 1 (nI rr) (nI dn) (nI ru) n K N W D) {x y : Int32} (hx : 0 ≤ x.toInt ∧ x.toInt ≤ 5) (hy : 0 ≤ y.toInt ∧ y.toInt ≤ 9) (hn : n = 7) : Cn 2 M_X7_guest 0 0 [.ref 0, .int x, .int y] σ (fun r9 σ' => r9 = some (.int (-4)) ∧ σ' = σ) := by
  obtain ⟨g0, g1, g2, g3, g4, hn7, hK7, hN7, hW7, hD49, hK5, hN9, hD999⟩ := id h
  refine Cn.intro (lv0 := [some (.ref 0), some (.int x), some (.int y)]) rfl (Nat.le_of_ble_eq_true rfl) rfl (fun d hd => ?_)
  refine x_iload_n dX7_guest_0 rfl ?_
  refine x_callS m_X0_isKind l_X7_93 (c_kindP (p := (x).toInt) rfl) (by omega) rfl rfl (Nat.le_of_ble_eq_true rfl) ⟨Nat.le_refl _, Nat.le_refl _⟩ dX7_guest_1 (fun r1 s1 q1 => ?_)
  obtain ⟨rfl, eq1⟩ := q1
  obtain rfl := eq1.symm
  refine x_stk (st' := [.int (bI (decide (0 ≤ (x).toInt ∧ (x).toInt ≤ 5)))]) rfl ?_
  refine x_ifP_eq (P := 0 ≤ (x).toInt ∧ (x).toInt ≤ 5) inferInstance (tgt := 17) dX7_guest_4 (by decide) (fun hv2 => ?_) (fun hv2 => ?_)
  · exact absurd hv2 (by omega)
  · refine x_iload_n dX7_guest_7 rfl ?_
    refine x_iconst (v := nI 0) dX7_guest_8 (by decide) ?_
    refine x_bipush (v := nI 9) dX7_guest_9 (by decide) ?_
    refine x_callS m_X7_isWithin l_X7_72 (c_within (p := (y).toInt) (q := ((0 : Nat) : Int)) (r := ((9 : Nat) : Int)) rfl (nI_toInt (by omega)) (nI_toInt (by omega))) (by omega) rfl rfl (Nat.le_of_ble_eq_true rfl) ⟨Nat.le_refl _, Nat.le_refl _⟩ dX7_guest_11 (fun r3 s3 q3 => ?_)
    obtain ⟨rfl, eq3⟩ := q3
    obtain rfl := eq3.symm
    refine x_stk (st' := [.int (bI (decide (((0 : Nat) : Int) ≤ (y).toInt ∧ (y).toInt ≤ ((9 : Nat) : Int))))]) rfl ?_
    refine x_ifP_ne (P := ((0 : Nat) : Int) ≤ (y).toInt ∧ (y).toInt ≤ ((9 : Nat) : Int)) inferInstance (tgt := 20) dX7_guest_14 (by decide) (fun hv4 => ?_) (fun hv4 => ?_)
    · refine x_aload_n dX7_guest_20 rfl ?_
      refine x_get (v := .ref 1) f_X7_10 k0 rfl dX7_guest_21 ?_
      refine x_get (v := .int (nI n)) f_X7_98 g0 rfl dX7_guest_24 ?_
      refine x_bipush (v := nI 7) dX7_guest_27 (by decide) ?_
      refine x_icmpN_lt (tgt := 37) dX7_guest_29 (by decide) (by omega) (by omega) (fun hv5 => ?_) (fun hv5 => ?_)
      · exact absurd hv5 (by omega)
      · refine x_bipush (v := (-4)) dX7_guest_32 (by decide) ?_
        refine x_goto (tgt := 46) dX7_guest_34 (by decide) ?_
        exact x_iret ⟨Nat.le_refl _, Nat.le_refl _⟩ rfl dX7_guest_46 ⟨rfl, rfl⟩
    · exact absurd hv4 (by omega)
set_option maxHeartbeats 4000000 in
theorem c_guest_b {σ : ZS} {tx ik : Int32} (k0 : zg σ 0 = some (.inr (.inr (6, [.ref 1, .ref 6, .ref 11, .ref 16, .ref 22, .ref 28, .ref 31, .int tx, .int ik])))) {rr dn ru n : Nat} {K N : List Nat} {W : List Int32} {D : List Nat} (h : Pa σ 1 (nI rr) (nI dn) (nI ru) n K N W D) {x y : Int32} (hb : ¬ (0 ≤ x.toInt ∧ x.toInt ≤ 5) ∨ ¬ (0 ≤ y.toInt ∧ y.toInt ≤ 9)) : Cn 2 M_X7_guest 0 0 [.ref 0, .int x, .int y] σ (fun r9 σ' => r9 = some (.int (-2)) ∧ σ' = σ) := by
  obtain ⟨g0, g1, g2, g3, g4, hn7, hK7, hN7, hW7, hD49, hK5, hN9, hD999⟩ := id h
  refine Cn.intro (lv0 := [some (.ref 0), some (.int x), some (.int y)]) rfl (Nat.le_of_ble_eq_true rfl) rfl (fun d hd => ?_)
  refine x_iload_n dX7_guest_0 rfl ?_
  refine x_callS m_X0_isKind l_X7_93 (c_kindP (p := (x).toInt) rfl) (by omega) rfl rfl (Nat.le_of_ble_eq_true rfl) ⟨Nat.le_refl _, Nat.le_refl _⟩ dX7_guest_1 (fun r1 s1 q1 => ?_)
  obtain ⟨rfl, eq1⟩ := q1
  obtain rfl := eq1.symm
  refine x_stk (st' := [.int (bI (decide (0 ≤ (x).toInt ∧ (x).toInt ≤ 5)))]) rfl ?_
  refine x_ifP_eq (P := 0 ≤ (x).toInt ∧ (x).toInt ≤ 5) inferInstance (tgt := 17) dX7_guest_4 (by decide) (fun hv2 => ?_) (fun hv2 => ?_)
  · refine x_bipush (v := (-2)) dX7_guest_17 (by decide) ?_
    exact x_iret ⟨Nat.le_refl _, Nat.le_refl _⟩ rfl dX7_guest_19 ⟨rfl, rfl⟩
  · refine x_iload_n dX7_guest_7 rfl ?_
    refine x_iconst (v := nI 0) dX7_guest_8 (by decide) ?_
    refine x_bipush (v := nI 9) dX7_guest_9 (by decide) ?_
    refine x_callS m_X7_isWithin l_X7_72 (c_within (p := (y).toInt) (q := ((0 : Nat) : Int)) (r := ((9 : Nat) : Int)) rfl (nI_toInt (by omega)) (nI_toInt (by omega))) (by omega) rfl rfl (Nat.le_of_ble_eq_true rfl) ⟨Nat.le_refl _, Nat.le_refl _⟩ dX7_guest_11 (fun r3 s3 q3 => ?_)
    obtain ⟨rfl, eq3⟩ := q3
    obtain rfl := eq3.symm
    refine x_stk (st' := [.int (bI (decide (((0 : Nat) : Int) ≤ (y).toInt ∧ (y).toInt ≤ ((9 : Nat) : Int))))]) rfl ?_
    refine x_ifP_ne (P := ((0 : Nat) : Int) ≤ (y).toInt ∧ (y).toInt ≤ ((9 : Nat) : Int)) inferInstance (tgt := 20) dX7_guest_14 (by decide) (fun hv4 => ?_) (fun hv4 => ?_)
    · exact absurd hv4 (by omega)
    · refine x_bipush (v := (-2)) dX7_guest_17 (by decide) ?_
      exact x_iret ⟨Nat.le_refl _, Nat.le_refl _⟩ rfl dX7_guest_19 ⟨rfl, rfl⟩
set_option maxHeartbeats 4000000 in
theorem c_owe {σ : ZS} {tx ik : Int32} (k0 : zg σ 0 = some (.inr (.inr (6, [.ref 1, .ref 6, .ref 11, .ref 16, .ref 22, .ref 28, .ref 31, .int tx, .int ik])))) {rr dn ru n : Nat} {K N : List Nat} {W : List Int32} {D : List Nat} (h : Pa σ 1 (nI rr) (nI dn) (nI ru) n K N W D) {x y v : Nat} (hx : x < n) (hy : y < n) (hne : x ≠ y) (hv : v ≤ 999) : Cn 2 M_X7_owe 0 0 [.ref 0, .int (nI x), .int (nI y), .int (nI v)] σ (fun r9 σ' => r9 = some (.int (nI (D.getD (x * 7 + y) 0))) ∧ Pa σ' 1 (nI rr) (nI dn) (nI ru) n K N W (D.set (x * 7 + y) v) ∧ Fr (fun i => 1 ≤ i ∧ i ≤ 5) σ σ') := by
  obtain ⟨g0, g1, g2, g3, g4, hn7, hK7, hN7, hW7, hD49, hK5, hN9, hD999⟩ := id h
  refine Cn.intro (lv0 := [some (.ref 0), some (.int (nI x)), some (.int (nI y)), some (.int (nI v)), none]) rfl (Nat.le_of_ble_eq_true rfl) rfl (fun d hd => ?_)
  refine x_aload_n dX7_owe_0 rfl ?_
  refine x_get (v := .ref 1) f_X7_10 k0 rfl dX7_owe_1 ?_
  refine x_iload_n dX7_owe_4 rfl ?_
  refine x_iload_n dX7_owe_5 rfl ?_
  refine x_callV m_X2_hasBoth l_X7_104 (c_bothP h (p := ((x : Nat) : Int)) (q := ((y : Nat) : Int)) (nI_toInt (by omega)) (nI_toInt (by omega))) rfl g0 (by omega) rfl rfl (Nat.le_of_ble_eq_true rfl) ⟨Nat.le_refl _, Nat.le_refl _⟩ dX7_owe_6 (fun r1 s1 q1 => ?_)
  obtain ⟨rfl, eq1⟩ := q1
  obtain rfl := eq1.symm
  refine x_stk (st' := [.int (bI (decide ((0 ≤ ((x : Nat) : Int) ∧ ((x : Nat) : Int) < (n : Int)) ∧ (0 ≤ ((y : Nat) : Int) ∧ ((y : Nat) : Int) < (n : Int)) ∧ ¬ ((x : Nat) : Int) = ((y : Nat) : Int))))]) rfl ?_
  refine x_ifP_eq (P := (0 ≤ ((x : Nat) : Int) ∧ ((x : Nat) : Int) < (n : Int)) ∧ (0 ≤ ((y : Nat) : Int) ∧ ((y : Nat) : Int) < (n : Int)) ∧ ¬ ((x : Nat) : Int) = ((y : Nat) : Int)) inferInstance (tgt := 23) dX7_owe_9 (by decide) (fun hv2 => ?_) (fun hv2 => ?_)
  · exact absurd hv2 (by omega)
  · refine x_iload_n dX7_owe_12 rfl ?_
    refine x_iconst (v := nI 0) dX7_owe_13 (by decide) ?_
    refine x_sipush (v := nI 999) dX7_owe_14 (by decide) ?_
    refine x_callS m_X7_isWithin l_X7_72 (c_within (p := ((v : Nat) : Int)) (q := ((0 : Nat) : Int)) (r := ((999 : Nat) : Int)) (nI_toInt (by omega)) (nI_toInt (by omega)) (nI_toInt (by omega))) (by omega) rfl rfl (Nat.le_of_ble_eq_true rfl) ⟨Nat.le_refl _, Nat.le_refl _⟩ dX7_owe_17 (fun r3 s3 q3 => ?_)
    obtain ⟨rfl, eq3⟩ := q3
    obtain rfl := eq3.symm
    refine x_stk (st' := [.int (bI (decide (((0 : Nat) : Int) ≤ ((v : Nat) : Int) ∧ ((v : Nat) : Int) ≤ ((999 : Nat) : Int))))]) rfl ?_
    refine x_ifP_ne (P := ((0 : Nat) : Int) ≤ ((v : Nat) : Int) ∧ ((v : Nat) : Int) ≤ ((999 : Nat) : Int)) inferInstance (tgt := 26) dX7_owe_20 (by decide) (fun hv4 => ?_) (fun hv4 => ?_)
    · refine x_aload_n dX7_owe_26 rfl ?_
      refine x_get (v := .ref 1) f_X7_10 k0 rfl dX7_owe_27 ?_
      refine x_iload_n dX7_owe_30 rfl ?_
      refine x_iload_n dX7_owe_31 rfl ?_
      refine x_callV m_X2_debt l_X7_108 (c_debt h (by omega) (by omega)) rfl g0 (by omega) rfl rfl (Nat.le_of_ble_eq_true rfl) ⟨Nat.le_refl _, Nat.le_refl _⟩ dX7_owe_32 (fun r5 s5 q5 => ?_)
      obtain ⟨rfl, eq5⟩ := q5
      obtain rfl := eq5.symm
      refine x_stk (st' := [.int (nI ((D.getD (x * 7 + y) 0)))]) rfl ?_
      refine x_istore dX7_owe_35 (by decide) rfl ?_
      refine x_lv (lv' := [some (.ref 0), some (.int (nI x)), some (.int (nI y)), some (.int (nI v)), some (.int (nI ((D.getD (x * 7 + y) 0))))]) rfl ?_
      refine x_aload_n dX7_owe_37 rfl ?_
      refine x_get (v := .ref 1) f_X7_10 k0 rfl dX7_owe_38 ?_
      refine x_iload_n dX7_owe_41 rfl ?_
      refine x_iload_n dX7_owe_42 rfl ?_
      refine x_iload_n dX7_owe_43 rfl ?_
      refine x_callV m_X2_setDebt l_X7_111 (c_setDebt h (a := x) (b := y) (v := v) (by omega) (by omega)) rfl g0 (by omega) rfl rfl (Nat.le_of_ble_eq_true rfl) ⟨Nat.le_refl _, Nat.le_refl _⟩ dX7_owe_44 (fun r6 s6 q6 => ?_)
      obtain ⟨rfl, e6⟩ := q6
      have P6 := h.setD (D' := D.set (x * 7 + y) v) (by rw [List.length_set]; exact hD49) (getD_set_le hD999 (by omega))
      have F6 : Fr (fun i => i = 5) σ s6 := by rw [e6]; exact Fr.rf.zs rfl
      rw [← e6] at P6
      refine x_stk (st' := []) rfl ?_
      refine x_iload dX7_owe_47 rfl ?_
      exact x_iret ⟨Nat.le_refl _, Nat.le_refl _⟩ rfl dX7_owe_49 ⟨rfl, P6, (Fr.rf.tr (F6.mono (fun i hi => by omega)))⟩
    · exact absurd hv4 (by omega)
set_option maxHeartbeats 4000000 in
theorem c_owe_b {σ : ZS} {tx ik : Int32} (k0 : zg σ 0 = some (.inr (.inr (6, [.ref 1, .ref 6, .ref 11, .ref 16, .ref 22, .ref 28, .ref 31, .int tx, .int ik])))) {rr dn ru n : Nat} {K N : List Nat} {W : List Int32} {D : List Nat} (h : Pa σ 1 (nI rr) (nI dn) (nI ru) n K N W D) {x y v : Int32} (hb : ¬ ((0 ≤ x.toInt ∧ x.toInt < ((n : Nat) : Int)) ∧ (0 ≤ y.toInt ∧ y.toInt < ((n : Nat) : Int)) ∧ ¬ x.toInt = y.toInt) ∨ ¬ (0 ≤ v.toInt ∧ v.toInt ≤ 999)) : Cn 2 M_X7_owe 0 0 [.ref 0, .int x, .int y, .int v] σ (fun r9 σ' => r9 = some (.int (-2)) ∧ σ' = σ) := by
  obtain ⟨g0, g1, g2, g3, g4, hn7, hK7, hN7, hW7, hD49, hK5, hN9, hD999⟩ := id h
  refine Cn.intro (lv0 := [some (.ref 0), some (.int x), some (.int y), some (.int v), none]) rfl (Nat.le_of_ble_eq_true rfl) rfl (fun d hd => ?_)
  refine x_aload_n dX7_owe_0 rfl ?_
  refine x_get (v := .ref 1) f_X7_10 k0 rfl dX7_owe_1 ?_
  refine x_iload_n dX7_owe_4 rfl ?_
  refine x_iload_n dX7_owe_5 rfl ?_
  refine x_callV m_X2_hasBoth l_X7_104 (c_bothP h (p := (x).toInt) (q := (y).toInt) rfl rfl) rfl g0 (by omega) rfl rfl (Nat.le_of_ble_eq_true rfl) ⟨Nat.le_refl _, Nat.le_refl _⟩ dX7_owe_6 (fun r1 s1 q1 => ?_)
  obtain ⟨rfl, eq1⟩ := q1
  obtain rfl := eq1.symm
  refine x_stk (st' := [.int (bI (decide ((0 ≤ (x).toInt ∧ (x).toInt < (n : Int)) ∧ (0 ≤ (y).toInt ∧ (y).toInt < (n : Int)) ∧ ¬ (x).toInt = (y).toInt)))]) rfl ?_
  refine x_ifP_eq (P := (0 ≤ (x).toInt ∧ (x).toInt < (n : Int)) ∧ (0 ≤ (y).toInt ∧ (y).toInt < (n : Int)) ∧ ¬ (x).toInt = (y).toInt) inferInstance (tgt := 23) dX7_owe_9 (by decide) (fun hv2 => ?_) (fun hv2 => ?_)
  · refine x_bipush (v := (-2)) dX7_owe_23 (by decide) ?_
    exact x_iret ⟨Nat.le_refl _, Nat.le_refl _⟩ rfl dX7_owe_25 ⟨rfl, rfl⟩
  · refine x_iload_n dX7_owe_12 rfl ?_
    refine x_iconst (v := nI 0) dX7_owe_13 (by decide) ?_
    refine x_sipush (v := nI 999) dX7_owe_14 (by decide) ?_
    refine x_callS m_X7_isWithin l_X7_72 (c_within (p := (v).toInt) (q := ((0 : Nat) : Int)) (r := ((999 : Nat) : Int)) rfl (nI_toInt (by omega)) (nI_toInt (by omega))) (by omega) rfl rfl (Nat.le_of_ble_eq_true rfl) ⟨Nat.le_refl _, Nat.le_refl _⟩ dX7_owe_17 (fun r3 s3 q3 => ?_)
    obtain ⟨rfl, eq3⟩ := q3
    obtain rfl := eq3.symm
    refine x_stk (st' := [.int (bI (decide (((0 : Nat) : Int) ≤ (v).toInt ∧ (v).toInt ≤ ((999 : Nat) : Int))))]) rfl ?_
    refine x_ifP_ne (P := ((0 : Nat) : Int) ≤ (v).toInt ∧ (v).toInt ≤ ((999 : Nat) : Int)) inferInstance (tgt := 26) dX7_owe_20 (by decide) (fun hv4 => ?_) (fun hv4 => ?_)
    · exact absurd hv4 (by omega)
    · refine x_bipush (v := (-2)) dX7_owe_23 (by decide) ?_
      exact x_iret ⟨Nat.le_refl _, Nat.le_refl _⟩ rfl dX7_owe_25 ⟨rfl, rfl⟩
set_option maxHeartbeats 4000000 in
theorem c_force {σ : ZS} {m : Nat} {ik : Int32} (k0 : zg σ 0 = some (.inr (.inr (6, [.ref 1, .ref 6, .ref 11, .ref 16, .ref 22, .ref 28, .ref 31, .int (nI m), .int ik])))) {rr dn ru n : Nat} {K N : List Nat} {W : List Int32} {D : List Nat} (h : Pa σ 1 (nI rr) (nI dn) (nI ru) n K N W D) (hm : 1 ≤ m ∧ m ≤ 6) {v : Nat} (hv : v < m) : Cn 1 M_X7_force 0 0 [.ref 0, .int (nI v)] σ (fun r9 σ' => r9 = some (.int (nI ru)) ∧ Pa σ' 1 (nI rr) (nI dn) (nI v) n K N W D ∧ Fr (fun i => 1 ≤ i ∧ i ≤ 5) σ σ') := by
  obtain ⟨g0, g1, g2, g3, g4, hn7, hK7, hN7, hW7, hD49, hK5, hN9, hD999⟩ := id h
  refine Cn.intro (lv0 := [some (.ref 0), some (.int (nI v)), none]) rfl (Nat.le_of_ble_eq_true rfl) rfl (fun d hd => ?_)
  refine x_iload_n dX7_force_0 rfl ?_
  refine x_iconst (v := nI 0) dX7_force_1 (by decide) ?_
  refine x_aload_n dX7_force_2 rfl ?_
  refine x_get (v := .int (nI m)) f_X7_49 k0 rfl dX7_force_3 ?_
  refine x_iconst (v := nI 1) dX7_force_6 (by decide) ?_
  refine x_isubN (by omega) dX7_force_7 ?_
  refine x_callS m_X7_isWithin l_X7_72 (c_within (p := ((v : Nat) : Int)) (q := ((0 : Nat) : Int)) (r := ((m - 1 : Nat) : Int)) (nI_toInt (by omega)) (nI_toInt (by omega)) (nI_toInt (by omega))) (by omega) rfl rfl (Nat.le_of_ble_eq_true rfl) ⟨Nat.le_refl _, Nat.le_refl _⟩ dX7_force_8 (fun r1 s1 q1 => ?_)
  obtain ⟨rfl, eq1⟩ := q1
  obtain rfl := eq1.symm
  refine x_stk (st' := [.int (bI (decide (((0 : Nat) : Int) ≤ ((v : Nat) : Int) ∧ ((v : Nat) : Int) ≤ ((m - 1 : Nat) : Int))))]) rfl ?_
  refine x_ifP_ne (P := ((0 : Nat) : Int) ≤ ((v : Nat) : Int) ∧ ((v : Nat) : Int) ≤ ((m - 1 : Nat) : Int)) inferInstance (tgt := 17) dX7_force_11 (by decide) (fun hv2 => ?_) (fun hv2 => ?_)
  · refine x_aload_n dX7_force_17 rfl ?_
    refine x_get (v := .ref 1) f_X7_10 k0 rfl dX7_force_18 ?_
    refine x_get (v := .int (nI ru)) f_X7_151 g0 rfl dX7_force_21 ?_
    refine x_istore_n dX7_force_24 (by decide) rfl ?_
    refine x_lv (lv' := [some (.ref 0), some (.int (nI v)), some (.int (nI ru))]) rfl ?_
    refine x_aload_n dX7_force_25 rfl ?_
    refine x_get (v := .ref 1) f_X7_10 k0 rfl dX7_force_26 ?_
    refine x_iload_n dX7_force_29 rfl ?_
    refine x_putK f_X7_151 g0 (Nat.le_of_ble_eq_true rfl) (fun c => ⟨rfl, rfl⟩) dX7_force_30 (fun sw3 gw3 Fw3 => ?_)
    refine x_iload_n dX7_force_33 rfl ?_
    exact x_iret ⟨Nat.le_refl _, Nat.le_refl _⟩ rfl dX7_force_34 ⟨rfl, ⟨gw3, (Fw3.at (by omega) g1), (Fw3.at (by omega) g2), (Fw3.at (by omega) g3), (Fw3.at (by omega) g4), hn7, hK7, hN7, hW7, hD49, hK5, hN9, hD999⟩, (Fr.rf.tr (Fw3.mono (fun i hi => by omega)))⟩
  · exact absurd hv2 (by omega)
set_option maxHeartbeats 4000000 in
theorem c_force_b {σ : ZS} {m : Nat} {ik : Int32} (k0 : zg σ 0 = some (.inr (.inr (6, [.ref 1, .ref 6, .ref 11, .ref 16, .ref 22, .ref 28, .ref 31, .int (nI m), .int ik])))) {rr dn ru n : Nat} {K N : List Nat} {W : List Int32} {D : List Nat} (h : Pa σ 1 (nI rr) (nI dn) (nI ru) n K N W D) (hm : 1 ≤ m ∧ m ≤ 6) {v : Int32} (hv : ¬ (0 ≤ v.toInt ∧ v.toInt < ((m : Nat) : Int))) : Cn 1 M_X7_force 0 0 [.ref 0, .int v] σ (fun r9 σ' => r9 = some (.int (-2)) ∧ σ' = σ) := by
  obtain ⟨g0, g1, g2, g3, g4, hn7, hK7, hN7, hW7, hD49, hK5, hN9, hD999⟩ := id h
  refine Cn.intro (lv0 := [some (.ref 0), some (.int v), none]) rfl (Nat.le_of_ble_eq_true rfl) rfl (fun d hd => ?_)
  refine x_iload_n dX7_force_0 rfl ?_
  refine x_iconst (v := nI 0) dX7_force_1 (by decide) ?_
  refine x_aload_n dX7_force_2 rfl ?_
  refine x_get (v := .int (nI m)) f_X7_49 k0 rfl dX7_force_3 ?_
  refine x_iconst (v := nI 1) dX7_force_6 (by decide) ?_
  refine x_isubN (by omega) dX7_force_7 ?_
  refine x_callS m_X7_isWithin l_X7_72 (c_within (p := (v).toInt) (q := ((0 : Nat) : Int)) (r := ((m - 1 : Nat) : Int)) rfl (nI_toInt (by omega)) (nI_toInt (by omega))) (by omega) rfl rfl (Nat.le_of_ble_eq_true rfl) ⟨Nat.le_refl _, Nat.le_refl _⟩ dX7_force_8 (fun r1 s1 q1 => ?_)
  obtain ⟨rfl, eq1⟩ := q1
  obtain rfl := eq1.symm
  refine x_stk (st' := [.int (bI (decide (((0 : Nat) : Int) ≤ (v).toInt ∧ (v).toInt ≤ ((m - 1 : Nat) : Int))))]) rfl ?_
  refine x_ifP_ne (P := ((0 : Nat) : Int) ≤ (v).toInt ∧ (v).toInt ≤ ((m - 1 : Nat) : Int)) inferInstance (tgt := 17) dX7_force_11 (by decide) (fun hv2 => ?_) (fun hv2 => ?_)
  · exact absurd hv2 (by omega)
  · refine x_bipush (v := (-2)) dX7_force_14 (by decide) ?_
    exact x_iret ⟨Nat.le_refl _, Nat.le_refl _⟩ rfl dX7_force_16 ⟨rfl, rfl⟩
