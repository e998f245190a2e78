theorem Dg_set {D : List Nat} {p c v : Nat} (h : Dg D) (hp : p < 7) (hc : c < 7) (hpc : p ≠ c) : Dg (D.set (p * 7 + c) v) := by
  intro i hi
  rw [getD_set, if_neg (by omega)]
  exact h i hi
set_option maxHeartbeats 4000000 in
theorem r_tells_b1 {σ0 σ : ZS} {a : Nat → Int32} {tw : Int64} {b : Nat → List Int32} {rr n : Nat} {K N : List Nat} {W : List Int32} {D : List Nat} {ru : Nat} {L S : List Nat} {lf jf : Nat} (hR : RM σ0 σ a tw b) (hW : BW a b rr n K N W D (-1) ru L S lf jf) {x y w : Int32} (hb : ¬ (0 ≤ x.toInt ∧ x.toInt ≤ 3) ∨ ¬ (0 ≤ y.toInt ∧ y.toInt < (n : Int)) ∨ ¬ ((0 ≤ w.toInt ∧ w.toInt ≤ 2) ∨ ((10 ≤ w.toInt ∧ w.toInt ≤ 29) ∧ (0 ≤ y.toInt ∧ y.toInt < (n : Int)) ∧ (0 ≤ (w - w / nI 10 * nI 10).toInt ∧ (w - w / nI 10 * nI 10).toInt < (n : Int)) ∧ ¬ y.toInt = (w - w / nI 10 * nI 10).toInt))) : Cn 4 M_X8_tells 0 0 [.ref 1000, .int x, .int y, .int w] σ (fun r9 σ' => r9 = some (.int (-2)) ∧ σ' = σ) := by
  obtain ⟨hC, hT⟩ := id hW
  obtain ⟨c7, hrr, c13, hn7, c14, cK, cN, cW, cD, hN7, hW7, hD49, hK5, hN9, hD999⟩ := id hC
  refine Cn.intro (lv0 := [some (.ref 1000), some (.int x), some (.int y), some (.int w), none]) rfl (Nat.le_of_ble_eq_true rfl) rfl (fun d hd => ?_)
  refine x_iload_n dX8_tells_0 rfl ?_
  refine x_i2l dX8_tells_1 ?_
  refine x_ldc2 (v := (10)) cl_X8_120 dX8_tells_2 ?_
  refine x_ldc2 (v := (29)) cl_X8_375 dX8_tells_5 ?_
  refine x_callS m_X8_in l_X8_85 (r_in (p := (w).toInt) (q := (10)) (r := (29)) (tL rfl) (by decide) (by decide)) (by omega) rfl rfl (Nat.le_of_ble_eq_true rfl) ⟨Nat.le_refl _, Nat.le_refl _⟩ dX8_tells_8 (fun r1 s1 q1 => ?_)
  obtain ⟨rfl, eq1⟩ := q1
  obtain rfl := eq1.symm
  refine x_stk (st' := [.int (bI (decide ((10) ≤ (w).toInt ∧ (w).toInt ≤ (29))))]) rfl ?_
  refine x_ifP_eq (P := (10) ≤ (w).toInt ∧ (w).toInt ≤ (29)) inferInstance (tgt := 30) dX8_tells_11 (by decide) (fun hv2 => ?_) (fun hv2 => ?_)
  · refine x_iconst (v := nI 0) dX8_tells_30 (by decide) ?_
    refine x_istore dX8_tells_31 (by decide) rfl ?_
    refine x_lv (lv' := [some (.ref 1000), some (.int x), some (.int y), some (.int w), some (.int (nI 0))]) rfl ?_
    refine x_iload_n dX8_tells_33 rfl ?_
    refine x_callS m_X8_isSheet l_X8_299 (r_isSheet rfl) (by omega) rfl rfl (Nat.le_of_ble_eq_true rfl) ⟨Nat.le_refl _, Nat.le_refl _⟩ dX8_tells_34 (fun r3 s3 q3 => ?_)
    obtain ⟨rfl, eq3⟩ := q3
    obtain rfl := eq3.symm
    refine x_stk (st' := [.int (bI (decide (0 ≤ (x).toInt ∧ (x).toInt ≤ 3)))]) rfl ?_
    refine x_ifP_eq (P := 0 ≤ (x).toInt ∧ (x).toInt ≤ 3) inferInstance (tgt := 65) dX8_tells_37 (by decide) (fun hv4 => ?_) (fun hv4 => ?_)
    · refine x_bipush (v := (-2)) dX8_tells_65 (by decide) ?_
      exact x_iret ⟨Nat.le_refl _, Nat.le_refl _⟩ rfl dX8_tells_67 ⟨rfl, rfl⟩
    · refine x_aload_n dX8_tells_40 rfl ?_
      refine x_iload_n dX8_tells_41 rfl ?_
      refine x_callV m_X8_isOne l_X8_89 (r_isOne hR hC rfl) rfl hR.2.1 (by omega) rfl rfl (Nat.le_of_ble_eq_true rfl) ⟨Nat.le_refl _, Nat.le_refl _⟩ dX8_tells_42 (fun r5 s5 q5 => ?_)
      obtain ⟨rfl, eq5⟩ := q5
      obtain rfl := eq5.symm
      refine x_stk (st' := [.int (bI (decide (0 ≤ (y).toInt ∧ (y).toInt < ((n : Nat) : Int))))]) rfl ?_
      refine x_ifP_eq (P := 0 ≤ (y).toInt ∧ (y).toInt < ((n : Nat) : Int)) inferInstance (tgt := 65) dX8_tells_45 (by decide) (fun hv6 => ?_) (fun hv6 => ?_)
      · refine x_bipush (v := (-2)) dX8_tells_65 (by decide) ?_
        exact x_iret ⟨Nat.le_refl _, Nat.le_refl _⟩ rfl dX8_tells_67 ⟨rfl, rfl⟩
      · refine x_iload_n dX8_tells_48 rfl ?_
        refine x_i2l dX8_tells_49 ?_
        refine x_lconst (v := 0) dX8_tells_50 (by decide) ?_
        refine x_ldc2 (v := (2)) cl_X8_302 dX8_tells_51 ?_
        refine x_callS m_X8_in l_X8_85 (r_in (p := (w).toInt) (q := 0) (r := (2)) (tL rfl) (by decide) (by decide)) (by omega) rfl rfl (Nat.le_of_ble_eq_true rfl) ⟨Nat.le_refl _, Nat.le_refl _⟩ dX8_tells_54 (fun r7 s7 q7 => ?_)
        obtain ⟨rfl, eq7⟩ := q7
        obtain rfl := eq7.symm
        refine x_stk (st' := [.int (bI (decide (0 ≤ (w).toInt ∧ (w).toInt ≤ (2))))]) rfl ?_
        refine x_ifP_ne (P := 0 ≤ (w).toInt ∧ (w).toInt ≤ (2)) inferInstance (tgt := 68) dX8_tells_57 (by decide) (fun hv8 => ?_) (fun hv8 => ?_)
        · exfalso; omega
        · refine x_iload dX8_tells_60 rfl ?_
          refine x_ifN_ne (tgt := 68) dX8_tells_62 (by decide) (by omega) (fun hv9 => ?_) (fun hv9 => ?_)
          · exact absurd hv9 (by decide)
          · refine x_bipush (v := (-2)) dX8_tells_65 (by decide) ?_
            exact x_iret ⟨Nat.le_refl _, Nat.le_refl _⟩ rfl dX8_tells_67 ⟨rfl, rfl⟩
  · refine x_aload_n dX8_tells_14 rfl ?_
    refine x_iload_n dX8_tells_15 rfl ?_
    refine x_iload_n dX8_tells_16 rfl ?_
    refine x_bipush (v := nI 10) dX8_tells_17 (by decide) ?_
    refine x_irem dX8_tells_19 (by decide) ?_
    refine x_callV m_X8_areTwo l_X8_116 (r_areTwo hR hC rfl rfl) rfl hR.2.1 (by omega) rfl rfl (Nat.le_of_ble_eq_true rfl) ⟨Nat.le_refl _, Nat.le_refl _⟩ dX8_tells_20 (fun r10 s10 q10 => ?_)
    obtain ⟨rfl, eq10⟩ := q10
    obtain rfl := eq10.symm
    refine x_stk (st' := [.int (bI (decide ((0 ≤ (y).toInt ∧ (y).toInt < ((n : Nat) : Int)) ∧ (0 ≤ ((w - w / nI 10 * nI 10)).toInt ∧ ((w - w / nI 10 * nI 10)).toInt < ((n : Nat) : Int)) ∧ ¬ (y).toInt = ((w - w / nI 10 * nI 10)).toInt)))]) rfl ?_
    refine x_ifP_eq (P := (0 ≤ (y).toInt ∧ (y).toInt < ((n : Nat) : Int)) ∧ (0 ≤ ((w - w / nI 10 * nI 10)).toInt ∧ ((w - w / nI 10 * nI 10)).toInt < ((n : Nat) : Int)) ∧ ¬ (y).toInt = ((w - w / nI 10 * nI 10)).toInt) inferInstance (tgt := 30) dX8_tells_23 (by decide) (fun hv11 => ?_) (fun hv11 => ?_)
    · refine x_iconst (v := nI 0) dX8_tells_30 (by decide) ?_
      refine x_istore dX8_tells_31 (by decide) rfl ?_
      refine x_lv (lv' := [some (.ref 1000), some (.int x), some (.int y), some (.int w), some (.int (nI 0))]) rfl ?_
      refine x_iload_n dX8_tells_33 rfl ?_
      refine x_callS m_X8_isSheet l_X8_299 (r_isSheet rfl) (by omega) rfl rfl (Nat.le_of_ble_eq_true rfl) ⟨Nat.le_refl _, Nat.le_refl _⟩ dX8_tells_34 (fun r12 s12 q12 => ?_)
      obtain ⟨rfl, eq12⟩ := q12
      obtain rfl := eq12.symm
      refine x_stk (st' := [.int (bI (decide (0 ≤ (x).toInt ∧ (x).toInt ≤ 3)))]) rfl ?_
      refine x_ifP_eq (P := 0 ≤ (x).toInt ∧ (x).toInt ≤ 3) inferInstance (tgt := 65) dX8_tells_37 (by decide) (fun hv13 => ?_) (fun hv13 => ?_)
      · refine x_bipush (v := (-2)) dX8_tells_65 (by decide) ?_
        exact x_iret ⟨Nat.le_refl _, Nat.le_refl _⟩ rfl dX8_tells_67 ⟨rfl, rfl⟩
      · refine x_aload_n dX8_tells_40 rfl ?_
        refine x_iload_n dX8_tells_41 rfl ?_
        refine x_callV m_X8_isOne l_X8_89 (r_isOne hR hC rfl) rfl hR.2.1 (by omega) rfl rfl (Nat.le_of_ble_eq_true rfl) ⟨Nat.le_refl _, Nat.le_refl _⟩ dX8_tells_42 (fun r14 s14 q14 => ?_)
        obtain ⟨rfl, eq14⟩ := q14
        obtain rfl := eq14.symm
        refine x_stk (st' := [.int (bI (decide (0 ≤ (y).toInt ∧ (y).toInt < ((n : Nat) : Int))))]) rfl ?_
        refine x_ifP_eq (P := 0 ≤ (y).toInt ∧ (y).toInt < ((n : Nat) : Int)) inferInstance (tgt := 65) dX8_tells_45 (by decide) (fun hv15 => ?_) (fun hv15 => ?_)
        · refine x_bipush (v := (-2)) dX8_tells_65 (by decide) ?_
          exact x_iret ⟨Nat.le_refl _, Nat.le_refl _⟩ rfl dX8_tells_67 ⟨rfl, rfl⟩
        · refine x_iload_n dX8_tells_48 rfl ?_
          refine x_i2l dX8_tells_49 ?_
          refine x_lconst (v := 0) dX8_tells_50 (by decide) ?_
          refine x_ldc2 (v := (2)) cl_X8_302 dX8_tells_51 ?_
          refine x_callS m_X8_in l_X8_85 (r_in (p := (w).toInt) (q := 0) (r := (2)) (tL rfl) (by decide) (by decide)) (by omega) rfl rfl (Nat.le_of_ble_eq_true rfl) ⟨Nat.le_refl _, Nat.le_refl _⟩ dX8_tells_54 (fun r16 s16 q16 => ?_)
          obtain ⟨rfl, eq16⟩ := q16
          obtain rfl := eq16.symm
          refine x_stk (st' := [.int (bI (decide (0 ≤ (w).toInt ∧ (w).toInt ≤ (2))))]) rfl ?_
          refine x_ifP_ne (P := 0 ≤ (w).toInt ∧ (w).toInt ≤ (2)) inferInstance (tgt := 68) dX8_tells_57 (by decide) (fun hv17 => ?_) (fun hv17 => ?_)
          · exfalso; omega
          · refine x_iload dX8_tells_60 rfl ?_
            refine x_ifN_ne (tgt := 68) dX8_tells_62 (by decide) (by omega) (fun hv18 => ?_) (fun hv18 => ?_)
            · exact absurd hv18 (by decide)
            · refine x_bipush (v := (-2)) dX8_tells_65 (by decide) ?_
              exact x_iret ⟨Nat.le_refl _, Nat.le_refl _⟩ rfl dX8_tells_67 ⟨rfl, rfl⟩
    · refine x_iconst (v := nI 1) dX8_tells_26 (by decide) ?_
      refine x_goto (tgt := 31) dX8_tells_27 (by decide) ?_
      refine x_istore dX8_tells_31 (by decide) rfl ?_
      refine x_lv (lv' := [some (.ref 1000), some (.int x), some (.int y), some (.int w), some (.int (nI 1))]) rfl ?_
      refine x_iload_n dX8_tells_33 rfl ?_
      refine x_callS m_X8_isSheet l_X8_299 (r_isSheet rfl) (by omega) rfl rfl (Nat.le_of_ble_eq_true rfl) ⟨Nat.le_refl _, Nat.le_refl _⟩ dX8_tells_34 (fun r19 s19 q19 => ?_)
      obtain ⟨rfl, eq19⟩ := q19
      obtain rfl := eq19.symm
      refine x_stk (st' := [.int (bI (decide (0 ≤ (x).toInt ∧ (x).toInt ≤ 3)))]) rfl ?_
      refine x_ifP_eq (P := 0 ≤ (x).toInt ∧ (x).toInt ≤ 3) inferInstance (tgt := 65) dX8_tells_37 (by decide) (fun hv20 => ?_) (fun hv20 => ?_)
      · refine x_bipush (v := (-2)) dX8_tells_65 (by decide) ?_
        exact x_iret ⟨Nat.le_refl _, Nat.le_refl _⟩ rfl dX8_tells_67 ⟨rfl, rfl⟩
      · refine x_aload_n dX8_tells_40 rfl ?_
        refine x_iload_n dX8_tells_41 rfl ?_
        refine x_callV m_X8_isOne l_X8_89 (r_isOne hR hC rfl) rfl hR.2.1 (by omega) rfl rfl (Nat.le_of_ble_eq_true rfl) ⟨Nat.le_refl _, Nat.le_refl _⟩ dX8_tells_42 (fun r21 s21 q21 => ?_)
        obtain ⟨rfl, eq21⟩ := q21
        obtain rfl := eq21.symm
        refine x_stk (st' := [.int (bI (decide (0 ≤ (y).toInt ∧ (y).toInt < ((n : Nat) : Int))))]) rfl ?_
        refine x_ifP_eq (P := 0 ≤ (y).toInt ∧ (y).toInt < ((n : Nat) : Int)) inferInstance (tgt := 65) dX8_tells_45 (by decide) (fun hv22 => ?_) (fun hv22 => ?_)
        · refine x_bipush (v := (-2)) dX8_tells_65 (by decide) ?_
          exact x_iret ⟨Nat.le_refl _, Nat.le_refl _⟩ rfl dX8_tells_67 ⟨rfl, rfl⟩
        · refine x_iload_n dX8_tells_48 rfl ?_
          refine x_i2l dX8_tells_49 ?_
          refine x_lconst (v := 0) dX8_tells_50 (by decide) ?_
          refine x_ldc2 (v := (2)) cl_X8_302 dX8_tells_51 ?_
          refine x_callS m_X8_in l_X8_85 (r_in (p := (w).toInt) (q := 0) (r := (2)) (tL rfl) (by decide) (by decide)) (by omega) rfl rfl (Nat.le_of_ble_eq_true rfl) ⟨Nat.le_refl _, Nat.le_refl _⟩ dX8_tells_54 (fun r23 s23 q23 => ?_)
          obtain ⟨rfl, eq23⟩ := q23
          obtain rfl := eq23.symm
          refine x_stk (st' := [.int (bI (decide (0 ≤ (w).toInt ∧ (w).toInt ≤ (2))))]) rfl ?_
          refine x_ifP_ne (P := 0 ≤ (w).toInt ∧ (w).toInt ≤ (2)) inferInstance (tgt := 68) dX8_tells_57 (by decide) (fun hv24 => ?_) (fun hv24 => ?_)
          · exfalso; omega
          · refine x_iload dX8_tells_60 rfl ?_
            refine x_ifN_ne (tgt := 68) dX8_tells_62 (by decide) (by omega) (fun hv25 => ?_) (fun hv25 => ?_)
            · exfalso; omega
            · exact absurd hv25 (by decide)
set_option maxHeartbeats 4000000 in
theorem r_tells_b2 {σ0 σ : ZS} {a : Nat → Int32} {tw : Int64} {b : Nat → List Int32} {rr n : Nat} {K N : List Nat} {W : List Int32} {D : List Nat} {ru : Nat} {L S : List Nat} {lf jf : Nat} (hR : RM σ0 σ a tw b) (hW : BW a b rr n K N W D (-1) ru L S lf jf) {sh : Nat → SH} (hS : RSH b sh) {i : Nat} (hi4 : i < 4) {o : Nat} (ho : o < n) {w : Int32} (hw : (0 ≤ w.toInt ∧ w.toInt ≤ 2) ∨ ((10 ≤ w.toInt ∧ w.toInt ≤ 29) ∧ (0 ≤ ((o : Nat) : Int) ∧ ((o : Nat) : Int) < (n : Int)) ∧ (0 ≤ (w - w / nI 10 * nI 10).toInt ∧ (w - w / nI 10 * nI 10).toInt < (n : Int)) ∧ ¬ ((o : Nat) : Int) = (w - w / nI 10 * nI 10).toInt)) (hb : (sh i).1 = -1) : Cn 4 M_X8_tells 0 0 [.ref 1000, .int (nI i), .int (nI o), .int w] σ (fun r9 σ' => r9 = some (.int (-11)) ∧ σ' = σ) := by
  obtain ⟨hC, hT⟩ := id hW
  obtain ⟨c7, hrr, c13, hn7, c14, cK, cN, cW, cD, hN7, hW7, hD49, hK5, hN9, hD999⟩ := id hC
  refine Cn.intro (lv0 := [some (.ref 1000), some (.int (nI i)), some (.int (nI o)), some (.int w), none]) rfl (Nat.le_of_ble_eq_true rfl) rfl (fun d hd => ?_)
  refine x_iload_n dX8_tells_0 rfl ?_
  refine x_i2l dX8_tells_1 ?_
  refine x_ldc2 (v := (10)) cl_X8_120 dX8_tells_2 ?_
  refine x_ldc2 (v := (29)) cl_X8_375 dX8_tells_5 ?_
  refine x_callS m_X8_in l_X8_85 (r_in (p := (w).toInt) (q := (10)) (r := (29)) (tL rfl) (by decide) (by decide)) (by omega) rfl rfl (Nat.le_of_ble_eq_true rfl) ⟨Nat.le_refl _, Nat.le_refl _⟩ dX8_tells_8 (fun r1 s1 q1 => ?_)
  obtain ⟨rfl, eq1⟩ := q1
  obtain rfl := eq1.symm
  refine x_stk (st' := [.int (bI (decide ((10) ≤ (w).toInt ∧ (w).toInt ≤ (29))))]) rfl ?_
  refine x_ifP_eq (P := (10) ≤ (w).toInt ∧ (w).toInt ≤ (29)) inferInstance (tgt := 30) dX8_tells_11 (by decide) (fun hv2 => ?_) (fun hv2 => ?_)
  · refine x_iconst (v := nI 0) dX8_tells_30 (by decide) ?_
    refine x_istore dX8_tells_31 (by decide) rfl ?_
    refine x_lv (lv' := [some (.ref 1000), some (.int (nI i)), some (.int (nI o)), some (.int w), some (.int (nI 0))]) rfl ?_
    refine x_iload_n dX8_tells_33 rfl ?_
    refine x_callS m_X8_isSheet l_X8_299 (r_isSheet (nI_toInt (by omega))) (by omega) rfl rfl (Nat.le_of_ble_eq_true rfl) ⟨Nat.le_refl _, Nat.le_refl _⟩ dX8_tells_34 (fun r3 s3 q3 => ?_)
    obtain ⟨rfl, eq3⟩ := q3
    obtain rfl := eq3.symm
    refine x_stk (st' := [.int (bI (decide (0 ≤ ((i : Nat) : Int) ∧ ((i : Nat) : Int) ≤ 3)))]) rfl ?_
    refine x_ifP_eq (P := 0 ≤ ((i : Nat) : Int) ∧ ((i : Nat) : Int) ≤ 3) inferInstance (tgt := 65) dX8_tells_37 (by decide) (fun hv4 => ?_) (fun hv4 => ?_)
    · exfalso; omega
    · refine x_aload_n dX8_tells_40 rfl ?_
      refine x_iload_n dX8_tells_41 rfl ?_
      refine x_callV m_X8_isOne l_X8_89 (r_isOne hR hC (nI_toInt (by omega))) rfl hR.2.1 (by omega) rfl rfl (Nat.le_of_ble_eq_true rfl) ⟨Nat.le_refl _, Nat.le_refl _⟩ dX8_tells_42 (fun r5 s5 q5 => ?_)
      obtain ⟨rfl, eq5⟩ := q5
      obtain rfl := eq5.symm
      refine x_stk (st' := [.int (bI (decide (0 ≤ ((o : Nat) : Int) ∧ ((o : Nat) : Int) < ((n : Nat) : Int))))]) rfl ?_
      refine x_ifP_eq (P := 0 ≤ ((o : Nat) : Int) ∧ ((o : Nat) : Int) < ((n : Nat) : Int)) inferInstance (tgt := 65) dX8_tells_45 (by decide) (fun hv6 => ?_) (fun hv6 => ?_)
      · exfalso; omega
      · refine x_iload_n dX8_tells_48 rfl ?_
        refine x_i2l dX8_tells_49 ?_
        refine x_lconst (v := 0) dX8_tells_50 (by decide) ?_
        refine x_ldc2 (v := (2)) cl_X8_302 dX8_tells_51 ?_
        refine x_callS m_X8_in l_X8_85 (r_in (p := (w).toInt) (q := 0) (r := (2)) (tL rfl) (by decide) (by decide)) (by omega) rfl rfl (Nat.le_of_ble_eq_true rfl) ⟨Nat.le_refl _, Nat.le_refl _⟩ dX8_tells_54 (fun r7 s7 q7 => ?_)
        obtain ⟨rfl, eq7⟩ := q7
        obtain rfl := eq7.symm
        refine x_stk (st' := [.int (bI (decide (0 ≤ (w).toInt ∧ (w).toInt ≤ (2))))]) rfl ?_
        refine x_ifP_ne (P := 0 ≤ (w).toInt ∧ (w).toInt ≤ (2)) inferInstance (tgt := 68) dX8_tells_57 (by decide) (fun hv8 => ?_) (fun hv8 => ?_)
        · refine x_aload_n dX8_tells_68 rfl ?_
          refine x_rget f_X8_62 hR rfl dX8_tells_69 ?_
          refine x_iload_n dX8_tells_72 rfl ?_
          refine x_rzld (j := 13) (n := i) hR rfl (by decide) rfl rfl (rlt hR (m := 4) (by decide) rfl (by omega)) dX8_tells_73 ?_
          refine x_topi (y := bI (decide (¬ (sh i).1 = -1))) (hS i hi4).1 ?_
          refine x_ifP_ne (P := ¬ (sh i).1 = -1) inferInstance (tgt := 80) dX8_tells_74 (by decide) (fun hv9 => ?_) (fun hv9 => ?_)
          · exact absurd hb hv9
          · refine x_bipush (v := (-11)) dX8_tells_77 (by decide) ?_
            exact x_iret ⟨Nat.le_refl _, Nat.le_refl _⟩ rfl dX8_tells_79 ⟨rfl, rfl⟩
        · refine x_iload dX8_tells_60 rfl ?_
          refine x_ifN_ne (tgt := 68) dX8_tells_62 (by decide) (by omega) (fun hv10 => ?_) (fun hv10 => ?_)
          · exact absurd hv10 (by decide)
          · exfalso; omega
  · refine x_aload_n dX8_tells_14 rfl ?_
    refine x_iload_n dX8_tells_15 rfl ?_
    refine x_iload_n dX8_tells_16 rfl ?_
    refine x_bipush (v := nI 10) dX8_tells_17 (by decide) ?_
    refine x_irem dX8_tells_19 (by decide) ?_
    refine x_callV m_X8_areTwo l_X8_116 (r_areTwo hR hC (nI_toInt (by omega)) rfl) rfl hR.2.1 (by omega) rfl rfl (Nat.le_of_ble_eq_true rfl) ⟨Nat.le_refl _, Nat.le_refl _⟩ dX8_tells_20 (fun r11 s11 q11 => ?_)
    obtain ⟨rfl, eq11⟩ := q11
    obtain rfl := eq11.symm
    refine x_stk (st' := [.int (bI (decide ((0 ≤ ((o : Nat) : Int) ∧ ((o : Nat) : Int) < ((n : Nat) : Int)) ∧ (0 ≤ ((w - w / nI 10 * nI 10)).toInt ∧ ((w - w / nI 10 * nI 10)).toInt < ((n : Nat) : Int)) ∧ ¬ ((o : Nat) : Int) = ((w - w / nI 10 * nI 10)).toInt)))]) rfl ?_
    refine x_ifP_eq (P := (0 ≤ ((o : Nat) : Int) ∧ ((o : Nat) : Int) < ((n : Nat) : Int)) ∧ (0 ≤ ((w - w / nI 10 * nI 10)).toInt ∧ ((w - w / nI 10 * nI 10)).toInt < ((n : Nat) : Int)) ∧ ¬ ((o : Nat) : Int) = ((w - w / nI 10 * nI 10)).toInt) inferInstance (tgt := 30) dX8_tells_23 (by decide) (fun hv12 => ?_) (fun hv12 => ?_)
    · refine x_iconst (v := nI 0) dX8_tells_30 (by decide) ?_
      refine x_istore dX8_tells_31 (by decide) rfl ?_
      refine x_lv (lv' := [some (.ref 1000), some (.int (nI i)), some (.int (nI o)), some (.int w), some (.int (nI 0))]) rfl ?_
      refine x_iload_n dX8_tells_33 rfl ?_
      refine x_callS m_X8_isSheet l_X8_299 (r_isSheet (nI_toInt (by omega))) (by omega) rfl rfl (Nat.le_of_ble_eq_true rfl) ⟨Nat.le_refl _, Nat.le_refl _⟩ dX8_tells_34 (fun r13 s13 q13 => ?_)
      obtain ⟨rfl, eq13⟩ := q13
      obtain rfl := eq13.symm
      refine x_stk (st' := [.int (bI (decide (0 ≤ ((i : Nat) : Int) ∧ ((i : Nat) : Int) ≤ 3)))]) rfl ?_
      refine x_ifP_eq (P := 0 ≤ ((i : Nat) : Int) ∧ ((i : Nat) : Int) ≤ 3) inferInstance (tgt := 65) dX8_tells_37 (by decide) (fun hv14 => ?_) (fun hv14 => ?_)
      · exfalso; omega
      · refine x_aload_n dX8_tells_40 rfl ?_
        refine x_iload_n dX8_tells_41 rfl ?_
        refine x_callV m_X8_isOne l_X8_89 (r_isOne hR hC (nI_toInt (by omega))) rfl hR.2.1 (by omega) rfl rfl (Nat.le_of_ble_eq_true rfl) ⟨Nat.le_refl _, Nat.le_refl _⟩ dX8_tells_42 (fun r15 s15 q15 => ?_)
        obtain ⟨rfl, eq15⟩ := q15
        obtain rfl := eq15.symm
        refine x_stk (st' := [.int (bI (decide (0 ≤ ((o : Nat) : Int) ∧ ((o : Nat) : Int) < ((n : Nat) : Int))))]) rfl ?_
        refine x_ifP_eq (P := 0 ≤ ((o : Nat) : Int) ∧ ((o : Nat) : Int) < ((n : Nat) : Int)) inferInstance (tgt := 65) dX8_tells_45 (by decide) (fun hv16 => ?_) (fun hv16 => ?_)
        · exfalso; omega
        · refine x_iload_n dX8_tells_48 rfl ?_
          refine x_i2l dX8_tells_49 ?_
          refine x_lconst (v := 0) dX8_tells_50 (by decide) ?_
          refine x_ldc2 (v := (2)) cl_X8_302 dX8_tells_51 ?_
          refine x_callS m_X8_in l_X8_85 (r_in (p := (w).toInt) (q := 0) (r := (2)) (tL rfl) (by decide) (by decide)) (by omega) rfl rfl (Nat.le_of_ble_eq_true rfl) ⟨Nat.le_refl _, Nat.le_refl _⟩ dX8_tells_54 (fun r17 s17 q17 => ?_)
          obtain ⟨rfl, eq17⟩ := q17
          obtain rfl := eq17.symm
          refine x_stk (st' := [.int (bI (decide (0 ≤ (w).toInt ∧ (w).toInt ≤ (2))))]) rfl ?_
          refine x_ifP_ne (P := 0 ≤ (w).toInt ∧ (w).toInt ≤ (2)) inferInstance (tgt := 68) dX8_tells_57 (by decide) (fun hv18 => ?_) (fun hv18 => ?_)
          · refine x_aload_n dX8_tells_68 rfl ?_
            refine x_rget f_X8_62 hR rfl dX8_tells_69 ?_
            refine x_iload_n dX8_tells_72 rfl ?_
            refine x_rzld (j := 13) (n := i) hR rfl (by decide) rfl rfl (rlt hR (m := 4) (by decide) rfl (by omega)) dX8_tells_73 ?_
            refine x_topi (y := bI (decide (¬ (sh i).1 = -1))) (hS i hi4).1 ?_
            refine x_ifP_ne (P := ¬ (sh i).1 = -1) inferInstance (tgt := 80) dX8_tells_74 (by decide) (fun hv19 => ?_) (fun hv19 => ?_)
            · exact absurd hb hv19
            · refine x_bipush (v := (-11)) dX8_tells_77 (by decide) ?_
              exact x_iret ⟨Nat.le_refl _, Nat.le_refl _⟩ rfl dX8_tells_79 ⟨rfl, rfl⟩
          · refine x_iload dX8_tells_60 rfl ?_
            refine x_ifN_ne (tgt := 68) dX8_tells_62 (by decide) (by omega) (fun hv20 => ?_) (fun hv20 => ?_)
            · exact absurd hv20 (by decide)
            · exfalso; omega
    · refine x_iconst (v := nI 1) dX8_tells_26 (by decide) ?_
      refine x_goto (tgt := 31) dX8_tells_27 (by decide) ?_
      refine x_istore dX8_tells_31 (by decide) rfl ?_
      refine x_lv (lv' := [some (.ref 1000), some (.int (nI i)), some (.int (nI o)), some (.int w), some (.int (nI 1))]) rfl ?_
      refine x_iload_n dX8_tells_33 rfl ?_
      refine x_callS m_X8_isSheet l_X8_299 (r_isSheet (nI_toInt (by omega))) (by omega) rfl rfl (Nat.le_of_ble_eq_true rfl) ⟨Nat.le_refl _, Nat.le_refl _⟩ dX8_tells_34 (fun r21 s21 q21 => ?_)
      obtain ⟨rfl, eq21⟩ := q21
      obtain rfl := eq21.symm
      refine x_stk (st' := [.int (bI (decide (0 ≤ ((i : Nat) : Int) ∧ ((i : Nat) : Int) ≤ 3)))]) rfl ?_
      refine x_ifP_eq (P := 0 ≤ ((i : Nat) : Int) ∧ ((i : Nat) : Int) ≤ 3) inferInstance (tgt := 65) dX8_tells_37 (by decide) (fun hv22 => ?_) (fun hv22 => ?_)
      · exfalso; omega
      · refine x_aload_n dX8_tells_40 rfl ?_
        refine x_iload_n dX8_tells_41 rfl ?_
        refine x_callV m_X8_isOne l_X8_89 (r_isOne hR hC (nI_toInt (by omega))) rfl hR.2.1 (by omega) rfl rfl (Nat.le_of_ble_eq_true rfl) ⟨Nat.le_refl _, Nat.le_refl _⟩ dX8_tells_42 (fun r23 s23 q23 => ?_)
        obtain ⟨rfl, eq23⟩ := q23
        obtain rfl := eq23.symm
        refine x_stk (st' := [.int (bI (decide (0 ≤ ((o : Nat) : Int) ∧ ((o : Nat) : Int) < ((n : Nat) : Int))))]) rfl ?_
        refine x_ifP_eq (P := 0 ≤ ((o : Nat) : Int) ∧ ((o : Nat) : Int) < ((n : Nat) : Int)) inferInstance (tgt := 65) dX8_tells_45 (by decide) (fun hv24 => ?_) (fun hv24 => ?_)
        · exfalso; omega
        · refine x_iload_n dX8_tells_48 rfl ?_
          refine x_i2l dX8_tells_49 ?_
          refine x_lconst (v := 0) dX8_tells_50 (by decide) ?_
          refine x_ldc2 (v := (2)) cl_X8_302 dX8_tells_51 ?_
          refine x_callS m_X8_in l_X8_85 (r_in (p := (w).toInt) (q := 0) (r := (2)) (tL rfl) (by decide) (by decide)) (by omega) rfl rfl (Nat.le_of_ble_eq_true rfl) ⟨Nat.le_refl _, Nat.le_refl _⟩ dX8_tells_54 (fun r25 s25 q25 => ?_)
          obtain ⟨rfl, eq25⟩ := q25
          obtain rfl := eq25.symm
          refine x_stk (st' := [.int (bI (decide (0 ≤ (w).toInt ∧ (w).toInt ≤ (2))))]) rfl ?_
          refine x_ifP_ne (P := 0 ≤ (w).toInt ∧ (w).toInt ≤ (2)) inferInstance (tgt := 68) dX8_tells_57 (by decide) (fun hv26 => ?_) (fun hv26 => ?_)
          · refine x_aload_n dX8_tells_68 rfl ?_
            refine x_rget f_X8_62 hR rfl dX8_tells_69 ?_
            refine x_iload_n dX8_tells_72 rfl ?_
            refine x_rzld (j := 13) (n := i) hR rfl (by decide) rfl rfl (rlt hR (m := 4) (by decide) rfl (by omega)) dX8_tells_73 ?_
            refine x_topi (y := bI (decide (¬ (sh i).1 = -1))) (hS i hi4).1 ?_
            refine x_ifP_ne (P := ¬ (sh i).1 = -1) inferInstance (tgt := 80) dX8_tells_74 (by decide) (fun hv27 => ?_) (fun hv27 => ?_)
            · exact absurd hb hv27
            · refine x_bipush (v := (-11)) dX8_tells_77 (by decide) ?_
              exact x_iret ⟨Nat.le_refl _, Nat.le_refl _⟩ rfl dX8_tells_79 ⟨rfl, rfl⟩
          · refine x_iload dX8_tells_60 rfl ?_
            refine x_ifN_ne (tgt := 68) dX8_tells_62 (by decide) (by omega) (fun hv28 => ?_) (fun hv28 => ?_)
            · refine x_aload_n dX8_tells_68 rfl ?_
              refine x_rget f_X8_62 hR rfl dX8_tells_69 ?_
              refine x_iload_n dX8_tells_72 rfl ?_
              refine x_rzld (j := 13) (n := i) hR rfl (by decide) rfl rfl (rlt hR (m := 4) (by decide) rfl (by omega)) dX8_tells_73 ?_
              refine x_topi (y := bI (decide (¬ (sh i).1 = -1))) (hS i hi4).1 ?_
              refine x_ifP_ne (P := ¬ (sh i).1 = -1) inferInstance (tgt := 80) dX8_tells_74 (by decide) (fun hv29 => ?_) (fun hv29 => ?_)
              · exact absurd hb hv29
              · refine x_bipush (v := (-11)) dX8_tells_77 (by decide) ?_
                exact x_iret ⟨Nat.le_refl _, Nat.le_refl _⟩ rfl dX8_tells_79 ⟨rfl, rfl⟩
            · exact absurd hv28 (by decide)
set_option maxHeartbeats 4000000 in
theorem r_tells_b3 {σ0 σ : ZS} {a : Nat → Int32} {tw : Int64} {b : Nat → List Int32} {rr n : Nat} {K N : List Nat} {W : List Int32} {D : List Nat} {ru : Nat} {L S : List Nat} {lf jf : Nat} (hR : RM σ0 σ a tw b) (hW : BW a b rr n K N W D (-1) ru L S lf jf) {sh : Nat → SH} (hS : RSH b sh) {i : Nat} (hi4 : i < 4) (hne : ¬ (sh i).1 = -1) (hz40 : (sh i).2.1 ≤ 40) {o : Nat} (ho : o < n) {w : Int32} (hw : (0 ≤ w.toInt ∧ w.toInt ≤ 2) ∨ ((10 ≤ w.toInt ∧ w.toInt ≤ 29) ∧ (0 ≤ ((o : Nat) : Int) ∧ ((o : Nat) : Int) < (n : Int)) ∧ (0 ≤ (w - w / nI 10 * nI 10).toInt ∧ (w - w / nI 10 * nI 10).toInt < (n : Int)) ∧ ¬ ((o : Nat) : Int) = (w - w / nI 10 * nI 10).toInt)) (hb : ¬ (sh i).2.1 = n) : Cn 4 M_X8_tells 0 0 [.ref 1000, .int (nI i), .int (nI o), .int w] σ (fun r9 σ' => r9 = some (.int (-2)) ∧ σ' = σ) := by
  obtain ⟨hC, hT⟩ := id hW
  obtain ⟨c7, hrr, c13, hn7, c14, cK, cN, cW, cD, hN7, hW7, hD49, hK5, hN9, hD999⟩ := id hC
  refine Cn.intro (lv0 := [some (.ref 1000), some (.int (nI i)), some (.int (nI o)), some (.int w), none]) rfl (Nat.le_of_ble_eq_true rfl) rfl (fun d hd => ?_)
  refine x_iload_n dX8_tells_0 rfl ?_
  refine x_i2l dX8_tells_1 ?_
  refine x_ldc2 (v := (10)) cl_X8_120 dX8_tells_2 ?_
  refine x_ldc2 (v := (29)) cl_X8_375 dX8_tells_5 ?_
  refine x_callS m_X8_in l_X8_85 (r_in (p := (w).toInt) (q := (10)) (r := (29)) (tL rfl) (by decide) (by decide)) (by omega) rfl rfl (Nat.le_of_ble_eq_true rfl) ⟨Nat.le_refl _, Nat.le_refl _⟩ dX8_tells_8 (fun r1 s1 q1 => ?_)
  obtain ⟨rfl, eq1⟩ := q1
  obtain rfl := eq1.symm
  refine x_stk (st' := [.int (bI (decide ((10) ≤ (w).toInt ∧ (w).toInt ≤ (29))))]) rfl ?_
  refine x_ifP_eq (P := (10) ≤ (w).toInt ∧ (w).toInt ≤ (29)) inferInstance (tgt := 30) dX8_tells_11 (by decide) (fun hv2 => ?_) (fun hv2 => ?_)
  · refine x_iconst (v := nI 0) dX8_tells_30 (by decide) ?_
    refine x_istore dX8_tells_31 (by decide) rfl ?_
    refine x_lv (lv' := [some (.ref 1000), some (.int (nI i)), some (.int (nI o)), some (.int w), some (.int (nI 0))]) rfl ?_
    refine x_iload_n dX8_tells_33 rfl ?_
    refine x_callS m_X8_isSheet l_X8_299 (r_isSheet (nI_toInt (by omega))) (by omega) rfl rfl (Nat.le_of_ble_eq_true rfl) ⟨Nat.le_refl _, Nat.le_refl _⟩ dX8_tells_34 (fun r3 s3 q3 => ?_)
    obtain ⟨rfl, eq3⟩ := q3
    obtain rfl := eq3.symm
    refine x_stk (st' := [.int (bI (decide (0 ≤ ((i : Nat) : Int) ∧ ((i : Nat) : Int) ≤ 3)))]) rfl ?_
    refine x_ifP_eq (P := 0 ≤ ((i : Nat) : Int) ∧ ((i : Nat) : Int) ≤ 3) inferInstance (tgt := 65) dX8_tells_37 (by decide) (fun hv4 => ?_) (fun hv4 => ?_)
    · exfalso; omega
    · refine x_aload_n dX8_tells_40 rfl ?_
      refine x_iload_n dX8_tells_41 rfl ?_
      refine x_callV m_X8_isOne l_X8_89 (r_isOne hR hC (nI_toInt (by omega))) rfl hR.2.1 (by omega) rfl rfl (Nat.le_of_ble_eq_true rfl) ⟨Nat.le_refl _, Nat.le_refl _⟩ dX8_tells_42 (fun r5 s5 q5 => ?_)
      obtain ⟨rfl, eq5⟩ := q5
      obtain rfl := eq5.symm
      refine x_stk (st' := [.int (bI (decide (0 ≤ ((o : Nat) : Int) ∧ ((o : Nat) : Int) < ((n : Nat) : Int))))]) rfl ?_
      refine x_ifP_eq (P := 0 ≤ ((o : Nat) : Int) ∧ ((o : Nat) : Int) < ((n : Nat) : Int)) inferInstance (tgt := 65) dX8_tells_45 (by decide) (fun hv6 => ?_) (fun hv6 => ?_)
      · exfalso; omega
      · refine x_iload_n dX8_tells_48 rfl ?_
        refine x_i2l dX8_tells_49 ?_
        refine x_lconst (v := 0) dX8_tells_50 (by decide) ?_
        refine x_ldc2 (v := (2)) cl_X8_302 dX8_tells_51 ?_
        refine x_callS m_X8_in l_X8_85 (r_in (p := (w).toInt) (q := 0) (r := (2)) (tL rfl) (by decide) (by decide)) (by omega) rfl rfl (Nat.le_of_ble_eq_true rfl) ⟨Nat.le_refl _, Nat.le_refl _⟩ dX8_tells_54 (fun r7 s7 q7 => ?_)
        obtain ⟨rfl, eq7⟩ := q7
        obtain rfl := eq7.symm
        refine x_stk (st' := [.int (bI (decide (0 ≤ (w).toInt ∧ (w).toInt ≤ (2))))]) rfl ?_
        refine x_ifP_ne (P := 0 ≤ (w).toInt ∧ (w).toInt ≤ (2)) inferInstance (tgt := 68) dX8_tells_57 (by decide) (fun hv8 => ?_) (fun hv8 => ?_)
        · refine x_aload_n dX8_tells_68 rfl ?_
          refine x_rget f_X8_62 hR rfl dX8_tells_69 ?_
          refine x_iload_n dX8_tells_72 rfl ?_
          refine x_rzld (j := 13) (n := i) hR rfl (by decide) rfl rfl (rlt hR (m := 4) (by decide) rfl (by omega)) dX8_tells_73 ?_
          refine x_topi (y := bI (decide (¬ (sh i).1 = -1))) (hS i hi4).1 ?_
          refine x_ifP_ne (P := ¬ (sh i).1 = -1) inferInstance (tgt := 80) dX8_tells_74 (by decide) (fun hv9 => ?_) (fun hv9 => ?_)
          · refine x_aload_n dX8_tells_80 rfl ?_
            refine x_rget f_X8_69 hR rfl dX8_tells_81 ?_
            refine x_iload_n dX8_tells_84 rfl ?_
            refine x_rald (j := 15) (n := i) hR rfl (by decide) rfl rfl (rlt hR (m := 4) (by decide) rfl (by omega)) dX8_tells_85 ?_
            refine x_topi (y := nI ((sh i).2.1)) ((hS i hi4).2 hne).2.1 ?_
            refine x_aload_n dX8_tells_86 rfl ?_
            refine x_rget (v := .int (nI n)) f_X8_82 hR (rg c13) dX8_tells_87 ?_
            refine x_icmpN_ne (tgt := 101) dX8_tells_90 (by decide) (by omega) (by omega) (fun hv10 => ?_) (fun hv10 => ?_)
            · refine x_bipush (v := (-2)) dX8_tells_101 (by decide) ?_
              exact x_iret ⟨Nat.le_refl _, Nat.le_refl _⟩ rfl dX8_tells_103 ⟨rfl, rfl⟩
            · exact absurd hv10 hb
          · exact absurd hne hv9
        · refine x_iload dX8_tells_60 rfl ?_
          refine x_ifN_ne (tgt := 68) dX8_tells_62 (by decide) (by omega) (fun hv11 => ?_) (fun hv11 => ?_)
          · exact absurd hv11 (by decide)
          · exfalso; omega
  · refine x_aload_n dX8_tells_14 rfl ?_
    refine x_iload_n dX8_tells_15 rfl ?_
    refine x_iload_n dX8_tells_16 rfl ?_
    refine x_bipush (v := nI 10) dX8_tells_17 (by decide) ?_
    refine x_irem dX8_tells_19 (by decide) ?_
    refine x_callV m_X8_areTwo l_X8_116 (r_areTwo hR hC (nI_toInt (by omega)) rfl) rfl hR.2.1 (by omega) rfl rfl (Nat.le_of_ble_eq_true rfl) ⟨Nat.le_refl _, Nat.le_refl _⟩ dX8_tells_20 (fun r12 s12 q12 => ?_)
    obtain ⟨rfl, eq12⟩ := q12
    obtain rfl := eq12.symm
    refine x_stk (st' := [.int (bI (decide ((0 ≤ ((o : Nat) : Int) ∧ ((o : Nat) : Int) < ((n : Nat) : Int)) ∧ (0 ≤ ((w - w / nI 10 * nI 10)).toInt ∧ ((w - w / nI 10 * nI 10)).toInt < ((n : Nat) : Int)) ∧ ¬ ((o : Nat) : Int) = ((w - w / nI 10 * nI 10)).toInt)))]) rfl ?_
    refine x_ifP_eq (P := (0 ≤ ((o : Nat) : Int) ∧ ((o : Nat) : Int) < ((n : Nat) : Int)) ∧ (0 ≤ ((w - w / nI 10 * nI 10)).toInt ∧ ((w - w / nI 10 * nI 10)).toInt < ((n : Nat) : Int)) ∧ ¬ ((o : Nat) : Int) = ((w - w / nI 10 * nI 10)).toInt) inferInstance (tgt := 30) dX8_tells_23 (by decide) (fun hv13 => ?_) (fun hv13 => ?_)
    · refine x_iconst (v := nI 0) dX8_tells_30 (by decide) ?_
      refine x_istore dX8_tells_31 (by decide) rfl ?_
      refine x_lv (lv' := [some (.ref 1000), some (.int (nI i)), some (.int (nI o)), some (.int w), some (.int (nI 0))]) rfl ?_
      refine x_iload_n dX8_tells_33 rfl ?_
      refine x_callS m_X8_isSheet l_X8_299 (r_isSheet (nI_toInt (by omega))) (by omega) rfl rfl (Nat.le_of_ble_eq_true rfl) ⟨Nat.le_refl _, Nat.le_refl _⟩ dX8_tells_34 (fun r14 s14 q14 => ?_)
      obtain ⟨rfl, eq14⟩ := q14
      obtain rfl := eq14.symm
      refine x_stk (st' := [.int (bI (decide (0 ≤ ((i : Nat) : Int) ∧ ((i : Nat) : Int) ≤ 3)))]) rfl ?_
      refine x_ifP_eq (P := 0 ≤ ((i : Nat) : Int) ∧ ((i : Nat) : Int) ≤ 3) inferInstance (tgt := 65) dX8_tells_37 (by decide) (fun hv15 => ?_) (fun hv15 => ?_)
      · exfalso; omega
      · refine x_aload_n dX8_tells_40 rfl ?_
        refine x_iload_n dX8_tells_41 rfl ?_
        refine x_callV m_X8_isOne l_X8_89 (r_isOne hR hC (nI_toInt (by omega))) rfl hR.2.1 (by omega) rfl rfl (Nat.le_of_ble_eq_true rfl) ⟨Nat.le_refl _, Nat.le_refl _⟩ dX8_tells_42 (fun r16 s16 q16 => ?_)
        obtain ⟨rfl, eq16⟩ := q16
        obtain rfl := eq16.symm
        refine x_stk (st' := [.int (bI (decide (0 ≤ ((o : Nat) : Int) ∧ ((o : Nat) : Int) < ((n : Nat) : Int))))]) rfl ?_
        refine x_ifP_eq (P := 0 ≤ ((o : Nat) : Int) ∧ ((o : Nat) : Int) < ((n : Nat) : Int)) inferInstance (tgt := 65) dX8_tells_45 (by decide) (fun hv17 => ?_) (fun hv17 => ?_)
        · exfalso; omega
        · refine x_iload_n dX8_tells_48 rfl ?_
          refine x_i2l dX8_tells_49 ?_
          refine x_lconst (v := 0) dX8_tells_50 (by decide) ?_
          refine x_ldc2 (v := (2)) cl_X8_302 dX8_tells_51 ?_
          refine x_callS m_X8_in l_X8_85 (r_in (p := (w).toInt) (q := 0) (r := (2)) (tL rfl) (by decide) (by decide)) (by omega) rfl rfl (Nat.le_of_ble_eq_true rfl) ⟨Nat.le_refl _, Nat.le_refl _⟩ dX8_tells_54 (fun r18 s18 q18 => ?_)
          obtain ⟨rfl, eq18⟩ := q18
          obtain rfl := eq18.symm
          refine x_stk (st' := [.int (bI (decide (0 ≤ (w).toInt ∧ (w).toInt ≤ (2))))]) rfl ?_
          refine x_ifP_ne (P := 0 ≤ (w).toInt ∧ (w).toInt ≤ (2)) inferInstance (tgt := 68) dX8_tells_57 (by decide) (fun hv19 => ?_) (fun hv19 => ?_)
          · refine x_aload_n dX8_tells_68 rfl ?_
            refine x_rget f_X8_62 hR rfl dX8_tells_69 ?_
            refine x_iload_n dX8_tells_72 rfl ?_
            refine x_rzld (j := 13) (n := i) hR rfl (by decide) rfl rfl (rlt hR (m := 4) (by decide) rfl (by omega)) dX8_tells_73 ?_
            refine x_topi (y := bI (decide (¬ (sh i).1 = -1))) (hS i hi4).1 ?_
            refine x_ifP_ne (P := ¬ (sh i).1 = -1) inferInstance (tgt := 80) dX8_tells_74 (by decide) (fun hv20 => ?_) (fun hv20 => ?_)
            · refine x_aload_n dX8_tells_80 rfl ?_
              refine x_rget f_X8_69 hR rfl dX8_tells_81 ?_
              refine x_iload_n dX8_tells_84 rfl ?_
              refine x_rald (j := 15) (n := i) hR rfl (by decide) rfl rfl (rlt hR (m := 4) (by decide) rfl (by omega)) dX8_tells_85 ?_
              refine x_topi (y := nI ((sh i).2.1)) ((hS i hi4).2 hne).2.1 ?_
              refine x_aload_n dX8_tells_86 rfl ?_
              refine x_rget (v := .int (nI n)) f_X8_82 hR (rg c13) dX8_tells_87 ?_
              refine x_icmpN_ne (tgt := 101) dX8_tells_90 (by decide) (by omega) (by omega) (fun hv21 => ?_) (fun hv21 => ?_)
              · refine x_bipush (v := (-2)) dX8_tells_101 (by decide) ?_
                exact x_iret ⟨Nat.le_refl _, Nat.le_refl _⟩ rfl dX8_tells_103 ⟨rfl, rfl⟩
              · exact absurd hv21 hb
            · exact absurd hne hv20
          · refine x_iload dX8_tells_60 rfl ?_
            refine x_ifN_ne (tgt := 68) dX8_tells_62 (by decide) (by omega) (fun hv22 => ?_) (fun hv22 => ?_)
            · exact absurd hv22 (by decide)
            · exfalso; omega
    · refine x_iconst (v := nI 1) dX8_tells_26 (by decide) ?_
      refine x_goto (tgt := 31) dX8_tells_27 (by decide) ?_
      refine x_istore dX8_tells_31 (by decide) rfl ?_
      refine x_lv (lv' := [some (.ref 1000), some (.int (nI i)), some (.int (nI o)), some (.int w), some (.int (nI 1))]) rfl ?_
      refine x_iload_n dX8_tells_33 rfl ?_
      refine x_callS m_X8_isSheet l_X8_299 (r_isSheet (nI_toInt (by omega))) (by omega) rfl rfl (Nat.le_of_ble_eq_true rfl) ⟨Nat.le_refl _, Nat.le_refl _⟩ dX8_tells_34 (fun r23 s23 q23 => ?_)
      obtain ⟨rfl, eq23⟩ := q23
      obtain rfl := eq23.symm
      refine x_stk (st' := [.int (bI (decide (0 ≤ ((i : Nat) : Int) ∧ ((i : Nat) : Int) ≤ 3)))]) rfl ?_
      refine x_ifP_eq (P := 0 ≤ ((i : Nat) : Int) ∧ ((i : Nat) : Int) ≤ 3) inferInstance (tgt := 65) dX8_tells_37 (by decide) (fun hv24 => ?_) (fun hv24 => ?_)
      · exfalso; omega
      · refine x_aload_n dX8_tells_40 rfl ?_
        refine x_iload_n dX8_tells_41 rfl ?_
        refine x_callV m_X8_isOne l_X8_89 (r_isOne hR hC (nI_toInt (by omega))) rfl hR.2.1 (by omega) rfl rfl (Nat.le_of_ble_eq_true rfl) ⟨Nat.le_refl _, Nat.le_refl _⟩ dX8_tells_42 (fun r25 s25 q25 => ?_)
        obtain ⟨rfl, eq25⟩ := q25
        obtain rfl := eq25.symm
        refine x_stk (st' := [.int (bI (decide (0 ≤ ((o : Nat) : Int) ∧ ((o : Nat) : Int) < ((n : Nat) : Int))))]) rfl ?_
        refine x_ifP_eq (P := 0 ≤ ((o : Nat) : Int) ∧ ((o : Nat) : Int) < ((n : Nat) : Int)) inferInstance (tgt := 65) dX8_tells_45 (by decide) (fun hv26 => ?_) (fun hv26 => ?_)
        · exfalso; omega
        · refine x_iload_n dX8_tells_48 rfl ?_
          refine x_i2l dX8_tells_49 ?_
          refine x_lconst (v := 0) dX8_tells_50 (by decide) ?_
          refine x_ldc2 (v := (2)) cl_X8_302 dX8_tells_51 ?_
          refine x_callS m_X8_in l_X8_85 (r_in (p := (w).toInt) (q := 0) (r := (2)) (tL rfl) (by decide) (by decide)) (by omega) rfl rfl (Nat.le_of_ble_eq_true rfl) ⟨Nat.le_refl _, Nat.le_refl _⟩ dX8_tells_54 (fun r27 s27 q27 => ?_)
          obtain ⟨rfl, eq27⟩ := q27
          obtain rfl := eq27.symm
          refine x_stk (st' := [.int (bI (decide (0 ≤ (w).toInt ∧ (w).toInt ≤ (2))))]) rfl ?_
          refine x_ifP_ne (P := 0 ≤ (w).toInt ∧ (w).toInt ≤ (2)) inferInstance (tgt := 68) dX8_tells_57 (by decide) (fun hv28 => ?_) (fun hv28 => ?_)
          · refine x_aload_n dX8_tells_68 rfl ?_
            refine x_rget f_X8_62 hR rfl dX8_tells_69 ?_
            refine x_iload_n dX8_tells_72 rfl ?_
            refine x_rzld (j := 13) (n := i) hR rfl (by decide) rfl rfl (rlt hR (m := 4) (by decide) rfl (by omega)) dX8_tells_73 ?_
            refine x_topi (y := bI (decide (¬ (sh i).1 = -1))) (hS i hi4).1 ?_
            refine x_ifP_ne (P := ¬ (sh i).1 = -1) inferInstance (tgt := 80) dX8_tells_74 (by decide) (fun hv29 => ?_) (fun hv29 => ?_)
            · refine x_aload_n dX8_tells_80 rfl ?_
              refine x_rget f_X8_69 hR rfl dX8_tells_81 ?_
              refine x_iload_n dX8_tells_84 rfl ?_
              refine x_rald (j := 15) (n := i) hR rfl (by decide) rfl rfl (rlt hR (m := 4) (by decide) rfl (by omega)) dX8_tells_85 ?_
              refine x_topi (y := nI ((sh i).2.1)) ((hS i hi4).2 hne).2.1 ?_
              refine x_aload_n dX8_tells_86 rfl ?_
              refine x_rget (v := .int (nI n)) f_X8_82 hR (rg c13) dX8_tells_87 ?_
              refine x_icmpN_ne (tgt := 101) dX8_tells_90 (by decide) (by omega) (by omega) (fun hv30 => ?_) (fun hv30 => ?_)
              · refine x_bipush (v := (-2)) dX8_tells_101 (by decide) ?_
                exact x_iret ⟨Nat.le_refl _, Nat.le_refl _⟩ rfl dX8_tells_103 ⟨rfl, rfl⟩
              · exact absurd hv30 hb
            · exact absurd hne hv29
          · refine x_iload dX8_tells_60 rfl ?_
            refine x_ifN_ne (tgt := 68) dX8_tells_62 (by decide) (by omega) (fun hv31 => ?_) (fun hv31 => ?_)
            · refine x_aload_n dX8_tells_68 rfl ?_
              refine x_rget f_X8_62 hR rfl dX8_tells_69 ?_
              refine x_iload_n dX8_tells_72 rfl ?_
              refine x_rzld (j := 13) (n := i) hR rfl (by decide) rfl rfl (rlt hR (m := 4) (by decide) rfl (by omega)) dX8_tells_73 ?_
              refine x_topi (y := bI (decide (¬ (sh i).1 = -1))) (hS i hi4).1 ?_
              refine x_ifP_ne (P := ¬ (sh i).1 = -1) inferInstance (tgt := 80) dX8_tells_74 (by decide) (fun hv32 => ?_) (fun hv32 => ?_)
              · refine x_aload_n dX8_tells_80 rfl ?_
                refine x_rget f_X8_69 hR rfl dX8_tells_81 ?_
                refine x_iload_n dX8_tells_84 rfl ?_
                refine x_rald (j := 15) (n := i) hR rfl (by decide) rfl rfl (rlt hR (m := 4) (by decide) rfl (by omega)) dX8_tells_85 ?_
                refine x_topi (y := nI ((sh i).2.1)) ((hS i hi4).2 hne).2.1 ?_
                refine x_aload_n dX8_tells_86 rfl ?_
                refine x_rget (v := .int (nI n)) f_X8_82 hR (rg c13) dX8_tells_87 ?_
                refine x_icmpN_ne (tgt := 101) dX8_tells_90 (by decide) (by omega) (by omega) (fun hv33 => ?_) (fun hv33 => ?_)
                · refine x_bipush (v := (-2)) dX8_tells_101 (by decide) ?_
                  exact x_iret ⟨Nat.le_refl _, Nat.le_refl _⟩ rfl dX8_tells_103 ⟨rfl, rfl⟩
                · exact absurd hv33 hb
              · exact absurd hne hv32
            · exact absurd hv31 (by decide)
set_option maxHeartbeats 4000000 in
theorem r_tells_b4 {σ0 σ : ZS} {a : Nat → Int32} {tw : Int64} {b : Nat → List Int32} {rr n : Nat} {K N : List Nat} {W : List Int32} {D : List Nat} {ru : Nat} {L S : List Nat} {lf jf : Nat} (hR : RM σ0 σ a tw b) (hW : BW a b rr n K N W D (-1) ru L S lf jf) {sh : Nat → SH} (hS : RSH b sh) {i : Nat} (hi4 : i < 4) (hne : ¬ (sh i).1 = -1) (hz40 : (sh i).2.1 ≤ 40) (hA9 : tbS n (sh i).2.2 (sh i).2.1 = none) {o : Nat} (ho : o < n) {w : Int32} (hw : (0 ≤ w.toInt ∧ w.toInt ≤ 2) ∨ ((10 ≤ w.toInt ∧ w.toInt ≤ 29) ∧ (0 ≤ ((o : Nat) : Int) ∧ ((o : Nat) : Int) < (n : Int)) ∧ (0 ≤ (w - w / nI 10 * nI 10).toInt ∧ (w - w / nI 10 * nI 10).toInt < (n : Int)) ∧ ¬ ((o : Nat) : Int) = (w - w / nI 10 * nI 10).toInt)) : Cn 4 M_X8_tells 0 0 [.ref 1000, .int (nI i), .int (nI o), .int w] σ (fun r9 σ' => ∃ (a' : Nat → Int32) (tw' : Int64) (b' : Nat → List Int32), r9 = some (.int (-2)) ∧ RM σ0 σ' a' tw' b' ∧ FrR a a' ∧ Fq b b') := by
  obtain ⟨hC, hT⟩ := id hW
  obtain ⟨c7, hrr, c13, hn7, c14, cK, cN, cW, cD, hN7, hW7, hD49, hK5, hN9, hD999⟩ := id hC
  refine Cn.intro (lv0 := [some (.ref 1000), some (.int (nI i)), some (.int (nI o)), some (.int w), none]) rfl (Nat.le_of_ble_eq_true rfl) rfl (fun d hd => ?_)
  refine x_iload_n dX8_tells_0 rfl ?_
  refine x_i2l dX8_tells_1 ?_
  refine x_ldc2 (v := (10)) cl_X8_120 dX8_tells_2 ?_
  refine x_ldc2 (v := (29)) cl_X8_375 dX8_tells_5 ?_
  refine x_callS m_X8_in l_X8_85 (r_in (p := (w).toInt) (q := (10)) (r := (29)) (tL rfl) (by decide) (by decide)) (by omega) rfl rfl (Nat.le_of_ble_eq_true rfl) ⟨Nat.le_refl _, Nat.le_refl _⟩ dX8_tells_8 (fun r1 s1 q1 => ?_)
  obtain ⟨rfl, eq1⟩ := q1
  obtain rfl := eq1.symm
  refine x_stk (st' := [.int (bI (decide ((10) ≤ (w).toInt ∧ (w).toInt ≤ (29))))]) rfl ?_
  refine x_ifP_eq (P := (10) ≤ (w).toInt ∧ (w).toInt ≤ (29)) inferInstance (tgt := 30) dX8_tells_11 (by decide) (fun hv2 => ?_) (fun hv2 => ?_)
  · refine x_iconst (v := nI 0) dX8_tells_30 (by decide) ?_
    refine x_istore dX8_tells_31 (by decide) rfl ?_
    refine x_lv (lv' := [some (.ref 1000), some (.int (nI i)), some (.int (nI o)), some (.int w), some (.int (nI 0))]) rfl ?_
    refine x_iload_n dX8_tells_33 rfl ?_
    refine x_callS m_X8_isSheet l_X8_299 (r_isSheet (nI_toInt (by omega))) (by omega) rfl rfl (Nat.le_of_ble_eq_true rfl) ⟨Nat.le_refl _, Nat.le_refl _⟩ dX8_tells_34 (fun r3 s3 q3 => ?_)
    obtain ⟨rfl, eq3⟩ := q3
    obtain rfl := eq3.symm
    refine x_stk (st' := [.int (bI (decide (0 ≤ ((i : Nat) : Int) ∧ ((i : Nat) : Int) ≤ 3)))]) rfl ?_
    refine x_ifP_eq (P := 0 ≤ ((i : Nat) : Int) ∧ ((i : Nat) : Int) ≤ 3) inferInstance (tgt := 65) dX8_tells_37 (by decide) (fun hv4 => ?_) (fun hv4 => ?_)
    · exfalso; omega
    · refine x_aload_n dX8_tells_40 rfl ?_
      refine x_iload_n dX8_tells_41 rfl ?_
      refine x_callV m_X8_isOne l_X8_89 (r_isOne hR hC (nI_toInt (by omega))) rfl hR.2.1 (by omega) rfl rfl (Nat.le_of_ble_eq_true rfl) ⟨Nat.le_refl _, Nat.le_refl _⟩ dX8_tells_42 (fun r5 s5 q5 => ?_)
      obtain ⟨rfl, eq5⟩ := q5
      obtain rfl := eq5.symm
      refine x_stk (st' := [.int (bI (decide (0 ≤ ((o : Nat) : Int) ∧ ((o : Nat) : Int) < ((n : Nat) : Int))))]) rfl ?_
      refine x_ifP_eq (P := 0 ≤ ((o : Nat) : Int) ∧ ((o : Nat) : Int) < ((n : Nat) : Int)) inferInstance (tgt := 65) dX8_tells_45 (by decide) (fun hv6 => ?_) (fun hv6 => ?_)
      · exfalso; omega
      · refine x_iload_n dX8_tells_48 rfl ?_
        refine x_i2l dX8_tells_49 ?_
        refine x_lconst (v := 0) dX8_tells_50 (by decide) ?_
        refine x_ldc2 (v := (2)) cl_X8_302 dX8_tells_51 ?_
        refine x_callS m_X8_in l_X8_85 (r_in (p := (w).toInt) (q := 0) (r := (2)) (tL rfl) (by decide) (by decide)) (by omega) rfl rfl (Nat.le_of_ble_eq_true rfl) ⟨Nat.le_refl _, Nat.le_refl _⟩ dX8_tells_54 (fun r7 s7 q7 => ?_)
        obtain ⟨rfl, eq7⟩ := q7
        obtain rfl := eq7.symm
        refine x_stk (st' := [.int (bI (decide (0 ≤ (w).toInt ∧ (w).toInt ≤ (2))))]) rfl ?_
        refine x_ifP_ne (P := 0 ≤ (w).toInt ∧ (w).toInt ≤ (2)) inferInstance (tgt := 68) dX8_tells_57 (by decide) (fun hv8 => ?_) (fun hv8 => ?_)
        · refine x_aload_n dX8_tells_68 rfl ?_
          refine x_rget f_X8_62 hR rfl dX8_tells_69 ?_
          refine x_iload_n dX8_tells_72 rfl ?_
          refine x_rzld (j := 13) (n := i) hR rfl (by decide) rfl rfl (rlt hR (m := 4) (by decide) rfl (by omega)) dX8_tells_73 ?_
          refine x_topi (y := bI (decide (¬ (sh i).1 = -1))) (hS i hi4).1 ?_
          refine x_ifP_ne (P := ¬ (sh i).1 = -1) inferInstance (tgt := 80) dX8_tells_74 (by decide) (fun hv9 => ?_) (fun hv9 => ?_)
          · refine x_aload_n dX8_tells_80 rfl ?_
            refine x_rget f_X8_69 hR rfl dX8_tells_81 ?_
            refine x_iload_n dX8_tells_84 rfl ?_
            refine x_rald (j := 15) (n := i) hR rfl (by decide) rfl rfl (rlt hR (m := 4) (by decide) rfl (by omega)) dX8_tells_85 ?_
            refine x_topi (y := nI ((sh i).2.1)) ((hS i hi4).2 hne).2.1 ?_
            refine x_aload_n dX8_tells_86 rfl ?_
            refine x_rget (v := .int (nI n)) f_X8_82 hR (rg c13) dX8_tells_87 ?_
            refine x_icmpN_ne (tgt := 101) dX8_tells_90 (by decide) (by omega) (by omega) (fun hv10 => ?_) (fun hv10 => ?_)
            · refine x_bipush (v := (-2)) dX8_tells_101 (by decide) ?_
              exact x_iret ⟨Nat.le_refl _, Nat.le_refl _⟩ rfl dX8_tells_103 ⟨_, _, _, rfl, hR, FrR.rf, Fq.rf⟩
            · refine x_aload_n dX8_tells_93 rfl ?_
              refine x_iload_n dX8_tells_94 rfl ?_
              refine x_callV m_X8_sits l_X8_304 ((r_sits hR hC hS (i := i) hi4 hne hz40).mono (fun r9 σ' h => (⟨by rw [h.1, hA9]; rfl, h.2⟩ : r9 = some (.int (nI 0)) ∧ _))) rfl hR.2.1 (by omega) rfl rfl (Nat.le_of_ble_eq_true rfl) ⟨Nat.le_refl _, Nat.le_refl _⟩ dX8_tells_95 (fun r11 s11 q11 => ?_)
              obtain ⟨rfl, a11, b11, R11, F11, B11, z11⟩ := q11
              
              refine x_stk (st' := [.int (nI 0)]) rfl ?_
              refine x_ifN_ne (tgt := 104) dX8_tells_98 (by decide) (by omega) (fun hv12 => ?_) (fun hv12 => ?_)
              · exact absurd hv12 (by decide)
              · refine x_bipush (v := (-2)) dX8_tells_101 (by decide) ?_
                exact x_iret ⟨Nat.le_refl _, Nat.le_refl _⟩ rfl dX8_tells_103 ⟨_, _, _, rfl, R11, F11, B11.q7⟩
          · exact absurd hne hv9
        · refine x_iload dX8_tells_60 rfl ?_
          refine x_ifN_ne (tgt := 68) dX8_tells_62 (by decide) (by omega) (fun hv13 => ?_) (fun hv13 => ?_)
          · exact absurd hv13 (by decide)
          · exfalso; omega
  · refine x_aload_n dX8_tells_14 rfl ?_
    refine x_iload_n dX8_tells_15 rfl ?_
    refine x_iload_n dX8_tells_16 rfl ?_
    refine x_bipush (v := nI 10) dX8_tells_17 (by decide) ?_
    refine x_irem dX8_tells_19 (by decide) ?_
    refine x_callV m_X8_areTwo l_X8_116 (r_areTwo hR hC (nI_toInt (by omega)) rfl) rfl hR.2.1 (by omega) rfl rfl (Nat.le_of_ble_eq_true rfl) ⟨Nat.le_refl _, Nat.le_refl _⟩ dX8_tells_20 (fun r14 s14 q14 => ?_)
    obtain ⟨rfl, eq14⟩ := q14
    obtain rfl := eq14.symm
    refine x_stk (st' := [.int (bI (decide ((0 ≤ ((o : Nat) : Int) ∧ ((o : Nat) : Int) < ((n : Nat) : Int)) ∧ (0 ≤ ((w - w / nI 10 * nI 10)).toInt ∧ ((w - w / nI 10 * nI 10)).toInt < ((n : Nat) : Int)) ∧ ¬ ((o : Nat) : Int) = ((w - w / nI 10 * nI 10)).toInt)))]) rfl ?_
    refine x_ifP_eq (P := (0 ≤ ((o : Nat) : Int) ∧ ((o : Nat) : Int) < ((n : Nat) : Int)) ∧ (0 ≤ ((w - w / nI 10 * nI 10)).toInt ∧ ((w - w / nI 10 * nI 10)).toInt < ((n : Nat) : Int)) ∧ ¬ ((o : Nat) : Int) = ((w - w / nI 10 * nI 10)).toInt) inferInstance (tgt := 30) dX8_tells_23 (by decide) (fun hv15 => ?_) (fun hv15 => ?_)
    · refine x_iconst (v := nI 0) dX8_tells_30 (by decide) ?_
      refine x_istore dX8_tells_31 (by decide) rfl ?_
      refine x_lv (lv' := [some (.ref 1000), some (.int (nI i)), some (.int (nI o)), some (.int w), some (.int (nI 0))]) rfl ?_
      refine x_iload_n dX8_tells_33 rfl ?_
      refine x_callS m_X8_isSheet l_X8_299 (r_isSheet (nI_toInt (by omega))) (by omega) rfl rfl (Nat.le_of_ble_eq_true rfl) ⟨Nat.le_refl _, Nat.le_refl _⟩ dX8_tells_34 (fun r16 s16 q16 => ?_)
      obtain ⟨rfl, eq16⟩ := q16
      obtain rfl := eq16.symm
      refine x_stk (st' := [.int (bI (decide (0 ≤ ((i : Nat) : Int) ∧ ((i : Nat) : Int) ≤ 3)))]) rfl ?_
      refine x_ifP_eq (P := 0 ≤ ((i : Nat) : Int) ∧ ((i : Nat) : Int) ≤ 3) inferInstance (tgt := 65) dX8_tells_37 (by decide) (fun hv17 => ?_) (fun hv17 => ?_)
      · exfalso; omega
      · refine x_aload_n dX8_tells_40 rfl ?_
        refine x_iload_n dX8_tells_41 rfl ?_
        refine x_callV m_X8_isOne l_X8_89 (r_isOne hR hC (nI_toInt (by omega))) rfl hR.2.1 (by omega) rfl rfl (Nat.le_of_ble_eq_true rfl) ⟨Nat.le_refl _, Nat.le_refl _⟩ dX8_tells_42 (fun r18 s18 q18 => ?_)
        obtain ⟨rfl, eq18⟩ := q18
        obtain rfl := eq18.symm
        refine x_stk (st' := [.int (bI (decide (0 ≤ ((o : Nat) : Int) ∧ ((o : Nat) : Int) < ((n : Nat) : Int))))]) rfl ?_
        refine x_ifP_eq (P := 0 ≤ ((o : Nat) : Int) ∧ ((o : Nat) : Int) < ((n : Nat) : Int)) inferInstance (tgt := 65) dX8_tells_45 (by decide) (fun hv19 => ?_) (fun hv19 => ?_)
        · exfalso; omega
        · refine x_iload_n dX8_tells_48 rfl ?_
          refine x_i2l dX8_tells_49 ?_
          refine x_lconst (v := 0) dX8_tells_50 (by decide) ?_
          refine x_ldc2 (v := (2)) cl_X8_302 dX8_tells_51 ?_
          refine x_callS m_X8_in l_X8_85 (r_in (p := (w).toInt) (q := 0) (r := (2)) (tL rfl) (by decide) (by decide)) (by omega) rfl rfl (Nat.le_of_ble_eq_true rfl) ⟨Nat.le_refl _, Nat.le_refl _⟩ dX8_tells_54 (fun r20 s20 q20 => ?_)
          obtain ⟨rfl, eq20⟩ := q20
          obtain rfl := eq20.symm
          refine x_stk (st' := [.int (bI (decide (0 ≤ (w).toInt ∧ (w).toInt ≤ (2))))]) rfl ?_
          refine x_ifP_ne (P := 0 ≤ (w).toInt ∧ (w).toInt ≤ (2)) inferInstance (tgt := 68) dX8_tells_57 (by decide) (fun hv21 => ?_) (fun hv21 => ?_)
          · refine x_aload_n dX8_tells_68 rfl ?_
            refine x_rget f_X8_62 hR rfl dX8_tells_69 ?_
            refine x_iload_n dX8_tells_72 rfl ?_
            refine x_rzld (j := 13) (n := i) hR rfl (by decide) rfl rfl (rlt hR (m := 4) (by decide) rfl (by omega)) dX8_tells_73 ?_
            refine x_topi (y := bI (decide (¬ (sh i).1 = -1))) (hS i hi4).1 ?_
            refine x_ifP_ne (P := ¬ (sh i).1 = -1) inferInstance (tgt := 80) dX8_tells_74 (by decide) (fun hv22 => ?_) (fun hv22 => ?_)
            · refine x_aload_n dX8_tells_80 rfl ?_
              refine x_rget f_X8_69 hR rfl dX8_tells_81 ?_
              refine x_iload_n dX8_tells_84 rfl ?_
              refine x_rald (j := 15) (n := i) hR rfl (by decide) rfl rfl (rlt hR (m := 4) (by decide) rfl (by omega)) dX8_tells_85 ?_
              refine x_topi (y := nI ((sh i).2.1)) ((hS i hi4).2 hne).2.1 ?_
              refine x_aload_n dX8_tells_86 rfl ?_
              refine x_rget (v := .int (nI n)) f_X8_82 hR (rg c13) dX8_tells_87 ?_
              refine x_icmpN_ne (tgt := 101) dX8_tells_90 (by decide) (by omega) (by omega) (fun hv23 => ?_) (fun hv23 => ?_)
              · refine x_bipush (v := (-2)) dX8_tells_101 (by decide) ?_
                exact x_iret ⟨Nat.le_refl _, Nat.le_refl _⟩ rfl dX8_tells_103 ⟨_, _, _, rfl, hR, FrR.rf, Fq.rf⟩
              · refine x_aload_n dX8_tells_93 rfl ?_
                refine x_iload_n dX8_tells_94 rfl ?_
                refine x_callV m_X8_sits l_X8_304 ((r_sits hR hC hS (i := i) hi4 hne hz40).mono (fun r9 σ' h => (⟨by rw [h.1, hA9]; rfl, h.2⟩ : r9 = some (.int (nI 0)) ∧ _))) rfl hR.2.1 (by omega) rfl rfl (Nat.le_of_ble_eq_true rfl) ⟨Nat.le_refl _, Nat.le_refl _⟩ dX8_tells_95 (fun r24 s24 q24 => ?_)
                obtain ⟨rfl, a24, b24, R24, F24, B24, z24⟩ := q24
                
                refine x_stk (st' := [.int (nI 0)]) rfl ?_
                refine x_ifN_ne (tgt := 104) dX8_tells_98 (by decide) (by omega) (fun hv25 => ?_) (fun hv25 => ?_)
                · exact absurd hv25 (by decide)
                · refine x_bipush (v := (-2)) dX8_tells_101 (by decide) ?_
                  exact x_iret ⟨Nat.le_refl _, Nat.le_refl _⟩ rfl dX8_tells_103 ⟨_, _, _, rfl, R24, F24, B24.q7⟩
            · exact absurd hne hv22
          · refine x_iload dX8_tells_60 rfl ?_
            refine x_ifN_ne (tgt := 68) dX8_tells_62 (by decide) (by omega) (fun hv26 => ?_) (fun hv26 => ?_)
            · exact absurd hv26 (by decide)
            · exfalso; omega
    · refine x_iconst (v := nI 1) dX8_tells_26 (by decide) ?_
      refine x_goto (tgt := 31) dX8_tells_27 (by decide) ?_
      refine x_istore dX8_tells_31 (by decide) rfl ?_
      refine x_lv (lv' := [some (.ref 1000), some (.int (nI i)), some (.int (nI o)), some (.int w), some (.int (nI 1))]) rfl ?_
      refine x_iload_n dX8_tells_33 rfl ?_
      refine x_callS m_X8_isSheet l_X8_299 (r_isSheet (nI_toInt (by omega))) (by omega) rfl rfl (Nat.le_of_ble_eq_true rfl) ⟨Nat.le_refl _, Nat.le_refl _⟩ dX8_tells_34 (fun r27 s27 q27 => ?_)
      obtain ⟨rfl, eq27⟩ := q27
      obtain rfl := eq27.symm
      refine x_stk (st' := [.int (bI (decide (0 ≤ ((i : Nat) : Int) ∧ ((i : Nat) : Int) ≤ 3)))]) rfl ?_
      refine x_ifP_eq (P := 0 ≤ ((i : Nat) : Int) ∧ ((i : Nat) : Int) ≤ 3) inferInstance (tgt := 65) dX8_tells_37 (by decide) (fun hv28 => ?_) (fun hv28 => ?_)
      · exfalso; omega
      · refine x_aload_n dX8_tells_40 rfl ?_
        refine x_iload_n dX8_tells_41 rfl ?_
        refine x_callV m_X8_isOne l_X8_89 (r_isOne hR hC (nI_toInt (by omega))) rfl hR.2.1 (by omega) rfl rfl (Nat.le_of_ble_eq_true rfl) ⟨Nat.le_refl _, Nat.le_refl _⟩ dX8_tells_42 (fun r29 s29 q29 => ?_)
        obtain ⟨rfl, eq29⟩ := q29
        obtain rfl := eq29.symm
        refine x_stk (st' := [.int (bI (decide (0 ≤ ((o : Nat) : Int) ∧ ((o : Nat) : Int) < ((n : Nat) : Int))))]) rfl ?_
        refine x_ifP_eq (P := 0 ≤ ((o : Nat) : Int) ∧ ((o : Nat) : Int) < ((n : Nat) : Int)) inferInstance (tgt := 65) dX8_tells_45 (by decide) (fun hv30 => ?_) (fun hv30 => ?_)
        · exfalso; omega
        · refine x_iload_n dX8_tells_48 rfl ?_
          refine x_i2l dX8_tells_49 ?_
          refine x_lconst (v := 0) dX8_tells_50 (by decide) ?_
          refine x_ldc2 (v := (2)) cl_X8_302 dX8_tells_51 ?_
          refine x_callS m_X8_in l_X8_85 (r_in (p := (w).toInt) (q := 0) (r := (2)) (tL rfl) (by decide) (by decide)) (by omega) rfl rfl (Nat.le_of_ble_eq_true rfl) ⟨Nat.le_refl _, Nat.le_refl _⟩ dX8_tells_54 (fun r31 s31 q31 => ?_)
          obtain ⟨rfl, eq31⟩ := q31
          obtain rfl := eq31.symm
          refine x_stk (st' := [.int (bI (decide (0 ≤ (w).toInt ∧ (w).toInt ≤ (2))))]) rfl ?_
          refine x_ifP_ne (P := 0 ≤ (w).toInt ∧ (w).toInt ≤ (2)) inferInstance (tgt := 68) dX8_tells_57 (by decide) (fun hv32 => ?_) (fun hv32 => ?_)
          · refine x_aload_n dX8_tells_68 rfl ?_
            refine x_rget f_X8_62 hR rfl dX8_tells_69 ?_
            refine x_iload_n dX8_tells_72 rfl ?_
            refine x_rzld (j := 13) (n := i) hR rfl (by decide) rfl rfl (rlt hR (m := 4) (by decide) rfl (by omega)) dX8_tells_73 ?_
            refine x_topi (y := bI (decide (¬ (sh i).1 = -1))) (hS i hi4).1 ?_
            refine x_ifP_ne (P := ¬ (sh i).1 = -1) inferInstance (tgt := 80) dX8_tells_74 (by decide) (fun hv33 => ?_) (fun hv33 => ?_)
            · refine x_aload_n dX8_tells_80 rfl ?_
              refine x_rget f_X8_69 hR rfl dX8_tells_81 ?_
              refine x_iload_n dX8_tells_84 rfl ?_
              refine x_rald (j := 15) (n := i) hR rfl (by decide) rfl rfl (rlt hR (m := 4) (by decide) rfl (by omega)) dX8_tells_85 ?_
              refine x_topi (y := nI ((sh i).2.1)) ((hS i hi4).2 hne).2.1 ?_
              refine x_aload_n dX8_tells_86 rfl ?_
              refine x_rget (v := .int (nI n)) f_X8_82 hR (rg c13) dX8_tells_87 ?_
              refine x_icmpN_ne (tgt := 101) dX8_tells_90 (by decide) (by omega) (by omega) (fun hv34 => ?_) (fun hv34 => ?_)
              · refine x_bipush (v := (-2)) dX8_tells_101 (by decide) ?_
                exact x_iret ⟨Nat.le_refl _, Nat.le_refl _⟩ rfl dX8_tells_103 ⟨_, _, _, rfl, hR, FrR.rf, Fq.rf⟩
              · refine x_aload_n dX8_tells_93 rfl ?_
                refine x_iload_n dX8_tells_94 rfl ?_
                refine x_callV m_X8_sits l_X8_304 ((r_sits hR hC hS (i := i) hi4 hne hz40).mono (fun r9 σ' h => (⟨by rw [h.1, hA9]; rfl, h.2⟩ : r9 = some (.int (nI 0)) ∧ _))) rfl hR.2.1 (by omega) rfl rfl (Nat.le_of_ble_eq_true rfl) ⟨Nat.le_refl _, Nat.le_refl _⟩ dX8_tells_95 (fun r35 s35 q35 => ?_)
                obtain ⟨rfl, a35, b35, R35, F35, B35, z35⟩ := q35
                
                refine x_stk (st' := [.int (nI 0)]) rfl ?_
                refine x_ifN_ne (tgt := 104) dX8_tells_98 (by decide) (by omega) (fun hv36 => ?_) (fun hv36 => ?_)
                · exact absurd hv36 (by decide)
                · refine x_bipush (v := (-2)) dX8_tells_101 (by decide) ?_
                  exact x_iret ⟨Nat.le_refl _, Nat.le_refl _⟩ rfl dX8_tells_103 ⟨_, _, _, rfl, R35, F35, B35.q7⟩
            · exact absurd hne hv33
          · refine x_iload dX8_tells_60 rfl ?_
            refine x_ifN_ne (tgt := 68) dX8_tells_62 (by decide) (by omega) (fun hv37 => ?_) (fun hv37 => ?_)
            · refine x_aload_n dX8_tells_68 rfl ?_
              refine x_rget f_X8_62 hR rfl dX8_tells_69 ?_
              refine x_iload_n dX8_tells_72 rfl ?_
              refine x_rzld (j := 13) (n := i) hR rfl (by decide) rfl rfl (rlt hR (m := 4) (by decide) rfl (by omega)) dX8_tells_73 ?_
              refine x_topi (y := bI (decide (¬ (sh i).1 = -1))) (hS i hi4).1 ?_
              refine x_ifP_ne (P := ¬ (sh i).1 = -1) inferInstance (tgt := 80) dX8_tells_74 (by decide) (fun hv38 => ?_) (fun hv38 => ?_)
              · refine x_aload_n dX8_tells_80 rfl ?_
                refine x_rget f_X8_69 hR rfl dX8_tells_81 ?_
                refine x_iload_n dX8_tells_84 rfl ?_
                refine x_rald (j := 15) (n := i) hR rfl (by decide) rfl rfl (rlt hR (m := 4) (by decide) rfl (by omega)) dX8_tells_85 ?_
                refine x_topi (y := nI ((sh i).2.1)) ((hS i hi4).2 hne).2.1 ?_
                refine x_aload_n dX8_tells_86 rfl ?_
                refine x_rget (v := .int (nI n)) f_X8_82 hR (rg c13) dX8_tells_87 ?_
                refine x_icmpN_ne (tgt := 101) dX8_tells_90 (by decide) (by omega) (by omega) (fun hv39 => ?_) (fun hv39 => ?_)
                · refine x_bipush (v := (-2)) dX8_tells_101 (by decide) ?_
                  exact x_iret ⟨Nat.le_refl _, Nat.le_refl _⟩ rfl dX8_tells_103 ⟨_, _, _, rfl, hR, FrR.rf, Fq.rf⟩
                · refine x_aload_n dX8_tells_93 rfl ?_
                  refine x_iload_n dX8_tells_94 rfl ?_
                  refine x_callV m_X8_sits l_X8_304 ((r_sits hR hC hS (i := i) hi4 hne hz40).mono (fun r9 σ' h => (⟨by rw [h.1, hA9]; rfl, h.2⟩ : r9 = some (.int (nI 0)) ∧ _))) rfl hR.2.1 (by omega) rfl rfl (Nat.le_of_ble_eq_true rfl) ⟨Nat.le_refl _, Nat.le_refl _⟩ dX8_tells_95 (fun r40 s40 q40 => ?_)
                  obtain ⟨rfl, a40, b40, R40, F40, B40, z40⟩ := q40
                  
                  refine x_stk (st' := [.int (nI 0)]) rfl ?_
                  refine x_ifN_ne (tgt := 104) dX8_tells_98 (by decide) (by omega) (fun hv41 => ?_) (fun hv41 => ?_)
                  · exact absurd hv41 (by decide)
                  · refine x_bipush (v := (-2)) dX8_tells_101 (by decide) ?_
                    exact x_iret ⟨Nat.le_refl _, Nat.le_refl _⟩ rfl dX8_tells_103 ⟨_, _, _, rfl, R40, F40, B40.q7⟩
              · exact absurd hne hv38
            · exact absurd hv37 (by decide)
set_option maxHeartbeats 4000000 in
theorem r_tells0 {σ0 σ : ZS} {a : Nat → Int32} {tw : Int64} {b : Nat → List Int32} {rr n : Nat} {K N : List Nat} {W : List Int32} {D : List Nat} {ru : Nat} {L S : List Nat} {lf jf : Nat} (hR : RM σ0 σ a tw b) (hW : BW a b rr n K N W D (-1) ru L S lf jf) (hg : Dg D) {sh : Nat → SH} (hS : RSH b sh) {i : Nat} (hi4 : i < 4) (hne : ¬ (sh i).1 = -1) (hz40 : (sh i).2.1 ≤ 40) {A : Nat} (hA9 : tbS n (sh i).2.2 (sh i).2.1 = some A) (hsn : (sh i).2.1 = n) {o : Nat} (ho : o < n) : Cn 6 M_X8_tells 0 0 [.ref 1000, .int (nI i), .int (nI o), .int (nI 0)] σ (fun r9 σ' => ∃ (a' : Nat → Int32) (tw' : Int64) (b' : Nat → List Int32), r9 = some (.int (oI (unlT rr n K N D (sh i).2.1 (tOf (sh i).2.2 (sh i).2.1) (-1)))) ∧ RM σ0 σ' a' tw' b' ∧ FrR a a' ∧ Fq b b') := by
  obtain ⟨hC, hT⟩ := id hW
  obtain ⟨c7, hrr, c13, hn7, c14, cK, cN, cW, cD, hN7, hW7, hD49, hK5, hN9, hD999⟩ := id hC
  refine Cn.intro (lv0 := [some (.ref 1000), some (.int (nI i)), some (.int (nI o)), some (.int (nI 0)), none]) rfl (Nat.le_of_ble_eq_true rfl) rfl (fun d hd => ?_)
  refine x_iload_n dX8_tells_0 rfl ?_
  refine x_i2l dX8_tells_1 ?_
  refine x_ldc2 (v := (10)) cl_X8_120 dX8_tells_2 ?_
  refine x_ldc2 (v := (29)) cl_X8_375 dX8_tells_5 ?_
  refine x_callS m_X8_in l_X8_85 (r_in (p := ((0 : Nat) : Int)) (q := (10)) (r := (29)) (tL (nI_toInt (by omega))) (by decide) (by decide)) (by omega) rfl rfl (Nat.le_of_ble_eq_true rfl) ⟨Nat.le_refl _, Nat.le_refl _⟩ dX8_tells_8 (fun r1 s1 q1 => ?_)
  obtain ⟨rfl, eq1⟩ := q1
  obtain rfl := eq1.symm
  refine x_stk (st' := [.int (bI (decide ((10) ≤ ((0 : Nat) : Int) ∧ ((0 : Nat) : Int) ≤ (29))))]) rfl ?_
  refine x_ifP_eq (P := (10) ≤ ((0 : Nat) : Int) ∧ ((0 : Nat) : Int) ≤ (29)) inferInstance (tgt := 30) dX8_tells_11 (by decide) (fun hv2 => ?_) (fun hv2 => ?_)
  · refine x_iconst (v := nI 0) dX8_tells_30 (by decide) ?_
    refine x_istore dX8_tells_31 (by decide) rfl ?_
    refine x_lv (lv' := [some (.ref 1000), some (.int (nI i)), some (.int (nI o)), some (.int (nI 0)), some (.int (nI 0))]) rfl ?_
    refine x_iload_n dX8_tells_33 rfl ?_
    refine x_callS m_X8_isSheet l_X8_299 (r_isSheet (nI_toInt (by omega))) (by omega) rfl rfl (Nat.le_of_ble_eq_true rfl) ⟨Nat.le_refl _, Nat.le_refl _⟩ dX8_tells_34 (fun r3 s3 q3 => ?_)
    obtain ⟨rfl, eq3⟩ := q3
    obtain rfl := eq3.symm
    refine x_stk (st' := [.int (bI (decide (0 ≤ ((i : Nat) : Int) ∧ ((i : Nat) : Int) ≤ 3)))]) rfl ?_
    refine x_ifP_eq (P := 0 ≤ ((i : Nat) : Int) ∧ ((i : Nat) : Int) ≤ 3) inferInstance (tgt := 65) dX8_tells_37 (by decide) (fun hv4 => ?_) (fun hv4 => ?_)
    · exfalso; omega
    · refine x_aload_n dX8_tells_40 rfl ?_
      refine x_iload_n dX8_tells_41 rfl ?_
      refine x_callV m_X8_isOne l_X8_89 (r_isOne hR hC (nI_toInt (by omega))) rfl hR.2.1 (by omega) rfl rfl (Nat.le_of_ble_eq_true rfl) ⟨Nat.le_refl _, Nat.le_refl _⟩ dX8_tells_42 (fun r5 s5 q5 => ?_)
      obtain ⟨rfl, eq5⟩ := q5
      obtain rfl := eq5.symm
      refine x_stk (st' := [.int (bI (decide (0 ≤ ((o : Nat) : Int) ∧ ((o : Nat) : Int) < ((n : Nat) : Int))))]) rfl ?_
      refine x_ifP_eq (P := 0 ≤ ((o : Nat) : Int) ∧ ((o : Nat) : Int) < ((n : Nat) : Int)) inferInstance (tgt := 65) dX8_tells_45 (by decide) (fun hv6 => ?_) (fun hv6 => ?_)
      · exfalso; omega
      · refine x_iload_n dX8_tells_48 rfl ?_
        refine x_i2l dX8_tells_49 ?_
        refine x_lconst (v := 0) dX8_tells_50 (by decide) ?_
        refine x_ldc2 (v := (2)) cl_X8_302 dX8_tells_51 ?_
        refine x_callS m_X8_in l_X8_85 (r_in (p := ((0 : Nat) : Int)) (q := 0) (r := (2)) (tL (nI_toInt (by omega))) (by decide) (by decide)) (by omega) rfl rfl (Nat.le_of_ble_eq_true rfl) ⟨Nat.le_refl _, Nat.le_refl _⟩ dX8_tells_54 (fun r7 s7 q7 => ?_)
        obtain ⟨rfl, eq7⟩ := q7
        obtain rfl := eq7.symm
        refine x_stk (st' := [.int (bI (decide (0 ≤ ((0 : Nat) : Int) ∧ ((0 : Nat) : Int) ≤ (2))))]) rfl ?_
        refine x_ifP_ne (P := 0 ≤ ((0 : Nat) : Int) ∧ ((0 : Nat) : Int) ≤ (2)) inferInstance (tgt := 68) dX8_tells_57 (by decide) (fun hv8 => ?_) (fun hv8 => ?_)
        · refine x_aload_n dX8_tells_68 rfl ?_
          refine x_rget f_X8_62 hR rfl dX8_tells_69 ?_
          refine x_iload_n dX8_tells_72 rfl ?_
          refine x_rzld (j := 13) (n := i) hR rfl (by decide) rfl rfl (rlt hR (m := 4) (by decide) rfl (by omega)) dX8_tells_73 ?_
          refine x_topi (y := bI (decide (¬ (sh i).1 = -1))) (hS i hi4).1 ?_
          refine x_ifP_ne (P := ¬ (sh i).1 = -1) inferInstance (tgt := 80) dX8_tells_74 (by decide) (fun hv9 => ?_) (fun hv9 => ?_)
          · refine x_aload_n dX8_tells_80 rfl ?_
            refine x_rget f_X8_69 hR rfl dX8_tells_81 ?_
            refine x_iload_n dX8_tells_84 rfl ?_
            refine x_rald (j := 15) (n := i) hR rfl (by decide) rfl rfl (rlt hR (m := 4) (by decide) rfl (by omega)) dX8_tells_85 ?_
            refine x_topi (y := nI ((sh i).2.1)) ((hS i hi4).2 hne).2.1 ?_
            refine x_aload_n dX8_tells_86 rfl ?_
            refine x_rget (v := .int (nI n)) f_X8_82 hR (rg c13) dX8_tells_87 ?_
            refine x_icmpN_ne (tgt := 101) dX8_tells_90 (by decide) (by omega) (by omega) (fun hv10 => ?_) (fun hv10 => ?_)
            · exact absurd hsn hv10
            · refine x_aload_n dX8_tells_93 rfl ?_
              refine x_iload_n dX8_tells_94 rfl ?_
              refine x_callV m_X8_sits l_X8_304 ((r_sits hR hC hS (i := i) hi4 hne hz40).mono (fun r9 σ' h => (⟨by rw [h.1, hA9]; rfl, h.2⟩ : r9 = some (.int (nI 1)) ∧ _))) rfl hR.2.1 (by omega) rfl rfl (Nat.le_of_ble_eq_true rfl) ⟨Nat.le_refl _, Nat.le_refl _⟩ dX8_tells_95 (fun r11 s11 q11 => ?_)
              obtain ⟨rfl, a11, b11, R11, F11, B11, z11⟩ := q11
              have z911 := z11 (by rw [hA9]; rfl)
              have hW11 := SW_tell hW F11 B11 hA9 z911.1 z911.2
              obtain ⟨hC11, hT11, c3111, hm11, cT11, ht11, hTn11⟩ := id hW11
              obtain ⟨c711, hrr11, c1311, hn711, c1411, cK11, cN11, cW11, cD11, hN711, hW711, hD4911, hK511, hN911, hD99911⟩ := id hC11
              obtain ⟨ht711, htb11⟩ := id ht11
              refine x_stk (st' := [.int (nI 1)]) rfl ?_
              refine x_ifN_ne (tgt := 104) dX8_tells_98 (by decide) (by omega) (fun hv12 => ?_) (fun hv12 => ?_)
              · refine x_iload_n dX8_tells_104 rfl ?_
                refine x_iconst (v := nI 3) dX8_tells_105 (by decide) ?_
                refine x_icmpN_ge (tgt := 145) dX8_tells_106 (by decide) (by omega) (by omega) (fun hv13 => ?_) (fun hv13 => ?_)
                · exact absurd hv13 (by decide)
                · refine x_iload_n dX8_tells_109 rfl ?_
                  refine x_ifN_ne (tgt := 120) dX8_tells_110 (by decide) (by omega) (fun hv14 => ?_) (fun hv14 => ?_)
                  · exact absurd hv14 (by decide)
                  · refine x_aload_n dX8_tells_113 rfl ?_
                    refine x_callV m_X8_unlawful l_X8_308 (r_unl2 R11 hW11 hg) rfl R11.2.1 (by omega) rfl rfl (Nat.le_of_ble_eq_true rfl) ⟨Nat.le_refl _, Nat.le_refl _⟩ dX8_tells_114 (fun r15 s15 q15 => ?_)
                    obtain ⟨rfl, eq15⟩ := q15
                    obtain rfl := eq15.symm
                    refine x_stk (st' := [.int ((oI (unlT rr n K N D (sh i).2.1 (tOf (sh i).2.2 (sh i).2.1) (-1))))]) rfl ?_
                    refine x_goto (tgt := 144) dX8_tells_117 (by decide) ?_
                    exact x_iret ⟨Nat.le_refl _, Nat.le_refl _⟩ rfl dX8_tells_144 ⟨_, _, _, rfl, R11, F11, B11.q7⟩
              · exact absurd hv12 (by decide)
          · exact absurd hne hv9
        · refine x_iload dX8_tells_60 rfl ?_
          refine x_ifN_ne (tgt := 68) dX8_tells_62 (by decide) (by omega) (fun hv16 => ?_) (fun hv16 => ?_)
          · exact absurd hv16 (by decide)
          · exfalso; omega
  · exact absurd hv2 (by omega)
set_option maxHeartbeats 4000000 in
theorem r_tells1 {σ0 σ : ZS} {a : Nat → Int32} {tw : Int64} {b : Nat → List Int32} {rr n : Nat} {K N : List Nat} {W : List Int32} {D : List Nat} {ru : Nat} {L S : List Nat} {lf jf : Nat} (hR : RM σ0 σ a tw b) (hW : BW a b rr n K N W D (-1) ru L S lf jf) (hg : Dg D) {sh : Nat → SH} (hS : RSH b sh) {i : Nat} (hi4 : i < 4) (hne : ¬ (sh i).1 = -1) (hz40 : (sh i).2.1 ≤ 40) {A : Nat} (hA9 : tbS n (sh i).2.2 (sh i).2.1 = some A) (hsn : (sh i).2.1 = n) {dn : Nat} (c8 : a 8 = nI dn) (hK7 : K.length = 7) {o : Nat} (ho : o < n) : Cn 8 M_X8_tells 0 0 [.ref 1000, .int (nI i), .int (nI o), .int (nI 1)] σ (fun r9 σ' => ∃ (a' : Nat → Int32) (tw' : Int64) (b' : Nat → List Int32), r9 = some (.int (nI (fitB (fun v => decide (unlT rr n (K.set o v) N D (sh i).2.1 (tOf (sh i).2.2 (sh i).2.1) (-1) = none)) 6))) ∧ RM σ0 σ' a' tw' b' ∧ FrR a a' ∧ Fq b b') := by
  obtain ⟨hC, hT⟩ := id hW
  obtain ⟨c7, hrr, c13, hn7, c14, cK, cN, cW, cD, hN7, hW7, hD49, hK5, hN9, hD999⟩ := id hC
  refine Cn.intro (lv0 := [some (.ref 1000), some (.int (nI i)), some (.int (nI o)), some (.int (nI 1)), none]) rfl (Nat.le_of_ble_eq_true rfl) rfl (fun d hd => ?_)
  refine x_iload_n dX8_tells_0 rfl ?_
  refine x_i2l dX8_tells_1 ?_
  refine x_ldc2 (v := (10)) cl_X8_120 dX8_tells_2 ?_
  refine x_ldc2 (v := (29)) cl_X8_375 dX8_tells_5 ?_
  refine x_callS m_X8_in l_X8_85 (r_in (p := ((1 : Nat) : Int)) (q := (10)) (r := (29)) (tL (nI_toInt (by omega))) (by decide) (by decide)) (by omega) rfl rfl (Nat.le_of_ble_eq_true rfl) ⟨Nat.le_refl _, Nat.le_refl _⟩ dX8_tells_8 (fun r1 s1 q1 => ?_)
  obtain ⟨rfl, eq1⟩ := q1
  obtain rfl := eq1.symm
  refine x_stk (st' := [.int (bI (decide ((10) ≤ ((1 : Nat) : Int) ∧ ((1 : Nat) : Int) ≤ (29))))]) rfl ?_
  refine x_ifP_eq (P := (10) ≤ ((1 : Nat) : Int) ∧ ((1 : Nat) : Int) ≤ (29)) inferInstance (tgt := 30) dX8_tells_11 (by decide) (fun hv2 => ?_) (fun hv2 => ?_)
  · refine x_iconst (v := nI 0) dX8_tells_30 (by decide) ?_
    refine x_istore dX8_tells_31 (by decide) rfl ?_
    refine x_lv (lv' := [some (.ref 1000), some (.int (nI i)), some (.int (nI o)), some (.int (nI 1)), some (.int (nI 0))]) rfl ?_
    refine x_iload_n dX8_tells_33 rfl ?_
    refine x_callS m_X8_isSheet l_X8_299 (r_isSheet (nI_toInt (by omega))) (by omega) rfl rfl (Nat.le_of_ble_eq_true rfl) ⟨Nat.le_refl _, Nat.le_refl _⟩ dX8_tells_34 (fun r3 s3 q3 => ?_)
    obtain ⟨rfl, eq3⟩ := q3
    obtain rfl := eq3.symm
    refine x_stk (st' := [.int (bI (decide (0 ≤ ((i : Nat) : Int) ∧ ((i : Nat) : Int) ≤ 3)))]) rfl ?_
    refine x_ifP_eq (P := 0 ≤ ((i : Nat) : Int) ∧ ((i : Nat) : Int) ≤ 3) inferInstance (tgt := 65) dX8_tells_37 (by decide) (fun hv4 => ?_) (fun hv4 => ?_)
    · exfalso; omega
    · refine x_aload_n dX8_tells_40 rfl ?_
      refine x_iload_n dX8_tells_41 rfl ?_
      refine x_callV m_X8_isOne l_X8_89 (r_isOne hR hC (nI_toInt (by omega))) rfl hR.2.1 (by omega) rfl rfl (Nat.le_of_ble_eq_true rfl) ⟨Nat.le_refl _, Nat.le_refl _⟩ dX8_tells_42 (fun r5 s5 q5 => ?_)
      obtain ⟨rfl, eq5⟩ := q5
      obtain rfl := eq5.symm
      refine x_stk (st' := [.int (bI (decide (0 ≤ ((o : Nat) : Int) ∧ ((o : Nat) : Int) < ((n : Nat) : Int))))]) rfl ?_
      refine x_ifP_eq (P := 0 ≤ ((o : Nat) : Int) ∧ ((o : Nat) : Int) < ((n : Nat) : Int)) inferInstance (tgt := 65) dX8_tells_45 (by decide) (fun hv6 => ?_) (fun hv6 => ?_)
      · exfalso; omega
      · refine x_iload_n dX8_tells_48 rfl ?_
        refine x_i2l dX8_tells_49 ?_
        refine x_lconst (v := 0) dX8_tells_50 (by decide) ?_
        refine x_ldc2 (v := (2)) cl_X8_302 dX8_tells_51 ?_
        refine x_callS m_X8_in l_X8_85 (r_in (p := ((1 : Nat) : Int)) (q := 0) (r := (2)) (tL (nI_toInt (by omega))) (by decide) (by decide)) (by omega) rfl rfl (Nat.le_of_ble_eq_true rfl) ⟨Nat.le_refl _, Nat.le_refl _⟩ dX8_tells_54 (fun r7 s7 q7 => ?_)
        obtain ⟨rfl, eq7⟩ := q7
        obtain rfl := eq7.symm
        refine x_stk (st' := [.int (bI (decide (0 ≤ ((1 : Nat) : Int) ∧ ((1 : Nat) : Int) ≤ (2))))]) rfl ?_
        refine x_ifP_ne (P := 0 ≤ ((1 : Nat) : Int) ∧ ((1 : Nat) : Int) ≤ (2)) inferInstance (tgt := 68) dX8_tells_57 (by decide) (fun hv8 => ?_) (fun hv8 => ?_)
        · refine x_aload_n dX8_tells_68 rfl ?_
          refine x_rget f_X8_62 hR rfl dX8_tells_69 ?_
          refine x_iload_n dX8_tells_72 rfl ?_
          refine x_rzld (j := 13) (n := i) hR rfl (by decide) rfl rfl (rlt hR (m := 4) (by decide) rfl (by omega)) dX8_tells_73 ?_
          refine x_topi (y := bI (decide (¬ (sh i).1 = -1))) (hS i hi4).1 ?_
          refine x_ifP_ne (P := ¬ (sh i).1 = -1) inferInstance (tgt := 80) dX8_tells_74 (by decide) (fun hv9 => ?_) (fun hv9 => ?_)
          · refine x_aload_n dX8_tells_80 rfl ?_
            refine x_rget f_X8_69 hR rfl dX8_tells_81 ?_
            refine x_iload_n dX8_tells_84 rfl ?_
            refine x_rald (j := 15) (n := i) hR rfl (by decide) rfl rfl (rlt hR (m := 4) (by decide) rfl (by omega)) dX8_tells_85 ?_
            refine x_topi (y := nI ((sh i).2.1)) ((hS i hi4).2 hne).2.1 ?_
            refine x_aload_n dX8_tells_86 rfl ?_
            refine x_rget (v := .int (nI n)) f_X8_82 hR (rg c13) dX8_tells_87 ?_
            refine x_icmpN_ne (tgt := 101) dX8_tells_90 (by decide) (by omega) (by omega) (fun hv10 => ?_) (fun hv10 => ?_)
            · exact absurd hsn hv10
            · refine x_aload_n dX8_tells_93 rfl ?_
              refine x_iload_n dX8_tells_94 rfl ?_
              refine x_callV m_X8_sits l_X8_304 ((r_sits hR hC hS (i := i) hi4 hne hz40).mono (fun r9 σ' h => (⟨by rw [h.1, hA9]; rfl, h.2⟩ : r9 = some (.int (nI 1)) ∧ _))) rfl hR.2.1 (by omega) rfl rfl (Nat.le_of_ble_eq_true rfl) ⟨Nat.le_refl _, Nat.le_refl _⟩ dX8_tells_95 (fun r11 s11 q11 => ?_)
              obtain ⟨rfl, a11, b11, R11, F11, B11, z11⟩ := q11
              have z911 := z11 (by rw [hA9]; rfl)
              have hW11 := SW_tell hW F11 B11 hA9 z911.1 z911.2
              obtain ⟨hC11, hT11, c3111, hm11, cT11, ht11, hTn11⟩ := id hW11
              obtain ⟨c711, hrr11, c1311, hn711, c1411, cK11, cN11, cW11, cD11, hN711, hW711, hD4911, hK511, hN911, hD99911⟩ := id hC11
              obtain ⟨ht711, htb11⟩ := id ht11
              refine x_stk (st' := [.int (nI 1)]) rfl ?_
              refine x_ifN_ne (tgt := 104) dX8_tells_98 (by decide) (by omega) (fun hv12 => ?_) (fun hv12 => ?_)
              · refine x_iload_n dX8_tells_104 rfl ?_
                refine x_iconst (v := nI 3) dX8_tells_105 (by decide) ?_
                refine x_icmpN_ge (tgt := 145) dX8_tells_106 (by decide) (by omega) (by omega) (fun hv13 => ?_) (fun hv13 => ?_)
                · exact absurd hv13 (by decide)
                · refine x_iload_n dX8_tells_109 rfl ?_
                  refine x_ifN_ne (tgt := 120) dX8_tells_110 (by decide) (by omega) (fun hv14 => ?_) (fun hv14 => ?_)
                  · refine x_iload_n dX8_tells_120 rfl ?_
                    refine x_iconst (v := nI 1) dX8_tells_121 (by decide) ?_
                    refine x_icmpN_ne (tgt := 136) dX8_tells_122 (by decide) (by omega) (by omega) (fun hv15 => ?_) (fun hv15 => ?_)
                    · exact absurd hv15 (by decide)
                    · refine x_aload_n dX8_tells_125 rfl ?_
                      refine x_iload_n dX8_tells_126 rfl ?_
                      refine x_iconst (v := nI 4) dX8_tells_127 (by decide) ?_
                      refine x_bipush (v := nI 6) dX8_tells_128 (by decide) ?_
                      refine x_callV m_X8_toldBy l_X8_377 (r_toldBy4 R11 hW11 hg (dn := dn) ((F11 8 (by omega)).trans c8) ho hK7) rfl R11.2.1 (by omega) rfl rfl (Nat.le_of_ble_eq_true rfl) ⟨Nat.le_refl _, Nat.le_refl _⟩ dX8_tells_130 (fun r16 s16 q16 => ?_)
                      obtain ⟨b16, rfl, R16, b916⟩ := q16
                      refine x_stk (st' := [.int (nI ((fitB (fun v => decide (unlT rr n (K.set o v) N D (sh i).2.1 (tOf (sh i).2.2 (sh i).2.1) (-1) = none)) 6)))]) rfl ?_
                      refine x_goto (tgt := 144) dX8_tells_133 (by decide) ?_
                      exact x_iret ⟨Nat.le_refl _, Nat.le_refl _⟩ rfl dX8_tells_144 ⟨_, _, _, rfl, R16, F11, (B11.q7.tr (fun j _ _ => b916 j))⟩
                  · exact absurd hv14 (by decide)
              · exact absurd hv12 (by decide)
          · exact absurd hne hv9
        · refine x_iload dX8_tells_60 rfl ?_
          refine x_ifN_ne (tgt := 68) dX8_tells_62 (by decide) (by omega) (fun hv17 => ?_) (fun hv17 => ?_)
          · exact absurd hv17 (by decide)
          · exfalso; omega
  · exact absurd hv2 (by omega)
set_option maxHeartbeats 4000000 in
theorem r_tells2 {σ0 σ : ZS} {a : Nat → Int32} {tw : Int64} {b : Nat → List Int32} {rr n : Nat} {K N : List Nat} {W : List Int32} {D : List Nat} {ru : Nat} {L S : List Nat} {lf jf : Nat} (hR : RM σ0 σ a tw b) (hW : BW a b rr n K N W D (-1) ru L S lf jf) (hg : Dg D) {sh : Nat → SH} (hS : RSH b sh) {i : Nat} (hi4 : i < 4) (hne : ¬ (sh i).1 = -1) (hz40 : (sh i).2.1 ≤ 40) {A : Nat} (hA9 : tbS n (sh i).2.2 (sh i).2.1 = some A) (hsn : (sh i).2.1 = n) {dn : Nat} (c8 : a 8 = nI dn) (hK7 : K.length = 7) {o : Nat} (ho : o < n) : Cn 8 M_X8_tells 0 0 [.ref 1000, .int (nI i), .int (nI o), .int (nI 2)] σ (fun r9 σ' => ∃ (a' : Nat → Int32) (tw' : Int64) (b' : Nat → List Int32), r9 = some (.int (nI (fitB (fun v => decide (unlT rr n K (N.set o v) D (sh i).2.1 (tOf (sh i).2.2 (sh i).2.1) (-1) = none)) 10))) ∧ RM σ0 σ' a' tw' b' ∧ FrR a a' ∧ Fq b b') := by
  obtain ⟨hC, hT⟩ := id hW
  obtain ⟨c7, hrr, c13, hn7, c14, cK, cN, cW, cD, hN7, hW7, hD49, hK5, hN9, hD999⟩ := id hC
  refine Cn.intro (lv0 := [some (.ref 1000), some (.int (nI i)), some (.int (nI o)), some (.int (nI 2)), none]) rfl (Nat.le_of_ble_eq_true rfl) rfl (fun d hd => ?_)
  refine x_iload_n dX8_tells_0 rfl ?_
  refine x_i2l dX8_tells_1 ?_
  refine x_ldc2 (v := (10)) cl_X8_120 dX8_tells_2 ?_
  refine x_ldc2 (v := (29)) cl_X8_375 dX8_tells_5 ?_
  refine x_callS m_X8_in l_X8_85 (r_in (p := ((2 : Nat) : Int)) (q := (10)) (r := (29)) (tL (nI_toInt (by omega))) (by decide) (by decide)) (by omega) rfl rfl (Nat.le_of_ble_eq_true rfl) ⟨Nat.le_refl _, Nat.le_refl _⟩ dX8_tells_8 (fun r1 s1 q1 => ?_)
  obtain ⟨rfl, eq1⟩ := q1
  obtain rfl := eq1.symm
  refine x_stk (st' := [.int (bI (decide ((10) ≤ ((2 : Nat) : Int) ∧ ((2 : Nat) : Int) ≤ (29))))]) rfl ?_
  refine x_ifP_eq (P := (10) ≤ ((2 : Nat) : Int) ∧ ((2 : Nat) : Int) ≤ (29)) inferInstance (tgt := 30) dX8_tells_11 (by decide) (fun hv2 => ?_) (fun hv2 => ?_)
  · refine x_iconst (v := nI 0) dX8_tells_30 (by decide) ?_
    refine x_istore dX8_tells_31 (by decide) rfl ?_
    refine x_lv (lv' := [some (.ref 1000), some (.int (nI i)), some (.int (nI o)), some (.int (nI 2)), some (.int (nI 0))]) rfl ?_
    refine x_iload_n dX8_tells_33 rfl ?_
    refine x_callS m_X8_isSheet l_X8_299 (r_isSheet (nI_toInt (by omega))) (by omega) rfl rfl (Nat.le_of_ble_eq_true rfl) ⟨Nat.le_refl _, Nat.le_refl _⟩ dX8_tells_34 (fun r3 s3 q3 => ?_)
    obtain ⟨rfl, eq3⟩ := q3
    obtain rfl := eq3.symm
    refine x_stk (st' := [.int (bI (decide (0 ≤ ((i : Nat) : Int) ∧ ((i : Nat) : Int) ≤ 3)))]) rfl ?_
    refine x_ifP_eq (P := 0 ≤ ((i : Nat) : Int) ∧ ((i : Nat) : Int) ≤ 3) inferInstance (tgt := 65) dX8_tells_37 (by decide) (fun hv4 => ?_) (fun hv4 => ?_)
    · exfalso; omega
    · refine x_aload_n dX8_tells_40 rfl ?_
      refine x_iload_n dX8_tells_41 rfl ?_
      refine x_callV m_X8_isOne l_X8_89 (r_isOne hR hC (nI_toInt (by omega))) rfl hR.2.1 (by omega) rfl rfl (Nat.le_of_ble_eq_true rfl) ⟨Nat.le_refl _, Nat.le_refl _⟩ dX8_tells_42 (fun r5 s5 q5 => ?_)
      obtain ⟨rfl, eq5⟩ := q5
      obtain rfl := eq5.symm
      refine x_stk (st' := [.int (bI (decide (0 ≤ ((o : Nat) : Int) ∧ ((o : Nat) : Int) < ((n : Nat) : Int))))]) rfl ?_
      refine x_ifP_eq (P := 0 ≤ ((o : Nat) : Int) ∧ ((o : Nat) : Int) < ((n : Nat) : Int)) inferInstance (tgt := 65) dX8_tells_45 (by decide) (fun hv6 => ?_) (fun hv6 => ?_)
      · exfalso; omega
      · refine x_iload_n dX8_tells_48 rfl ?_
        refine x_i2l dX8_tells_49 ?_
        refine x_lconst (v := 0) dX8_tells_50 (by decide) ?_
        refine x_ldc2 (v := (2)) cl_X8_302 dX8_tells_51 ?_
        refine x_callS m_X8_in l_X8_85 (r_in (p := ((2 : Nat) : Int)) (q := 0) (r := (2)) (tL (nI_toInt (by omega))) (by decide) (by decide)) (by omega) rfl rfl (Nat.le_of_ble_eq_true rfl) ⟨Nat.le_refl _, Nat.le_refl _⟩ dX8_tells_54 (fun r7 s7 q7 => ?_)
        obtain ⟨rfl, eq7⟩ := q7
        obtain rfl := eq7.symm
        refine x_stk (st' := [.int (bI (decide (0 ≤ ((2 : Nat) : Int) ∧ ((2 : Nat) : Int) ≤ (2))))]) rfl ?_
        refine x_ifP_ne (P := 0 ≤ ((2 : Nat) : Int) ∧ ((2 : Nat) : Int) ≤ (2)) inferInstance (tgt := 68) dX8_tells_57 (by decide) (fun hv8 => ?_) (fun hv8 => ?_)
        · refine x_aload_n dX8_tells_68 rfl ?_
          refine x_rget f_X8_62 hR rfl dX8_tells_69 ?_
          refine x_iload_n dX8_tells_72 rfl ?_
          refine x_rzld (j := 13) (n := i) hR rfl (by decide) rfl rfl (rlt hR (m := 4) (by decide) rfl (by omega)) dX8_tells_73 ?_
          refine x_topi (y := bI (decide (¬ (sh i).1 = -1))) (hS i hi4).1 ?_
          refine x_ifP_ne (P := ¬ (sh i).1 = -1) inferInstance (tgt := 80) dX8_tells_74 (by decide) (fun hv9 => ?_) (fun hv9 => ?_)
          · refine x_aload_n dX8_tells_80 rfl ?_
            refine x_rget f_X8_69 hR rfl dX8_tells_81 ?_
            refine x_iload_n dX8_tells_84 rfl ?_
            refine x_rald (j := 15) (n := i) hR rfl (by decide) rfl rfl (rlt hR (m := 4) (by decide) rfl (by omega)) dX8_tells_85 ?_
            refine x_topi (y := nI ((sh i).2.1)) ((hS i hi4).2 hne).2.1 ?_
            refine x_aload_n dX8_tells_86 rfl ?_
            refine x_rget (v := .int (nI n)) f_X8_82 hR (rg c13) dX8_tells_87 ?_
            refine x_icmpN_ne (tgt := 101) dX8_tells_90 (by decide) (by omega) (by omega) (fun hv10 => ?_) (fun hv10 => ?_)
            · exact absurd hsn hv10
            · refine x_aload_n dX8_tells_93 rfl ?_
              refine x_iload_n dX8_tells_94 rfl ?_
              refine x_callV m_X8_sits l_X8_304 ((r_sits hR hC hS (i := i) hi4 hne hz40).mono (fun r9 σ' h => (⟨by rw [h.1, hA9]; rfl, h.2⟩ : r9 = some (.int (nI 1)) ∧ _))) rfl hR.2.1 (by omega) rfl rfl (Nat.le_of_ble_eq_true rfl) ⟨Nat.le_refl _, Nat.le_refl _⟩ dX8_tells_95 (fun r11 s11 q11 => ?_)
              obtain ⟨rfl, a11, b11, R11, F11, B11, z11⟩ := q11
              have z911 := z11 (by rw [hA9]; rfl)
              have hW11 := SW_tell hW F11 B11 hA9 z911.1 z911.2
              obtain ⟨hC11, hT11, c3111, hm11, cT11, ht11, hTn11⟩ := id hW11
              obtain ⟨c711, hrr11, c1311, hn711, c1411, cK11, cN11, cW11, cD11, hN711, hW711, hD4911, hK511, hN911, hD99911⟩ := id hC11
              obtain ⟨ht711, htb11⟩ := id ht11
              refine x_stk (st' := [.int (nI 1)]) rfl ?_
              refine x_ifN_ne (tgt := 104) dX8_tells_98 (by decide) (by omega) (fun hv12 => ?_) (fun hv12 => ?_)
              · refine x_iload_n dX8_tells_104 rfl ?_
                refine x_iconst (v := nI 3) dX8_tells_105 (by decide) ?_
                refine x_icmpN_ge (tgt := 145) dX8_tells_106 (by decide) (by omega) (by omega) (fun hv13 => ?_) (fun hv13 => ?_)
                · exact absurd hv13 (by decide)
                · refine x_iload_n dX8_tells_109 rfl ?_
                  refine x_ifN_ne (tgt := 120) dX8_tells_110 (by decide) (by omega) (fun hv14 => ?_) (fun hv14 => ?_)
                  · refine x_iload_n dX8_tells_120 rfl ?_
                    refine x_iconst (v := nI 1) dX8_tells_121 (by decide) ?_
                    refine x_icmpN_ne (tgt := 136) dX8_tells_122 (by decide) (by omega) (by omega) (fun hv15 => ?_) (fun hv15 => ?_)
                    · refine x_aload_n dX8_tells_136 rfl ?_
                      refine x_iload_n dX8_tells_137 rfl ?_
                      refine x_iconst (v := nI 2) dX8_tells_138 (by decide) ?_
                      refine x_bipush (v := nI 10) dX8_tells_139 (by decide) ?_
                      refine x_callV m_X8_toldBy l_X8_377 (r_toldBy2 R11 hW11 hg (dn := dn) ((F11 8 (by omega)).trans c8) ho hK7) rfl R11.2.1 (by omega) rfl rfl (Nat.le_of_ble_eq_true rfl) ⟨Nat.le_refl _, Nat.le_refl _⟩ dX8_tells_141 (fun r16 s16 q16 => ?_)
                      obtain ⟨b16, rfl, R16, b916⟩ := q16
                      refine x_stk (st' := [.int (nI ((fitB (fun v => decide (unlT rr n K (N.set o v) D (sh i).2.1 (tOf (sh i).2.2 (sh i).2.1) (-1) = none)) 10)))]) rfl ?_
                      exact x_iret ⟨Nat.le_refl _, Nat.le_refl _⟩ rfl dX8_tells_144 ⟨_, _, _, rfl, R16, F11, (B11.q7.tr (fun j _ _ => b916 j))⟩
                    · exact absurd hv15 (by decide)
                  · exact absurd hv14 (by decide)
              · exact absurd hv12 (by decide)
          · exact absurd hne hv9
        · refine x_iload dX8_tells_60 rfl ?_
          refine x_ifN_ne (tgt := 68) dX8_tells_62 (by decide) (by omega) (fun hv17 => ?_) (fun hv17 => ?_)
          · exact absurd hv17 (by decide)
          · exfalso; omega
  · exact absurd hv2 (by omega)
set_option maxHeartbeats 4000000 in
theorem r_tellsN {σ0 σ : ZS} {a : Nat → Int32} {tw : Int64} {b : Nat → List Int32} {rr n : Nat} {K N : List Nat} {W : List Int32} {D : List Nat} {ru : Nat} {L S : List Nat} {lf jf : Nat} (hR : RM σ0 σ a tw b) (hW : BW a b rr n K N W D (-1) ru L S lf jf) (hg : Dg D) {sh : Nat → SH} (hS : RSH b sh) {i : Nat} (hi4 : i < 4) (hne : ¬ (sh i).1 = -1) (hz40 : (sh i).2.1 ≤ 40) {A : Nat} (hA9 : tbS n (sh i).2.2 (sh i).2.1 = some A) (hsn : (sh i).2.1 = n) {o w : Nat} (ho : o < n) (hw : 10 ≤ w ∧ w < 30) (hwn : w % 10 < n) (hwo : o ≠ w % 10) : Cn 8 M_X8_tells 0 0 [.ref 1000, .int (nI i), .int (nI o), .int (nI w)] σ (fun r9 σ' => ∃ (a' : Nat → Int32) (tw' : Int64) (b' : Nat → List Int32), r9 = some (.int (if w < 20 then nI (fitC (fun v => decide (unlT rr n K N (D.set (o * 7 + w % 10) v) (sh i).2.1 (tOf (sh i).2.2 (sh i).2.1) (-1) = none)) 1000) else oI (fitM (fun v => decide (unlT rr n K N (D.set (o * 7 + w % 10) v) (sh i).2.1 (tOf (sh i).2.2 (sh i).2.1) (-1) = none)) 1000))) ∧ RM σ0 σ' a' tw' b' ∧ FrR a a' ∧ Fq b b') := by
  obtain ⟨hC, hT⟩ := id hW
  obtain ⟨c7, hrr, c13, hn7, c14, cK, cN, cW, cD, hN7, hW7, hD49, hK5, hN9, hD999⟩ := id hC
  refine Cn.intro (lv0 := [some (.ref 1000), some (.int (nI i)), some (.int (nI o)), some (.int (nI w)), none]) rfl (Nat.le_of_ble_eq_true rfl) rfl (fun d hd => ?_)
  refine x_iload_n dX8_tells_0 rfl ?_
  refine x_i2l dX8_tells_1 ?_
  refine x_ldc2 (v := (10)) cl_X8_120 dX8_tells_2 ?_
  refine x_ldc2 (v := (29)) cl_X8_375 dX8_tells_5 ?_
  refine x_callS m_X8_in l_X8_85 (r_in (p := ((w : Nat) : Int)) (q := (10)) (r := (29)) (tL (nI_toInt (by omega))) (by decide) (by decide)) (by omega) rfl rfl (Nat.le_of_ble_eq_true rfl) ⟨Nat.le_refl _, Nat.le_refl _⟩ dX8_tells_8 (fun r1 s1 q1 => ?_)
  obtain ⟨rfl, eq1⟩ := q1
  obtain rfl := eq1.symm
  refine x_stk (st' := [.int (bI (decide ((10) ≤ ((w : Nat) : Int) ∧ ((w : Nat) : Int) ≤ (29))))]) rfl ?_
  refine x_ifP_eq (P := (10) ≤ ((w : Nat) : Int) ∧ ((w : Nat) : Int) ≤ (29)) inferInstance (tgt := 30) dX8_tells_11 (by decide) (fun hv2 => ?_) (fun hv2 => ?_)
  · refine x_iconst (v := nI 0) dX8_tells_30 (by decide) ?_
    refine x_istore dX8_tells_31 (by decide) rfl ?_
    refine x_lv (lv' := [some (.ref 1000), some (.int (nI i)), some (.int (nI o)), some (.int (nI w)), some (.int (nI 0))]) rfl ?_
    refine x_iload_n dX8_tells_33 rfl ?_
    refine x_callS m_X8_isSheet l_X8_299 (r_isSheet (nI_toInt (by omega))) (by omega) rfl rfl (Nat.le_of_ble_eq_true rfl) ⟨Nat.le_refl _, Nat.le_refl _⟩ dX8_tells_34 (fun r3 s3 q3 => ?_)
    obtain ⟨rfl, eq3⟩ := q3
    obtain rfl := eq3.symm
    refine x_stk (st' := [.int (bI (decide (0 ≤ ((i : Nat) : Int) ∧ ((i : Nat) : Int) ≤ 3)))]) rfl ?_
    refine x_ifP_eq (P := 0 ≤ ((i : Nat) : Int) ∧ ((i : Nat) : Int) ≤ 3) inferInstance (tgt := 65) dX8_tells_37 (by decide) (fun hv4 => ?_) (fun hv4 => ?_)
    · exfalso; omega
    · refine x_aload_n dX8_tells_40 rfl ?_
      refine x_iload_n dX8_tells_41 rfl ?_
      refine x_callV m_X8_isOne l_X8_89 (r_isOne hR hC (nI_toInt (by omega))) rfl hR.2.1 (by omega) rfl rfl (Nat.le_of_ble_eq_true rfl) ⟨Nat.le_refl _, Nat.le_refl _⟩ dX8_tells_42 (fun r5 s5 q5 => ?_)
      obtain ⟨rfl, eq5⟩ := q5
      obtain rfl := eq5.symm
      refine x_stk (st' := [.int (bI (decide (0 ≤ ((o : Nat) : Int) ∧ ((o : Nat) : Int) < ((n : Nat) : Int))))]) rfl ?_
      refine x_ifP_eq (P := 0 ≤ ((o : Nat) : Int) ∧ ((o : Nat) : Int) < ((n : Nat) : Int)) inferInstance (tgt := 65) dX8_tells_45 (by decide) (fun hv6 => ?_) (fun hv6 => ?_)
      · exfalso; omega
      · refine x_iload_n dX8_tells_48 rfl ?_
        refine x_i2l dX8_tells_49 ?_
        refine x_lconst (v := 0) dX8_tells_50 (by decide) ?_
        refine x_ldc2 (v := (2)) cl_X8_302 dX8_tells_51 ?_
        refine x_callS m_X8_in l_X8_85 (r_in (p := ((w : Nat) : Int)) (q := 0) (r := (2)) (tL (nI_toInt (by omega))) (by decide) (by decide)) (by omega) rfl rfl (Nat.le_of_ble_eq_true rfl) ⟨Nat.le_refl _, Nat.le_refl _⟩ dX8_tells_54 (fun r7 s7 q7 => ?_)
        obtain ⟨rfl, eq7⟩ := q7
        obtain rfl := eq7.symm
        refine x_stk (st' := [.int (bI (decide (0 ≤ ((w : Nat) : Int) ∧ ((w : Nat) : Int) ≤ (2))))]) rfl ?_
        refine x_ifP_ne (P := 0 ≤ ((w : Nat) : Int) ∧ ((w : Nat) : Int) ≤ (2)) inferInstance (tgt := 68) dX8_tells_57 (by decide) (fun hv8 => ?_) (fun hv8 => ?_)
        · refine x_aload_n dX8_tells_68 rfl ?_
          refine x_rget f_X8_62 hR rfl dX8_tells_69 ?_
          refine x_iload_n dX8_tells_72 rfl ?_
          refine x_rzld (j := 13) (n := i) hR rfl (by decide) rfl rfl (rlt hR (m := 4) (by decide) rfl (by omega)) dX8_tells_73 ?_
          refine x_topi (y := bI (decide (¬ (sh i).1 = -1))) (hS i hi4).1 ?_
          refine x_ifP_ne (P := ¬ (sh i).1 = -1) inferInstance (tgt := 80) dX8_tells_74 (by decide) (fun hv9 => ?_) (fun hv9 => ?_)
          · refine x_aload_n dX8_tells_80 rfl ?_
            refine x_rget f_X8_69 hR rfl dX8_tells_81 ?_
            refine x_iload_n dX8_tells_84 rfl ?_
            refine x_rald (j := 15) (n := i) hR rfl (by decide) rfl rfl (rlt hR (m := 4) (by decide) rfl (by omega)) dX8_tells_85 ?_
            refine x_topi (y := nI ((sh i).2.1)) ((hS i hi4).2 hne).2.1 ?_
            refine x_aload_n dX8_tells_86 rfl ?_
            refine x_rget (v := .int (nI n)) f_X8_82 hR (rg c13) dX8_tells_87 ?_
            refine x_icmpN_ne (tgt := 101) dX8_tells_90 (by decide) (by omega) (by omega) (fun hv10 => ?_) (fun hv10 => ?_)
            · exact absurd hsn hv10
            · refine x_aload_n dX8_tells_93 rfl ?_
              refine x_iload_n dX8_tells_94 rfl ?_
              refine x_callV m_X8_sits l_X8_304 ((r_sits hR hC hS (i := i) hi4 hne hz40).mono (fun r9 σ' h => (⟨by rw [h.1, hA9]; rfl, h.2⟩ : r9 = some (.int (nI 1)) ∧ _))) rfl hR.2.1 (by omega) rfl rfl (Nat.le_of_ble_eq_true rfl) ⟨Nat.le_refl _, Nat.le_refl _⟩ dX8_tells_95 (fun r11 s11 q11 => ?_)
              obtain ⟨rfl, a11, b11, R11, F11, B11, z11⟩ := q11
              have z911 := z11 (by rw [hA9]; rfl)
              have hW11 := SW_tell hW F11 B11 hA9 z911.1 z911.2
              obtain ⟨hC11, hT11, c3111, hm11, cT11, ht11, hTn11⟩ := id hW11
              obtain ⟨c711, hrr11, c1311, hn711, c1411, cK11, cN11, cW11, cD11, hN711, hW711, hD4911, hK511, hN911, hD99911⟩ := id hC11
              obtain ⟨ht711, htb11⟩ := id ht11
              refine x_stk (st' := [.int (nI 1)]) rfl ?_
              refine x_ifN_ne (tgt := 104) dX8_tells_98 (by decide) (by omega) (fun hv12 => ?_) (fun hv12 => ?_)
              · refine x_iload_n dX8_tells_104 rfl ?_
                refine x_iconst (v := nI 3) dX8_tells_105 (by decide) ?_
                refine x_icmpN_ge (tgt := 145) dX8_tells_106 (by decide) (by omega) (by omega) (fun hv13 => ?_) (fun hv13 => ?_)
                · refine x_aload_n dX8_tells_145 rfl ?_
                  refine x_bipush (v := nI 7) dX8_tells_146 (by decide) ?_
                  refine x_iload_n dX8_tells_148 rfl ?_
                  refine x_imulN dX8_tells_149 ?_
                  refine x_topi (y := nI (o * 7)) (by rw [Nat.mul_comm]) ?_
                  refine x_iload_n dX8_tells_150 rfl ?_
                  refine x_bipush (v := nI 10) dX8_tells_151 (by decide) ?_
                  refine x_iremN (by omega) (by omega) (by omega) dX8_tells_153 ?_
                  refine x_iaddN dX8_tells_154 ?_
                  refine x_iload_n dX8_tells_155 rfl ?_
                  refine x_bipush (v := nI 20) dX8_tells_156 (by decide) ?_
                  refine x_icmpN_ge (tgt := 165) dX8_tells_158 (by decide) (by omega) (by omega) (fun hv14 => ?_) (fun hv14 => ?_)
                  · refine x_iconst (v := nI 0) dX8_tells_165 (by decide) ?_
                    refine x_topi (y := bI false) bI_f.symm ?_
                    refine x_callV m_X8_owedBy l_X8_380 (r_owedBy R11 hW11 (Q := (o * 7 + w % 10)) (by omega) (im := false) (fun v => Dg_set hg (by omega) (by omega) (by omega))) rfl R11.2.1 (by omega) rfl rfl (Nat.le_of_ble_eq_true rfl) ⟨Nat.le_refl _, Nat.le_refl _⟩ dX8_tells_166 (fun r15 s15 q15 => ?_)
                    obtain ⟨b15, rfl, R15, b915⟩ := q15
                    refine x_stk (st' := [.int ((if false = true then nI (fitC (fun v => decide (unlT rr n K N (D.set (o * 7 + w % 10) v) (sh i).2.1 (tOf (sh i).2.2 (sh i).2.1) (-1) = none)) 1000) else oI (fitM (fun v => decide (unlT rr n K N (D.set (o * 7 + w % 10) v) (sh i).2.1 (tOf (sh i).2.2 (sh i).2.1) (-1) = none)) 1000)))]) rfl ?_
                    exact x_iret ⟨Nat.le_refl _, Nat.le_refl _⟩ rfl dX8_tells_169 ⟨_, _, _, by rw [if_neg (show ¬ w < 20 by omega)]; rfl, R15, F11, (B11.q7.tr (fun j _ _ => b915 j))⟩
                  · refine x_iconst (v := nI 1) dX8_tells_161 (by decide) ?_
                    refine x_goto (tgt := 166) dX8_tells_162 (by decide) ?_
                    refine x_topi (y := bI true) bI_t.symm ?_
                    refine x_callV m_X8_owedBy l_X8_380 (r_owedBy R11 hW11 (Q := (o * 7 + w % 10)) (by omega) (im := true) (fun v => Dg_set hg (by omega) (by omega) (by omega))) rfl R11.2.1 (by omega) rfl rfl (Nat.le_of_ble_eq_true rfl) ⟨Nat.le_refl _, Nat.le_refl _⟩ dX8_tells_166 (fun r16 s16 q16 => ?_)
                    obtain ⟨b16, rfl, R16, b916⟩ := q16
                    refine x_stk (st' := [.int ((if true = true then nI (fitC (fun v => decide (unlT rr n K N (D.set (o * 7 + w % 10) v) (sh i).2.1 (tOf (sh i).2.2 (sh i).2.1) (-1) = none)) 1000) else oI (fitM (fun v => decide (unlT rr n K N (D.set (o * 7 + w % 10) v) (sh i).2.1 (tOf (sh i).2.2 (sh i).2.1) (-1) = none)) 1000)))]) rfl ?_
                    exact x_iret ⟨Nat.le_refl _, Nat.le_refl _⟩ rfl dX8_tells_169 ⟨_, _, _, by rw [if_pos (show w < 20 by omega)]; rfl, R16, F11, (B11.q7.tr (fun j _ _ => b916 j))⟩
                · exact absurd hv13 (by omega)
              · exact absurd hv12 (by decide)
          · exact absurd hne hv9
        · refine x_iload dX8_tells_60 rfl ?_
          refine x_ifN_ne (tgt := 68) dX8_tells_62 (by decide) (by omega) (fun hv17 => ?_) (fun hv17 => ?_)
          · exact absurd hv17 (by decide)
          · exfalso; omega
  · refine x_aload_n dX8_tells_14 rfl ?_
    refine x_iload_n dX8_tells_15 rfl ?_
    refine x_iload_n dX8_tells_16 rfl ?_
    refine x_bipush (v := nI 10) dX8_tells_17 (by decide) ?_
    refine x_iremN (by omega) (by omega) (by omega) dX8_tells_19 ?_
    refine x_callV m_X8_areTwo l_X8_116 (r_areTwo hR hC (nI_toInt (by omega)) (nI_toInt (by omega))) rfl hR.2.1 (by omega) rfl rfl (Nat.le_of_ble_eq_true rfl) ⟨Nat.le_refl _, Nat.le_refl _⟩ dX8_tells_20 (fun r18 s18 q18 => ?_)
    obtain ⟨rfl, eq18⟩ := q18
    obtain rfl := eq18.symm
    refine x_stk (st' := [.int (bI (decide ((0 ≤ ((o : Nat) : Int) ∧ ((o : Nat) : Int) < ((n : Nat) : Int)) ∧ (0 ≤ ((w % 10 : Nat) : Int) ∧ ((w % 10 : Nat) : Int) < ((n : Nat) : Int)) ∧ ¬ ((o : Nat) : Int) = ((w % 10 : Nat) : Int))))]) rfl ?_
    refine x_ifP_eq (P := (0 ≤ ((o : Nat) : Int) ∧ ((o : Nat) : Int) < ((n : Nat) : Int)) ∧ (0 ≤ ((w % 10 : Nat) : Int) ∧ ((w % 10 : Nat) : Int) < ((n : Nat) : Int)) ∧ ¬ ((o : Nat) : Int) = ((w % 10 : Nat) : Int)) inferInstance (tgt := 30) dX8_tells_23 (by decide) (fun hv19 => ?_) (fun hv19 => ?_)
    · refine x_iconst (v := nI 0) dX8_tells_30 (by decide) ?_
      refine x_istore dX8_tells_31 (by decide) rfl ?_
      refine x_lv (lv' := [some (.ref 1000), some (.int (nI i)), some (.int (nI o)), some (.int (nI w)), some (.int (nI 0))]) rfl ?_
      refine x_iload_n dX8_tells_33 rfl ?_
      refine x_callS m_X8_isSheet l_X8_299 (r_isSheet (nI_toInt (by omega))) (by omega) rfl rfl (Nat.le_of_ble_eq_true rfl) ⟨Nat.le_refl _, Nat.le_refl _⟩ dX8_tells_34 (fun r20 s20 q20 => ?_)
      obtain ⟨rfl, eq20⟩ := q20
      obtain rfl := eq20.symm
      refine x_stk (st' := [.int (bI (decide (0 ≤ ((i : Nat) : Int) ∧ ((i : Nat) : Int) ≤ 3)))]) rfl ?_
      refine x_ifP_eq (P := 0 ≤ ((i : Nat) : Int) ∧ ((i : Nat) : Int) ≤ 3) inferInstance (tgt := 65) dX8_tells_37 (by decide) (fun hv21 => ?_) (fun hv21 => ?_)
      · exfalso; omega
      · refine x_aload_n dX8_tells_40 rfl ?_
        refine x_iload_n dX8_tells_41 rfl ?_
        refine x_callV m_X8_isOne l_X8_89 (r_isOne hR hC (nI_toInt (by omega))) rfl hR.2.1 (by omega) rfl rfl (Nat.le_of_ble_eq_true rfl) ⟨Nat.le_refl _, Nat.le_refl _⟩ dX8_tells_42 (fun r22 s22 q22 => ?_)
        obtain ⟨rfl, eq22⟩ := q22
        obtain rfl := eq22.symm
        refine x_stk (st' := [.int (bI (decide (0 ≤ ((o : Nat) : Int) ∧ ((o : Nat) : Int) < ((n : Nat) : Int))))]) rfl ?_
        refine x_ifP_eq (P := 0 ≤ ((o : Nat) : Int) ∧ ((o : Nat) : Int) < ((n : Nat) : Int)) inferInstance (tgt := 65) dX8_tells_45 (by decide) (fun hv23 => ?_) (fun hv23 => ?_)
        · exfalso; omega
        · refine x_iload_n dX8_tells_48 rfl ?_
          refine x_i2l dX8_tells_49 ?_
          refine x_lconst (v := 0) dX8_tells_50 (by decide) ?_
          refine x_ldc2 (v := (2)) cl_X8_302 dX8_tells_51 ?_
          refine x_callS m_X8_in l_X8_85 (r_in (p := ((w : Nat) : Int)) (q := 0) (r := (2)) (tL (nI_toInt (by omega))) (by decide) (by decide)) (by omega) rfl rfl (Nat.le_of_ble_eq_true rfl) ⟨Nat.le_refl _, Nat.le_refl _⟩ dX8_tells_54 (fun r24 s24 q24 => ?_)
          obtain ⟨rfl, eq24⟩ := q24
          obtain rfl := eq24.symm
          refine x_stk (st' := [.int (bI (decide (0 ≤ ((w : Nat) : Int) ∧ ((w : Nat) : Int) ≤ (2))))]) rfl ?_
          refine x_ifP_ne (P := 0 ≤ ((w : Nat) : Int) ∧ ((w : Nat) : Int) ≤ (2)) inferInstance (tgt := 68) dX8_tells_57 (by decide) (fun hv25 => ?_) (fun hv25 => ?_)
          · refine x_aload_n dX8_tells_68 rfl ?_
            refine x_rget f_X8_62 hR rfl dX8_tells_69 ?_
            refine x_iload_n dX8_tells_72 rfl ?_
            refine x_rzld (j := 13) (n := i) hR rfl (by decide) rfl rfl (rlt hR (m := 4) (by decide) rfl (by omega)) dX8_tells_73 ?_
            refine x_topi (y := bI (decide (¬ (sh i).1 = -1))) (hS i hi4).1 ?_
            refine x_ifP_ne (P := ¬ (sh i).1 = -1) inferInstance (tgt := 80) dX8_tells_74 (by decide) (fun hv26 => ?_) (fun hv26 => ?_)
            · refine x_aload_n dX8_tells_80 rfl ?_
              refine x_rget f_X8_69 hR rfl dX8_tells_81 ?_
              refine x_iload_n dX8_tells_84 rfl ?_
              refine x_rald (j := 15) (n := i) hR rfl (by decide) rfl rfl (rlt hR (m := 4) (by decide) rfl (by omega)) dX8_tells_85 ?_
              refine x_topi (y := nI ((sh i).2.1)) ((hS i hi4).2 hne).2.1 ?_
              refine x_aload_n dX8_tells_86 rfl ?_
              refine x_rget (v := .int (nI n)) f_X8_82 hR (rg c13) dX8_tells_87 ?_
              refine x_icmpN_ne (tgt := 101) dX8_tells_90 (by decide) (by omega) (by omega) (fun hv27 => ?_) (fun hv27 => ?_)
              · exact absurd hsn hv27
              · refine x_aload_n dX8_tells_93 rfl ?_
                refine x_iload_n dX8_tells_94 rfl ?_
                refine x_callV m_X8_sits l_X8_304 ((r_sits hR hC hS (i := i) hi4 hne hz40).mono (fun r9 σ' h => (⟨by rw [h.1, hA9]; rfl, h.2⟩ : r9 = some (.int (nI 1)) ∧ _))) rfl hR.2.1 (by omega) rfl rfl (Nat.le_of_ble_eq_true rfl) ⟨Nat.le_refl _, Nat.le_refl _⟩ dX8_tells_95 (fun r28 s28 q28 => ?_)
                obtain ⟨rfl, a28, b28, R28, F28, B28, z28⟩ := q28
                have z928 := z28 (by rw [hA9]; rfl)
                have hW28 := SW_tell hW F28 B28 hA9 z928.1 z928.2
                obtain ⟨hC28, hT28, c3128, hm28, cT28, ht28, hTn28⟩ := id hW28
                obtain ⟨c728, hrr28, c1328, hn728, c1428, cK28, cN28, cW28, cD28, hN728, hW728, hD4928, hK528, hN928, hD99928⟩ := id hC28
                obtain ⟨ht728, htb28⟩ := id ht28
                refine x_stk (st' := [.int (nI 1)]) rfl ?_
                refine x_ifN_ne (tgt := 104) dX8_tells_98 (by decide) (by omega) (fun hv29 => ?_) (fun hv29 => ?_)
                · refine x_iload_n dX8_tells_104 rfl ?_
                  refine x_iconst (v := nI 3) dX8_tells_105 (by decide) ?_
                  refine x_icmpN_ge (tgt := 145) dX8_tells_106 (by decide) (by omega) (by omega) (fun hv30 => ?_) (fun hv30 => ?_)
                  · refine x_aload_n dX8_tells_145 rfl ?_
                    refine x_bipush (v := nI 7) dX8_tells_146 (by decide) ?_
                    refine x_iload_n dX8_tells_148 rfl ?_
                    refine x_imulN dX8_tells_149 ?_
                    refine x_topi (y := nI (o * 7)) (by rw [Nat.mul_comm]) ?_
                    refine x_iload_n dX8_tells_150 rfl ?_
                    refine x_bipush (v := nI 10) dX8_tells_151 (by decide) ?_
                    refine x_iremN (by omega) (by omega) (by omega) dX8_tells_153 ?_
                    refine x_iaddN dX8_tells_154 ?_
                    refine x_iload_n dX8_tells_155 rfl ?_
                    refine x_bipush (v := nI 20) dX8_tells_156 (by decide) ?_
                    refine x_icmpN_ge (tgt := 165) dX8_tells_158 (by decide) (by omega) (by omega) (fun hv31 => ?_) (fun hv31 => ?_)
                    · refine x_iconst (v := nI 0) dX8_tells_165 (by decide) ?_
                      refine x_topi (y := bI false) bI_f.symm ?_
                      refine x_callV m_X8_owedBy l_X8_380 (r_owedBy R28 hW28 (Q := (o * 7 + w % 10)) (by omega) (im := false) (fun v => Dg_set hg (by omega) (by omega) (by omega))) rfl R28.2.1 (by omega) rfl rfl (Nat.le_of_ble_eq_true rfl) ⟨Nat.le_refl _, Nat.le_refl _⟩ dX8_tells_166 (fun r32 s32 q32 => ?_)
                      obtain ⟨b32, rfl, R32, b932⟩ := q32
                      refine x_stk (st' := [.int ((if false = true then nI (fitC (fun v => decide (unlT rr n K N (D.set (o * 7 + w % 10) v) (sh i).2.1 (tOf (sh i).2.2 (sh i).2.1) (-1) = none)) 1000) else oI (fitM (fun v => decide (unlT rr n K N (D.set (o * 7 + w % 10) v) (sh i).2.1 (tOf (sh i).2.2 (sh i).2.1) (-1) = none)) 1000)))]) rfl ?_
                      exact x_iret ⟨Nat.le_refl _, Nat.le_refl _⟩ rfl dX8_tells_169 ⟨_, _, _, by rw [if_neg (show ¬ w < 20 by omega)]; rfl, R32, F28, (B28.q7.tr (fun j _ _ => b932 j))⟩
                    · refine x_iconst (v := nI 1) dX8_tells_161 (by decide) ?_
                      refine x_goto (tgt := 166) dX8_tells_162 (by decide) ?_
                      refine x_topi (y := bI true) bI_t.symm ?_
                      refine x_callV m_X8_owedBy l_X8_380 (r_owedBy R28 hW28 (Q := (o * 7 + w % 10)) (by omega) (im := true) (fun v => Dg_set hg (by omega) (by omega) (by omega))) rfl R28.2.1 (by omega) rfl rfl (Nat.le_of_ble_eq_true rfl) ⟨Nat.le_refl _, Nat.le_refl _⟩ dX8_tells_166 (fun r33 s33 q33 => ?_)
                      obtain ⟨b33, rfl, R33, b933⟩ := q33
                      refine x_stk (st' := [.int ((if true = true then nI (fitC (fun v => decide (unlT rr n K N (D.set (o * 7 + w % 10) v) (sh i).2.1 (tOf (sh i).2.2 (sh i).2.1) (-1) = none)) 1000) else oI (fitM (fun v => decide (unlT rr n K N (D.set (o * 7 + w % 10) v) (sh i).2.1 (tOf (sh i).2.2 (sh i).2.1) (-1) = none)) 1000)))]) rfl ?_
                      exact x_iret ⟨Nat.le_refl _, Nat.le_refl _⟩ rfl dX8_tells_169 ⟨_, _, _, by rw [if_pos (show w < 20 by omega)]; rfl, R33, F28, (B28.q7.tr (fun j _ _ => b933 j))⟩
                  · exact absurd hv30 (by omega)
                · exact absurd hv29 (by decide)
            · exact absurd hne hv26
          · refine x_iload dX8_tells_60 rfl ?_
            refine x_ifN_ne (tgt := 68) dX8_tells_62 (by decide) (by omega) (fun hv34 => ?_) (fun hv34 => ?_)
            · exact absurd hv34 (by decide)
            · exfalso; omega
    · refine x_iconst (v := nI 1) dX8_tells_26 (by decide) ?_
      refine x_goto (tgt := 31) dX8_tells_27 (by decide) ?_
      refine x_istore dX8_tells_31 (by decide) rfl ?_
      refine x_lv (lv' := [some (.ref 1000), some (.int (nI i)), some (.int (nI o)), some (.int (nI w)), some (.int (nI 1))]) rfl ?_
      refine x_iload_n dX8_tells_33 rfl ?_
      refine x_callS m_X8_isSheet l_X8_299 (r_isSheet (nI_toInt (by omega))) (by omega) rfl rfl (Nat.le_of_ble_eq_true rfl) ⟨Nat.le_refl _, Nat.le_refl _⟩ dX8_tells_34 (fun r35 s35 q35 => ?_)
      obtain ⟨rfl, eq35⟩ := q35
      obtain rfl := eq35.symm
      refine x_stk (st' := [.int (bI (decide (0 ≤ ((i : Nat) : Int) ∧ ((i : Nat) : Int) ≤ 3)))]) rfl ?_
      refine x_ifP_eq (P := 0 ≤ ((i : Nat) : Int) ∧ ((i : Nat) : Int) ≤ 3) inferInstance (tgt := 65) dX8_tells_37 (by decide) (fun hv36 => ?_) (fun hv36 => ?_)
      · exfalso; omega
      · refine x_aload_n dX8_tells_40 rfl ?_
        refine x_iload_n dX8_tells_41 rfl ?_
        refine x_callV m_X8_isOne l_X8_89 (r_isOne hR hC (nI_toInt (by omega))) rfl hR.2.1 (by omega) rfl rfl (Nat.le_of_ble_eq_true rfl) ⟨Nat.le_refl _, Nat.le_refl _⟩ dX8_tells_42 (fun r37 s37 q37 => ?_)
        obtain ⟨rfl, eq37⟩ := q37
        obtain rfl := eq37.symm
        refine x_stk (st' := [.int (bI (decide (0 ≤ ((o : Nat) : Int) ∧ ((o : Nat) : Int) < ((n : Nat) : Int))))]) rfl ?_
        refine x_ifP_eq (P := 0 ≤ ((o : Nat) : Int) ∧ ((o : Nat) : Int) < ((n : Nat) : Int)) inferInstance (tgt := 65) dX8_tells_45 (by decide) (fun hv38 => ?_) (fun hv38 => ?_)
        · exfalso; omega
        · refine x_iload_n dX8_tells_48 rfl ?_
          refine x_i2l dX8_tells_49 ?_
          refine x_lconst (v := 0) dX8_tells_50 (by decide) ?_
          refine x_ldc2 (v := (2)) cl_X8_302 dX8_tells_51 ?_
          refine x_callS m_X8_in l_X8_85 (r_in (p := ((w : Nat) : Int)) (q := 0) (r := (2)) (tL (nI_toInt (by omega))) (by decide) (by decide)) (by omega) rfl rfl (Nat.le_of_ble_eq_true rfl) ⟨Nat.le_refl _, Nat.le_refl _⟩ dX8_tells_54 (fun r39 s39 q39 => ?_)
          obtain ⟨rfl, eq39⟩ := q39
          obtain rfl := eq39.symm
          refine x_stk (st' := [.int (bI (decide (0 ≤ ((w : Nat) : Int) ∧ ((w : Nat) : Int) ≤ (2))))]) rfl ?_
          refine x_ifP_ne (P := 0 ≤ ((w : Nat) : Int) ∧ ((w : Nat) : Int) ≤ (2)) inferInstance (tgt := 68) dX8_tells_57 (by decide) (fun hv40 => ?_) (fun hv40 => ?_)
          · refine x_aload_n dX8_tells_68 rfl ?_
            refine x_rget f_X8_62 hR rfl dX8_tells_69 ?_
            refine x_iload_n dX8_tells_72 rfl ?_
            refine x_rzld (j := 13) (n := i) hR rfl (by decide) rfl rfl (rlt hR (m := 4) (by decide) rfl (by omega)) dX8_tells_73 ?_
            refine x_topi (y := bI (decide (¬ (sh i).1 = -1))) (hS i hi4).1 ?_
            refine x_ifP_ne (P := ¬ (sh i).1 = -1) inferInstance (tgt := 80) dX8_tells_74 (by decide) (fun hv41 => ?_) (fun hv41 => ?_)
            · refine x_aload_n dX8_tells_80 rfl ?_
              refine x_rget f_X8_69 hR rfl dX8_tells_81 ?_
              refine x_iload_n dX8_tells_84 rfl ?_
              refine x_rald (j := 15) (n := i) hR rfl (by decide) rfl rfl (rlt hR (m := 4) (by decide) rfl (by omega)) dX8_tells_85 ?_
              refine x_topi (y := nI ((sh i).2.1)) ((hS i hi4).2 hne).2.1 ?_
              refine x_aload_n dX8_tells_86 rfl ?_
              refine x_rget (v := .int (nI n)) f_X8_82 hR (rg c13) dX8_tells_87 ?_
              refine x_icmpN_ne (tgt := 101) dX8_tells_90 (by decide) (by omega) (by omega) (fun hv42 => ?_) (fun hv42 => ?_)
              · exact absurd hsn hv42
              · refine x_aload_n dX8_tells_93 rfl ?_
                refine x_iload_n dX8_tells_94 rfl ?_
                refine x_callV m_X8_sits l_X8_304 ((r_sits hR hC hS (i := i) hi4 hne hz40).mono (fun r9 σ' h => (⟨by rw [h.1, hA9]; rfl, h.2⟩ : r9 = some (.int (nI 1)) ∧ _))) rfl hR.2.1 (by omega) rfl rfl (Nat.le_of_ble_eq_true rfl) ⟨Nat.le_refl _, Nat.le_refl _⟩ dX8_tells_95 (fun r43 s43 q43 => ?_)
                obtain ⟨rfl, a43, b43, R43, F43, B43, z43⟩ := q43
                have z943 := z43 (by rw [hA9]; rfl)
                have hW43 := SW_tell hW F43 B43 hA9 z943.1 z943.2
                obtain ⟨hC43, hT43, c3143, hm43, cT43, ht43, hTn43⟩ := id hW43
                obtain ⟨c743, hrr43, c1343, hn743, c1443, cK43, cN43, cW43, cD43, hN743, hW743, hD4943, hK543, hN943, hD99943⟩ := id hC43
                obtain ⟨ht743, htb43⟩ := id ht43
                refine x_stk (st' := [.int (nI 1)]) rfl ?_
                refine x_ifN_ne (tgt := 104) dX8_tells_98 (by decide) (by omega) (fun hv44 => ?_) (fun hv44 => ?_)
                · refine x_iload_n dX8_tells_104 rfl ?_
                  refine x_iconst (v := nI 3) dX8_tells_105 (by decide) ?_
                  refine x_icmpN_ge (tgt := 145) dX8_tells_106 (by decide) (by omega) (by omega) (fun hv45 => ?_) (fun hv45 => ?_)
                  · refine x_aload_n dX8_tells_145 rfl ?_
                    refine x_bipush (v := nI 7) dX8_tells_146 (by decide) ?_
                    refine x_iload_n dX8_tells_148 rfl ?_
                    refine x_imulN dX8_tells_149 ?_
                    refine x_topi (y := nI (o * 7)) (by rw [Nat.mul_comm]) ?_
                    refine x_iload_n dX8_tells_150 rfl ?_
                    refine x_bipush (v := nI 10) dX8_tells_151 (by decide) ?_
                    refine x_iremN (by omega) (by omega) (by omega) dX8_tells_153 ?_
                    refine x_iaddN dX8_tells_154 ?_
                    refine x_iload_n dX8_tells_155 rfl ?_
                    refine x_bipush (v := nI 20) dX8_tells_156 (by decide) ?_
                    refine x_icmpN_ge (tgt := 165) dX8_tells_158 (by decide) (by omega) (by omega) (fun hv46 => ?_) (fun hv46 => ?_)
                    · refine x_iconst (v := nI 0) dX8_tells_165 (by decide) ?_
                      refine x_topi (y := bI false) bI_f.symm ?_
                      refine x_callV m_X8_owedBy l_X8_380 (r_owedBy R43 hW43 (Q := (o * 7 + w % 10)) (by omega) (im := false) (fun v => Dg_set hg (by omega) (by omega) (by omega))) rfl R43.2.1 (by omega) rfl rfl (Nat.le_of_ble_eq_true rfl) ⟨Nat.le_refl _, Nat.le_refl _⟩ dX8_tells_166 (fun r47 s47 q47 => ?_)
                      obtain ⟨b47, rfl, R47, b947⟩ := q47
                      refine x_stk (st' := [.int ((if false = true then nI (fitC (fun v => decide (unlT rr n K N (D.set (o * 7 + w % 10) v) (sh i).2.1 (tOf (sh i).2.2 (sh i).2.1) (-1) = none)) 1000) else oI (fitM (fun v => decide (unlT rr n K N (D.set (o * 7 + w % 10) v) (sh i).2.1 (tOf (sh i).2.2 (sh i).2.1) (-1) = none)) 1000)))]) rfl ?_
                      exact x_iret ⟨Nat.le_refl _, Nat.le_refl _⟩ rfl dX8_tells_169 ⟨_, _, _, by rw [if_neg (show ¬ w < 20 by omega)]; rfl, R47, F43, (B43.q7.tr (fun j _ _ => b947 j))⟩
                    · refine x_iconst (v := nI 1) dX8_tells_161 (by decide) ?_
                      refine x_goto (tgt := 166) dX8_tells_162 (by decide) ?_
                      refine x_topi (y := bI true) bI_t.symm ?_
                      refine x_callV m_X8_owedBy l_X8_380 (r_owedBy R43 hW43 (Q := (o * 7 + w % 10)) (by omega) (im := true) (fun v => Dg_set hg (by omega) (by omega) (by omega))) rfl R43.2.1 (by omega) rfl rfl (Nat.le_of_ble_eq_true rfl) ⟨Nat.le_refl _, Nat.le_refl _⟩ dX8_tells_166 (fun r48 s48 q48 => ?_)
                      obtain ⟨b48, rfl, R48, b948⟩ := q48
                      refine x_stk (st' := [.int ((if true = true then nI (fitC (fun v => decide (unlT rr n K N (D.set (o * 7 + w % 10) v) (sh i).2.1 (tOf (sh i).2.2 (sh i).2.1) (-1) = none)) 1000) else oI (fitM (fun v => decide (unlT rr n K N (D.set (o * 7 + w % 10) v) (sh i).2.1 (tOf (sh i).2.2 (sh i).2.1) (-1) = none)) 1000)))]) rfl ?_
                      exact x_iret ⟨Nat.le_refl _, Nat.le_refl _⟩ rfl dX8_tells_169 ⟨_, _, _, by rw [if_pos (show w < 20 by omega)]; rfl, R48, F43, (B43.q7.tr (fun j _ _ => b948 j))⟩
                  · exact absurd hv45 (by omega)
                · exact absurd hv44 (by decide)
            · exact absurd hne hv41
          · refine x_iload dX8_tells_60 rfl ?_
            refine x_ifN_ne (tgt := 68) dX8_tells_62 (by decide) (by omega) (fun hv49 => ?_) (fun hv49 => ?_)
            · refine x_aload_n dX8_tells_68 rfl ?_
              refine x_rget f_X8_62 hR rfl dX8_tells_69 ?_
              refine x_iload_n dX8_tells_72 rfl ?_
              refine x_rzld (j := 13) (n := i) hR rfl (by decide) rfl rfl (rlt hR (m := 4) (by decide) rfl (by omega)) dX8_tells_73 ?_
              refine x_topi (y := bI (decide (¬ (sh i).1 = -1))) (hS i hi4).1 ?_
              refine x_ifP_ne (P := ¬ (sh i).1 = -1) inferInstance (tgt := 80) dX8_tells_74 (by decide) (fun hv50 => ?_) (fun hv50 => ?_)
              · refine x_aload_n dX8_tells_80 rfl ?_
                refine x_rget f_X8_69 hR rfl dX8_tells_81 ?_
                refine x_iload_n dX8_tells_84 rfl ?_
                refine x_rald (j := 15) (n := i) hR rfl (by decide) rfl rfl (rlt hR (m := 4) (by decide) rfl (by omega)) dX8_tells_85 ?_
                refine x_topi (y := nI ((sh i).2.1)) ((hS i hi4).2 hne).2.1 ?_
                refine x_aload_n dX8_tells_86 rfl ?_
                refine x_rget (v := .int (nI n)) f_X8_82 hR (rg c13) dX8_tells_87 ?_
                refine x_icmpN_ne (tgt := 101) dX8_tells_90 (by decide) (by omega) (by omega) (fun hv51 => ?_) (fun hv51 => ?_)
                · exact absurd hsn hv51
                · refine x_aload_n dX8_tells_93 rfl ?_
                  refine x_iload_n dX8_tells_94 rfl ?_
                  refine x_callV m_X8_sits l_X8_304 ((r_sits hR hC hS (i := i) hi4 hne hz40).mono (fun r9 σ' h => (⟨by rw [h.1, hA9]; rfl, h.2⟩ : r9 = some (.int (nI 1)) ∧ _))) rfl hR.2.1 (by omega) rfl rfl (Nat.le_of_ble_eq_true rfl) ⟨Nat.le_refl _, Nat.le_refl _⟩ dX8_tells_95 (fun r52 s52 q52 => ?_)
                  obtain ⟨rfl, a52, b52, R52, F52, B52, z52⟩ := q52
                  have z952 := z52 (by rw [hA9]; rfl)
                  have hW52 := SW_tell hW F52 B52 hA9 z952.1 z952.2
                  obtain ⟨hC52, hT52, c3152, hm52, cT52, ht52, hTn52⟩ := id hW52
                  obtain ⟨c752, hrr52, c1352, hn752, c1452, cK52, cN52, cW52, cD52, hN752, hW752, hD4952, hK552, hN952, hD99952⟩ := id hC52
                  obtain ⟨ht752, htb52⟩ := id ht52
                  refine x_stk (st' := [.int (nI 1)]) rfl ?_
                  refine x_ifN_ne (tgt := 104) dX8_tells_98 (by decide) (by omega) (fun hv53 => ?_) (fun hv53 => ?_)
                  · refine x_iload_n dX8_tells_104 rfl ?_
                    refine x_iconst (v := nI 3) dX8_tells_105 (by decide) ?_
                    refine x_icmpN_ge (tgt := 145) dX8_tells_106 (by decide) (by omega) (by omega) (fun hv54 => ?_) (fun hv54 => ?_)
                    · refine x_aload_n dX8_tells_145 rfl ?_
                      refine x_bipush (v := nI 7) dX8_tells_146 (by decide) ?_
                      refine x_iload_n dX8_tells_148 rfl ?_
                      refine x_imulN dX8_tells_149 ?_
                      refine x_topi (y := nI (o * 7)) (by rw [Nat.mul_comm]) ?_
                      refine x_iload_n dX8_tells_150 rfl ?_
                      refine x_bipush (v := nI 10) dX8_tells_151 (by decide) ?_
                      refine x_iremN (by omega) (by omega) (by omega) dX8_tells_153 ?_
                      refine x_iaddN dX8_tells_154 ?_
                      refine x_iload_n dX8_tells_155 rfl ?_
                      refine x_bipush (v := nI 20) dX8_tells_156 (by decide) ?_
                      refine x_icmpN_ge (tgt := 165) dX8_tells_158 (by decide) (by omega) (by omega) (fun hv55 => ?_) (fun hv55 => ?_)
                      · refine x_iconst (v := nI 0) dX8_tells_165 (by decide) ?_
                        refine x_topi (y := bI false) bI_f.symm ?_
                        refine x_callV m_X8_owedBy l_X8_380 (r_owedBy R52 hW52 (Q := (o * 7 + w % 10)) (by omega) (im := false) (fun v => Dg_set hg (by omega) (by omega) (by omega))) rfl R52.2.1 (by omega) rfl rfl (Nat.le_of_ble_eq_true rfl) ⟨Nat.le_refl _, Nat.le_refl _⟩ dX8_tells_166 (fun r56 s56 q56 => ?_)
                        obtain ⟨b56, rfl, R56, b956⟩ := q56
                        refine x_stk (st' := [.int ((if false = true then nI (fitC (fun v => decide (unlT rr n K N (D.set (o * 7 + w % 10) v) (sh i).2.1 (tOf (sh i).2.2 (sh i).2.1) (-1) = none)) 1000) else oI (fitM (fun v => decide (unlT rr n K N (D.set (o * 7 + w % 10) v) (sh i).2.1 (tOf (sh i).2.2 (sh i).2.1) (-1) = none)) 1000)))]) rfl ?_
                        exact x_iret ⟨Nat.le_refl _, Nat.le_refl _⟩ rfl dX8_tells_169 ⟨_, _, _, by rw [if_neg (show ¬ w < 20 by omega)]; rfl, R56, F52, (B52.q7.tr (fun j _ _ => b956 j))⟩
                      · refine x_iconst (v := nI 1) dX8_tells_161 (by decide) ?_
                        refine x_goto (tgt := 166) dX8_tells_162 (by decide) ?_
                        refine x_topi (y := bI true) bI_t.symm ?_
                        refine x_callV m_X8_owedBy l_X8_380 (r_owedBy R52 hW52 (Q := (o * 7 + w % 10)) (by omega) (im := true) (fun v => Dg_set hg (by omega) (by omega) (by omega))) rfl R52.2.1 (by omega) rfl rfl (Nat.le_of_ble_eq_true rfl) ⟨Nat.le_refl _, Nat.le_refl _⟩ dX8_tells_166 (fun r57 s57 q57 => ?_)
                        obtain ⟨b57, rfl, R57, b957⟩ := q57
                        refine x_stk (st' := [.int ((if true = true then nI (fitC (fun v => decide (unlT rr n K N (D.set (o * 7 + w % 10) v) (sh i).2.1 (tOf (sh i).2.2 (sh i).2.1) (-1) = none)) 1000) else oI (fitM (fun v => decide (unlT rr n K N (D.set (o * 7 + w % 10) v) (sh i).2.1 (tOf (sh i).2.2 (sh i).2.1) (-1) = none)) 1000)))]) rfl ?_
                        exact x_iret ⟨Nat.le_refl _, Nat.le_refl _⟩ rfl dX8_tells_169 ⟨_, _, _, by rw [if_pos (show w < 20 by omega)]; rfl, R57, F52, (B52.q7.tr (fun j _ _ => b957 j))⟩
                    · exact absurd hv54 (by omega)
                  · exact absurd hv53 (by decide)
              · exact absurd hne hv50
            · exact absurd hv49 (by decide)
