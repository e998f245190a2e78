set_option maxHeartbeats 4000000 in
theorem r_isValue0 {σ0 σ : ZS} {a : Nat → Int32} {tw : Int64} {b : Nat → List Int32} {rr n : Nat} {K N : List Nat} {W : List Int32} {D : List Nat} (hR : RM σ0 σ a tw b) (hC : RC a b rr n K N W D (-1)) {x v : Int32} : Cn 3 M_X8_isValue 0 0 [.ref 1000, .int (nI 0), .int x, .int v] σ (fun r9 σ' => r9 = some (.int (bI (decide (0 ≤ v.toInt ∧ v.toInt ≤ 1)))) ∧ σ' = σ) := by
  obtain ⟨c7, hrr, c13, hn7, c14, cK, cN, cW, cD, hN7, hW7, hD49, hK5, hN9, hD999⟩ := id hC
  refine Cn.intro (lv0 := [some (.ref 1000), some (.int (nI 0)), some (.int x), some (.int v)]) rfl (Nat.le_of_ble_eq_true rfl) rfl (fun d hd => ?_)
  refine x_iload_n dX8_isValue_0 rfl ?_
  refine x_iconst (v := nI 3) dX8_isValue_1 (by decide) ?_
  refine x_icmpN_ne (tgt := 29) dX8_isValue_2 (by decide) (by omega) (by omega) (fun hv1 => ?_) (fun hv1 => ?_)
  · refine x_iload_n dX8_isValue_29 rfl ?_
    refine x_i2l dX8_isValue_30 ?_
    refine x_lconst (v := 0) dX8_isValue_31 (by decide) ?_
    refine x_iload_n dX8_isValue_32 rfl ?_
    refine x_ifN_ne (tgt := 40) dX8_isValue_33 (by decide) (by omega) (fun hv2 => ?_) (fun hv2 => ?_)
    · exact absurd hv2 (by decide)
    · refine x_lconst (v := 1) dX8_isValue_36 (by decide) ?_
      refine x_goto (tgt := 54) dX8_isValue_37 (by decide) ?_
      refine x_callS m_X8_in l_X8_85 (r_in (p := v.toInt) (q := 0) (r := 1) (tL rfl) (by decide) (by decide)) (by omega) rfl rfl (Nat.le_of_ble_eq_true rfl) ⟨Nat.le_refl _, Nat.le_refl _⟩ dX8_isValue_54 (fun r3 s3 q3 => ?_)
      obtain ⟨rfl, eq3⟩ := q3
      obtain rfl := eq3.symm
      refine x_stk (st' := [.int (bI (decide (0 ≤ v.toInt ∧ v.toInt ≤ 1)))]) rfl ?_
      exact x_zret ⟨Nat.le_refl _, Nat.le_refl _⟩ rfl (bI_nar _) dX8_isValue_57 ⟨rfl, rfl⟩
  · exact absurd hv1 (by decide)
set_option maxHeartbeats 4000000 in
theorem r_isValue1 {σ0 σ : ZS} {a : Nat → Int32} {tw : Int64} {b : Nat → List Int32} {rr n : Nat} {K N : List Nat} {W : List Int32} {D : List Nat} (hR : RM σ0 σ a tw b) (hC : RC a b rr n K N W D (-1)) {x v : Int32} : Cn 3 M_X8_isValue 0 0 [.ref 1000, .int (nI 1), .int x, .int v] σ (fun r9 σ' => r9 = some (.int (bI (decide (0 ≤ v.toInt ∧ v.toInt ≤ 999)))) ∧ σ' = σ) := by
  obtain ⟨c7, hrr, c13, hn7, c14, cK, cN, cW, cD, hN7, hW7, hD49, hK5, hN9, hD999⟩ := id hC
  refine Cn.intro (lv0 := [some (.ref 1000), some (.int (nI 1)), some (.int x), some (.int v)]) rfl (Nat.le_of_ble_eq_true rfl) rfl (fun d hd => ?_)
  refine x_iload_n dX8_isValue_0 rfl ?_
  refine x_iconst (v := nI 3) dX8_isValue_1 (by decide) ?_
  refine x_icmpN_ne (tgt := 29) dX8_isValue_2 (by decide) (by omega) (by omega) (fun hv1 => ?_) (fun hv1 => ?_)
  · refine x_iload_n dX8_isValue_29 rfl ?_
    refine x_i2l dX8_isValue_30 ?_
    refine x_lconst (v := 0) dX8_isValue_31 (by decide) ?_
    refine x_iload_n dX8_isValue_32 rfl ?_
    refine x_ifN_ne (tgt := 40) dX8_isValue_33 (by decide) (by omega) (fun hv2 => ?_) (fun hv2 => ?_)
    · refine x_iload_n dX8_isValue_40 rfl ?_
      refine x_iconst (v := nI 1) dX8_isValue_41 (by decide) ?_
      refine x_icmpN_ne (tgt := 51) dX8_isValue_42 (by decide) (by omega) (by omega) (fun hv3 => ?_) (fun hv3 => ?_)
      · exact absurd hv3 (by decide)
      · refine x_ldc2 (v := (999)) cl_X8_93 dX8_isValue_45 ?_
        refine x_goto (tgt := 54) dX8_isValue_48 (by decide) ?_
        refine x_callS m_X8_in l_X8_85 (r_in (p := v.toInt) (q := 0) (r := (999)) (tL rfl) (by decide) (by decide)) (by omega) rfl rfl (Nat.le_of_ble_eq_true rfl) ⟨Nat.le_refl _, Nat.le_refl _⟩ dX8_isValue_54 (fun r4 s4 q4 => ?_)
        obtain ⟨rfl, eq4⟩ := q4
        obtain rfl := eq4.symm
        refine x_stk (st' := [.int (bI (decide (0 ≤ v.toInt ∧ v.toInt ≤ (999))))]) rfl ?_
        exact x_zret ⟨Nat.le_refl _, Nat.le_refl _⟩ rfl (bI_nar _) dX8_isValue_57 ⟨rfl, rfl⟩
    · exact absurd hv2 (by decide)
  · exact absurd hv1 (by decide)
set_option maxHeartbeats 4000000 in
theorem r_isValue2 {σ0 σ : ZS} {a : Nat → Int32} {tw : Int64} {b : Nat → List Int32} {rr n : Nat} {K N : List Nat} {W : List Int32} {D : List Nat} (hR : RM σ0 σ a tw b) (hC : RC a b rr n K N W D (-1)) {x v : Int32} : Cn 3 M_X8_isValue 0 0 [.ref 1000, .int (nI 2), .int x, .int v] σ (fun r9 σ' => r9 = some (.int (bI (decide (0 ≤ v.toInt ∧ v.toInt ≤ 9)))) ∧ σ' = σ) := by
  obtain ⟨c7, hrr, c13, hn7, c14, cK, cN, cW, cD, hN7, hW7, hD49, hK5, hN9, hD999⟩ := id hC
  refine Cn.intro (lv0 := [some (.ref 1000), some (.int (nI 2)), some (.int x), some (.int v)]) rfl (Nat.le_of_ble_eq_true rfl) rfl (fun d hd => ?_)
  refine x_iload_n dX8_isValue_0 rfl ?_
  refine x_iconst (v := nI 3) dX8_isValue_1 (by decide) ?_
  refine x_icmpN_ne (tgt := 29) dX8_isValue_2 (by decide) (by omega) (by omega) (fun hv1 => ?_) (fun hv1 => ?_)
  · refine x_iload_n dX8_isValue_29 rfl ?_
    refine x_i2l dX8_isValue_30 ?_
    refine x_lconst (v := 0) dX8_isValue_31 (by decide) ?_
    refine x_iload_n dX8_isValue_32 rfl ?_
    refine x_ifN_ne (tgt := 40) dX8_isValue_33 (by decide) (by omega) (fun hv2 => ?_) (fun hv2 => ?_)
    · refine x_iload_n dX8_isValue_40 rfl ?_
      refine x_iconst (v := nI 1) dX8_isValue_41 (by decide) ?_
      refine x_icmpN_ne (tgt := 51) dX8_isValue_42 (by decide) (by omega) (by omega) (fun hv3 => ?_) (fun hv3 => ?_)
      · refine x_ldc2 (v := (9)) cl_X8_95 dX8_isValue_51 ?_
        refine x_callS m_X8_in l_X8_85 (r_in (p := v.toInt) (q := 0) (r := (9)) (tL rfl) (by decide) (by decide)) (by omega) rfl rfl (Nat.le_of_ble_eq_true rfl) ⟨Nat.le_refl _, Nat.le_refl _⟩ dX8_isValue_54 (fun r4 s4 q4 => ?_)
        obtain ⟨rfl, eq4⟩ := q4
        obtain rfl := eq4.symm
        refine x_stk (st' := [.int (bI (decide (0 ≤ v.toInt ∧ v.toInt ≤ (9))))]) rfl ?_
        exact x_zret ⟨Nat.le_refl _, Nat.le_refl _⟩ rfl (bI_nar _) dX8_isValue_57 ⟨rfl, rfl⟩
      · exact absurd hv3 (by decide)
    · exact absurd hv2 (by decide)
  · exact absurd hv1 (by decide)
set_option maxHeartbeats 4000000 in
theorem r_isValue3 {σ0 σ : ZS} {a : Nat → Int32} {tw : Int64} {b : Nat → List Int32} {rr n : Nat} {K N : List Nat} {W : List Int32} {D : List Nat} (hR : RM σ0 σ a tw b) (hC : RC a b rr n K N W D (-1)) {x v : Int32} : Cn 3 M_X8_isValue 0 0 [.ref 1000, .int (nI 3), .int x, .int v] σ (fun r9 σ' => r9 = some (.int (bI (decide (v.toInt = -1 ∨ ((0 ≤ v.toInt ∧ v.toInt < (n : Int)) ∧ ¬ v.toInt = x.toInt))))) ∧ σ' = σ) := by
  obtain ⟨c7, hrr, c13, hn7, c14, cK, cN, cW, cD, hN7, hW7, hD49, hK5, hN9, hD999⟩ := id hC
  refine Cn.intro (lv0 := [some (.ref 1000), some (.int (nI 3)), some (.int x), some (.int v)]) rfl (Nat.le_of_ble_eq_true rfl) rfl (fun d hd => ?_)
  refine x_iload_n dX8_isValue_0 rfl ?_
  refine x_iconst (v := nI 3) dX8_isValue_1 (by decide) ?_
  refine x_icmpN_ne (tgt := 29) dX8_isValue_2 (by decide) (by omega) (by omega) (fun hv1 => ?_) (fun hv1 => ?_)
  · exact absurd hv1 (by decide)
  · refine x_iload_n dX8_isValue_5 rfl ?_
    refine x_iconst (v := (-1)) dX8_isValue_6 (by decide) ?_
    refine x_icmpT_eq (p := v.toInt) (q := (-1)) (tgt := 23) rfl (by decide) dX8_isValue_7 (by decide) (fun hv2 => ?_) (fun hv2 => ?_)
    · refine x_iconst (v := nI 1) dX8_isValue_23 (by decide) ?_
      refine x_goto (tgt := 28) dX8_isValue_24 (by decide) ?_
      exact x_zret ⟨Nat.le_refl _, Nat.le_refl _⟩ rfl (by decide) dX8_isValue_28 ⟨by rw [bI_1 (by omega)], rfl⟩
    · refine x_aload_n dX8_isValue_10 rfl ?_
      refine x_iload_n dX8_isValue_11 rfl ?_
      refine x_callV m_X8_isOne l_X8_89 (r_isOne hR hC rfl) rfl hR.2.1 (by omega) rfl rfl (Nat.le_of_ble_eq_true rfl) ⟨Nat.le_refl _, Nat.le_refl _⟩ dX8_isValue_12 (fun r3 s3 q3 => ?_)
      obtain ⟨rfl, eq3⟩ := q3
      obtain rfl := eq3.symm
      refine x_stk (st' := [.int (bI (decide (0 ≤ v.toInt ∧ v.toInt < ((n : Nat) : Int))))]) rfl ?_
      refine x_ifP_eq (P := 0 ≤ v.toInt ∧ v.toInt < ((n : Nat) : Int)) inferInstance (tgt := 27) dX8_isValue_15 (by decide) (fun hv4 => ?_) (fun hv4 => ?_)
      · refine x_iconst (v := nI 0) dX8_isValue_27 (by decide) ?_
        exact x_zret ⟨Nat.le_refl _, Nat.le_refl _⟩ rfl (by decide) dX8_isValue_28 ⟨by rw [bI_0 (by omega)], rfl⟩
      · refine x_iload_n dX8_isValue_18 rfl ?_
        refine x_iload_n dX8_isValue_19 rfl ?_
        refine x_icmpT_eq (p := v.toInt) (q := x.toInt) (tgt := 27) rfl rfl dX8_isValue_20 (by decide) (fun hv5 => ?_) (fun hv5 => ?_)
        · refine x_iconst (v := nI 0) dX8_isValue_27 (by decide) ?_
          exact x_zret ⟨Nat.le_refl _, Nat.le_refl _⟩ rfl (by decide) dX8_isValue_28 ⟨by rw [bI_0 (by omega)], rfl⟩
        · refine x_iconst (v := nI 1) dX8_isValue_23 (by decide) ?_
          refine x_goto (tgt := 28) dX8_isValue_24 (by decide) ?_
          exact x_zret ⟨Nat.le_refl _, Nat.le_refl _⟩ rfl (by decide) dX8_isValue_28 ⟨by rw [bI_1 (by omega)], rfl⟩
set_option maxHeartbeats 4000000 in
theorem r_set0 {σ0 σ : ZS} {a : Nat → Int32} {tw : Int64} {b : Nat → List Int32} {rr n : Nat} {K N : List Nat} {W : List Int32} {D : List Nat} (hR : RM σ0 σ a tw b) (hC : RC a b rr n K N W D (-1)) {dn : Nat} (c8 : a 8 = nI dn) {x v : Int32} (hv : 0 ≤ v.toInt ∧ v.toInt ≤ 1) : Cn 5 M_X8_set 0 0 [.ref 1000, .int (nI 0), .int x, .int v] σ (fun r9 σ' => r9 = some (.int (nI rr)) ∧ RM σ0 σ' (up a 7 v) tw b) := by
  obtain ⟨c7, hrr, c13, hn7, c14, cK, cN, cW, cD, hN7, hW7, hD49, hK5, hN9, hD999⟩ := id hC
  refine Cn.intro (lv0 := [some (.ref 1000), some (.int (nI 0)), some (.int x), some (.int v), none]) rfl (Nat.le_of_ble_eq_true rfl) rfl (fun d hd => ?_)
  refine x_iload_n dX8_set_0 rfl ?_
  refine x_i2l dX8_set_1 ?_
  refine x_lconst (v := 0) dX8_set_2 (by decide) ?_
  refine x_ldc2 (v := (3)) cl_X8_97 dX8_set_3 ?_
  refine x_callS m_X8_in l_X8_85 (r_in (p := ((0 : Nat) : Int)) (q := 0) (r := (3)) (tL (nI_toInt (by omega))) (by decide) (by decide)) (by omega) rfl rfl (Nat.le_of_ble_eq_true rfl) ⟨Nat.le_refl _, Nat.le_refl _⟩ dX8_set_6 (fun r1 s1 q1 => ?_)
  obtain ⟨rfl, eq1⟩ := q1
  obtain rfl := eq1.symm
  refine x_stk (st' := [.int (bI (decide (0 ≤ ((0 : Nat) : Int) ∧ ((0 : Nat) : Int) ≤ (3))))]) rfl ?_
  refine x_ifP_eq (P := 0 ≤ ((0 : Nat) : Int) ∧ ((0 : Nat) : Int) ≤ (3)) inferInstance (tgt := 35) dX8_set_9 (by decide) (fun hv2 => ?_) (fun hv2 => ?_)
  · exact absurd (by omega) hv2
  · refine x_iload_n dX8_set_12 rfl ?_
    refine x_iconst (v := nI 1) dX8_set_13 (by decide) ?_
    refine x_icmpN_le (tgt := 25) dX8_set_14 (by decide) (by omega) (by omega) (fun hv3 => ?_) (fun hv3 => ?_)
    · refine x_aload_n dX8_set_25 rfl ?_
      refine x_iload_n dX8_set_26 rfl ?_
      refine x_iload_n dX8_set_27 rfl ?_
      refine x_iload_n dX8_set_28 rfl ?_
      refine x_callV m_X8_isValue l_X8_99 (r_isValue0 hR hC) rfl hR.2.1 (by omega) rfl rfl (Nat.le_of_ble_eq_true rfl) ⟨Nat.le_refl _, Nat.le_refl _⟩ dX8_set_29 (fun r4 s4 q4 => ?_)
      obtain ⟨rfl, eq4⟩ := q4
      obtain rfl := eq4.symm
      refine x_stk (st' := [.int (bI (decide (0 ≤ v.toInt ∧ v.toInt ≤ 1)))]) rfl ?_
      refine x_ifP_ne (P := 0 ≤ v.toInt ∧ v.toInt ≤ 1) inferInstance (tgt := 38) dX8_set_32 (by decide) (fun hv5 => ?_) (fun hv5 => ?_)
      · refine x_aload_n dX8_set_38 rfl ?_
        refine x_iload_n dX8_set_39 rfl ?_
        refine x_iload_n dX8_set_40 rfl ?_
        refine x_callV m_X8_told l_X8_103 (r_told0 hR hC c8) rfl hR.2.1 (by omega) rfl rfl (Nat.le_of_ble_eq_true rfl) ⟨Nat.le_refl _, Nat.le_refl _⟩ dX8_set_41 (fun r6 s6 q6 => ?_)
        obtain ⟨rfl, eq6⟩ := q6
        obtain rfl := eq6.symm
        refine x_stk (st' := [.int (nI rr)]) rfl ?_
        refine x_istore dX8_set_44 (by decide) rfl ?_
        refine x_lv (lv' := [some (.ref 1000), some (.int (nI 0)), some (.int x), some (.int v), some (.int (nI rr))]) rfl ?_
        refine x_aload_n dX8_set_46 rfl ?_
        refine x_iload_n dX8_set_47 rfl ?_
        refine x_iload_n dX8_set_48 rfl ?_
        refine x_iload_n dX8_set_49 rfl ?_
        refine x_callV m_X8_lays l_X8_107 (r_lays0 hR ) rfl hR.2.1 (by omega) rfl rfl (Nat.le_of_ble_eq_true rfl) ⟨Nat.le_refl _, Nat.le_refl _⟩ dX8_set_50 (fun r7 s7 q7 => ?_)
        obtain ⟨rfl, R7⟩ := q7
        refine x_stk (st' := []) rfl ?_
        refine x_iload dX8_set_53 rfl ?_
        exact x_iret ⟨Nat.le_refl _, Nat.le_refl _⟩ rfl dX8_set_55 ⟨rfl, R7⟩
      · exact absurd hv hv5
    · exact absurd hv3 (by decide)
set_option maxHeartbeats 4000000 in
theorem r_set0_b {σ0 σ : ZS} {a : Nat → Int32} {tw : Int64} {b : Nat → List Int32} {rr n : Nat} {K N : List Nat} {W : List Int32} {D : List Nat} (hR : RM σ0 σ a tw b) (hC : RC a b rr n K N W D (-1)) {x v : Int32} (hv : ¬ (0 ≤ v.toInt ∧ v.toInt ≤ 1)) : Cn 5 M_X8_set 0 0 [.ref 1000, .int (nI 0), .int x, .int v] σ (fun r9 σ' => r9 = some (.int (-2)) ∧ σ' = σ) := by
  obtain ⟨c7, hrr, c13, hn7, c14, cK, cN, cW, cD, hN7, hW7, hD49, hK5, hN9, hD999⟩ := id hC
  refine Cn.intro (lv0 := [some (.ref 1000), some (.int (nI 0)), some (.int x), some (.int v), none]) rfl (Nat.le_of_ble_eq_true rfl) rfl (fun d hd => ?_)
  refine x_iload_n dX8_set_0 rfl ?_
  refine x_i2l dX8_set_1 ?_
  refine x_lconst (v := 0) dX8_set_2 (by decide) ?_
  refine x_ldc2 (v := (3)) cl_X8_97 dX8_set_3 ?_
  refine x_callS m_X8_in l_X8_85 (r_in (p := ((0 : Nat) : Int)) (q := 0) (r := (3)) (tL (nI_toInt (by omega))) (by decide) (by decide)) (by omega) rfl rfl (Nat.le_of_ble_eq_true rfl) ⟨Nat.le_refl _, Nat.le_refl _⟩ dX8_set_6 (fun r1 s1 q1 => ?_)
  obtain ⟨rfl, eq1⟩ := q1
  obtain rfl := eq1.symm
  refine x_stk (st' := [.int (bI (decide (0 ≤ ((0 : Nat) : Int) ∧ ((0 : Nat) : Int) ≤ (3))))]) rfl ?_
  refine x_ifP_eq (P := 0 ≤ ((0 : Nat) : Int) ∧ ((0 : Nat) : Int) ≤ (3)) inferInstance (tgt := 35) dX8_set_9 (by decide) (fun hv2 => ?_) (fun hv2 => ?_)
  · refine x_bipush (v := (-2)) dX8_set_35 (by decide) ?_
    exact x_iret ⟨Nat.le_refl _, Nat.le_refl _⟩ rfl dX8_set_37 ⟨rfl, rfl⟩
  · refine x_iload_n dX8_set_12 rfl ?_
    refine x_iconst (v := nI 1) dX8_set_13 (by decide) ?_
    refine x_icmpN_le (tgt := 25) dX8_set_14 (by decide) (by omega) (by omega) (fun hv3 => ?_) (fun hv3 => ?_)
    · refine x_aload_n dX8_set_25 rfl ?_
      refine x_iload_n dX8_set_26 rfl ?_
      refine x_iload_n dX8_set_27 rfl ?_
      refine x_iload_n dX8_set_28 rfl ?_
      refine x_callV m_X8_isValue l_X8_99 (r_isValue0 hR hC) rfl hR.2.1 (by omega) rfl rfl (Nat.le_of_ble_eq_true rfl) ⟨Nat.le_refl _, Nat.le_refl _⟩ dX8_set_29 (fun r4 s4 q4 => ?_)
      obtain ⟨rfl, eq4⟩ := q4
      obtain rfl := eq4.symm
      refine x_stk (st' := [.int (bI (decide (0 ≤ v.toInt ∧ v.toInt ≤ 1)))]) rfl ?_
      refine x_ifP_ne (P := 0 ≤ v.toInt ∧ v.toInt ≤ 1) inferInstance (tgt := 38) dX8_set_32 (by decide) (fun hv5 => ?_) (fun hv5 => ?_)
      · exact absurd hv5 hv
      · refine x_bipush (v := (-2)) dX8_set_35 (by decide) ?_
        exact x_iret ⟨Nat.le_refl _, Nat.le_refl _⟩ rfl dX8_set_37 ⟨rfl, rfl⟩
    · exact absurd hv3 (by decide)
set_option maxHeartbeats 4000000 in
theorem r_set1 {σ0 σ : ZS} {a : Nat → Int32} {tw : Int64} {b : Nat → List Int32} {rr n : Nat} {K N : List Nat} {W : List Int32} {D : List Nat} (hR : RM σ0 σ a tw b) (hC : RC a b rr n K N W D (-1)) {dn : Nat} (c8 : a 8 = nI dn) {x v : Int32} (hv : 0 ≤ v.toInt ∧ v.toInt ≤ 999) : Cn 5 M_X8_set 0 0 [.ref 1000, .int (nI 1), .int x, .int v] σ (fun r9 σ' => r9 = some (.int (nI dn)) ∧ RM σ0 σ' (up a 8 v) tw b) := by
  obtain ⟨c7, hrr, c13, hn7, c14, cK, cN, cW, cD, hN7, hW7, hD49, hK5, hN9, hD999⟩ := id hC
  refine Cn.intro (lv0 := [some (.ref 1000), some (.int (nI 1)), some (.int x), some (.int v), none]) rfl (Nat.le_of_ble_eq_true rfl) rfl (fun d hd => ?_)
  refine x_iload_n dX8_set_0 rfl ?_
  refine x_i2l dX8_set_1 ?_
  refine x_lconst (v := 0) dX8_set_2 (by decide) ?_
  refine x_ldc2 (v := (3)) cl_X8_97 dX8_set_3 ?_
  refine x_callS m_X8_in l_X8_85 (r_in (p := ((1 : Nat) : Int)) (q := 0) (r := (3)) (tL (nI_toInt (by omega))) (by decide) (by decide)) (by omega) rfl rfl (Nat.le_of_ble_eq_true rfl) ⟨Nat.le_refl _, Nat.le_refl _⟩ dX8_set_6 (fun r1 s1 q1 => ?_)
  obtain ⟨rfl, eq1⟩ := q1
  obtain rfl := eq1.symm
  refine x_stk (st' := [.int (bI (decide (0 ≤ ((1 : Nat) : Int) ∧ ((1 : Nat) : Int) ≤ (3))))]) rfl ?_
  refine x_ifP_eq (P := 0 ≤ ((1 : Nat) : Int) ∧ ((1 : Nat) : Int) ≤ (3)) inferInstance (tgt := 35) dX8_set_9 (by decide) (fun hv2 => ?_) (fun hv2 => ?_)
  · exact absurd (by omega) hv2
  · refine x_iload_n dX8_set_12 rfl ?_
    refine x_iconst (v := nI 1) dX8_set_13 (by decide) ?_
    refine x_icmpN_le (tgt := 25) dX8_set_14 (by decide) (by omega) (by omega) (fun hv3 => ?_) (fun hv3 => ?_)
    · refine x_aload_n dX8_set_25 rfl ?_
      refine x_iload_n dX8_set_26 rfl ?_
      refine x_iload_n dX8_set_27 rfl ?_
      refine x_iload_n dX8_set_28 rfl ?_
      refine x_callV m_X8_isValue l_X8_99 (r_isValue1 hR hC) rfl hR.2.1 (by omega) rfl rfl (Nat.le_of_ble_eq_true rfl) ⟨Nat.le_refl _, Nat.le_refl _⟩ dX8_set_29 (fun r4 s4 q4 => ?_)
      obtain ⟨rfl, eq4⟩ := q4
      obtain rfl := eq4.symm
      refine x_stk (st' := [.int (bI (decide (0 ≤ v.toInt ∧ v.toInt ≤ 999)))]) rfl ?_
      refine x_ifP_ne (P := 0 ≤ v.toInt ∧ v.toInt ≤ 999) inferInstance (tgt := 38) dX8_set_32 (by decide) (fun hv5 => ?_) (fun hv5 => ?_)
      · refine x_aload_n dX8_set_38 rfl ?_
        refine x_iload_n dX8_set_39 rfl ?_
        refine x_iload_n dX8_set_40 rfl ?_
        refine x_callV m_X8_told l_X8_103 (r_told1 hR hC c8) rfl hR.2.1 (by omega) rfl rfl (Nat.le_of_ble_eq_true rfl) ⟨Nat.le_refl _, Nat.le_refl _⟩ dX8_set_41 (fun r6 s6 q6 => ?_)
        obtain ⟨rfl, eq6⟩ := q6
        obtain rfl := eq6.symm
        refine x_stk (st' := [.int (nI dn)]) rfl ?_
        refine x_istore dX8_set_44 (by decide) rfl ?_
        refine x_lv (lv' := [some (.ref 1000), some (.int (nI 1)), some (.int x), some (.int v), some (.int (nI dn))]) rfl ?_
        refine x_aload_n dX8_set_46 rfl ?_
        refine x_iload_n dX8_set_47 rfl ?_
        refine x_iload_n dX8_set_48 rfl ?_
        refine x_iload_n dX8_set_49 rfl ?_
        refine x_callV m_X8_lays l_X8_107 (r_lays1 hR ) rfl hR.2.1 (by omega) rfl rfl (Nat.le_of_ble_eq_true rfl) ⟨Nat.le_refl _, Nat.le_refl _⟩ dX8_set_50 (fun r7 s7 q7 => ?_)
        obtain ⟨rfl, R7⟩ := q7
        refine x_stk (st' := []) rfl ?_
        refine x_iload dX8_set_53 rfl ?_
        exact x_iret ⟨Nat.le_refl _, Nat.le_refl _⟩ rfl dX8_set_55 ⟨rfl, R7⟩
      · exact absurd hv hv5
    · exact absurd hv3 (by decide)
set_option maxHeartbeats 4000000 in
theorem r_set1_b {σ0 σ : ZS} {a : Nat → Int32} {tw : Int64} {b : Nat → List Int32} {rr n : Nat} {K N : List Nat} {W : List Int32} {D : List Nat} (hR : RM σ0 σ a tw b) (hC : RC a b rr n K N W D (-1)) {x v : Int32} (hv : ¬ (0 ≤ v.toInt ∧ v.toInt ≤ 999)) : Cn 5 M_X8_set 0 0 [.ref 1000, .int (nI 1), .int x, .int v] σ (fun r9 σ' => r9 = some (.int (-2)) ∧ σ' = σ) := by
  obtain ⟨c7, hrr, c13, hn7, c14, cK, cN, cW, cD, hN7, hW7, hD49, hK5, hN9, hD999⟩ := id hC
  refine Cn.intro (lv0 := [some (.ref 1000), some (.int (nI 1)), some (.int x), some (.int v), none]) rfl (Nat.le_of_ble_eq_true rfl) rfl (fun d hd => ?_)
  refine x_iload_n dX8_set_0 rfl ?_
  refine x_i2l dX8_set_1 ?_
  refine x_lconst (v := 0) dX8_set_2 (by decide) ?_
  refine x_ldc2 (v := (3)) cl_X8_97 dX8_set_3 ?_
  refine x_callS m_X8_in l_X8_85 (r_in (p := ((1 : Nat) : Int)) (q := 0) (r := (3)) (tL (nI_toInt (by omega))) (by decide) (by decide)) (by omega) rfl rfl (Nat.le_of_ble_eq_true rfl) ⟨Nat.le_refl _, Nat.le_refl _⟩ dX8_set_6 (fun r1 s1 q1 => ?_)
  obtain ⟨rfl, eq1⟩ := q1
  obtain rfl := eq1.symm
  refine x_stk (st' := [.int (bI (decide (0 ≤ ((1 : Nat) : Int) ∧ ((1 : Nat) : Int) ≤ (3))))]) rfl ?_
  refine x_ifP_eq (P := 0 ≤ ((1 : Nat) : Int) ∧ ((1 : Nat) : Int) ≤ (3)) inferInstance (tgt := 35) dX8_set_9 (by decide) (fun hv2 => ?_) (fun hv2 => ?_)
  · refine x_bipush (v := (-2)) dX8_set_35 (by decide) ?_
    exact x_iret ⟨Nat.le_refl _, Nat.le_refl _⟩ rfl dX8_set_37 ⟨rfl, rfl⟩
  · refine x_iload_n dX8_set_12 rfl ?_
    refine x_iconst (v := nI 1) dX8_set_13 (by decide) ?_
    refine x_icmpN_le (tgt := 25) dX8_set_14 (by decide) (by omega) (by omega) (fun hv3 => ?_) (fun hv3 => ?_)
    · refine x_aload_n dX8_set_25 rfl ?_
      refine x_iload_n dX8_set_26 rfl ?_
      refine x_iload_n dX8_set_27 rfl ?_
      refine x_iload_n dX8_set_28 rfl ?_
      refine x_callV m_X8_isValue l_X8_99 (r_isValue1 hR hC) rfl hR.2.1 (by omega) rfl rfl (Nat.le_of_ble_eq_true rfl) ⟨Nat.le_refl _, Nat.le_refl _⟩ dX8_set_29 (fun r4 s4 q4 => ?_)
      obtain ⟨rfl, eq4⟩ := q4
      obtain rfl := eq4.symm
      refine x_stk (st' := [.int (bI (decide (0 ≤ v.toInt ∧ v.toInt ≤ 999)))]) rfl ?_
      refine x_ifP_ne (P := 0 ≤ v.toInt ∧ v.toInt ≤ 999) inferInstance (tgt := 38) dX8_set_32 (by decide) (fun hv5 => ?_) (fun hv5 => ?_)
      · exact absurd hv5 hv
      · refine x_bipush (v := (-2)) dX8_set_35 (by decide) ?_
        exact x_iret ⟨Nat.le_refl _, Nat.le_refl _⟩ rfl dX8_set_37 ⟨rfl, rfl⟩
    · exact absurd hv3 (by decide)
set_option maxHeartbeats 4000000 in
theorem r_set2 {σ0 σ : ZS} {a : Nat → Int32} {tw : Int64} {b : Nat → List Int32} {rr n : Nat} {K N : List Nat} {W : List Int32} {D : List Nat} (hR : RM σ0 σ a tw b) (hC : RC a b rr n K N W D (-1)) {dn : Nat} (c8 : a 8 = nI dn) {o : Nat} (ho : o < n) {v : Int32} (hv : 0 ≤ v.toInt ∧ v.toInt ≤ 9) : Cn 5 M_X8_set 0 0 [.ref 1000, .int (nI 2), .int (nI o), .int v] σ (fun r9 σ' => r9 = some (.int (toldV rr dn n K N W D o 2)) ∧ RM σ0 σ' a tw (up b 4 ((b 4).set o v))) := by
  obtain ⟨c7, hrr, c13, hn7, c14, cK, cN, cW, cD, hN7, hW7, hD49, hK5, hN9, hD999⟩ := id hC
  refine Cn.intro (lv0 := [some (.ref 1000), some (.int (nI 2)), some (.int (nI o)), some (.int v), none]) rfl (Nat.le_of_ble_eq_true rfl) rfl (fun d hd => ?_)
  refine x_iload_n dX8_set_0 rfl ?_
  refine x_i2l dX8_set_1 ?_
  refine x_lconst (v := 0) dX8_set_2 (by decide) ?_
  refine x_ldc2 (v := (3)) cl_X8_97 dX8_set_3 ?_
  refine x_callS m_X8_in l_X8_85 (r_in (p := ((2 : Nat) : Int)) (q := 0) (r := (3)) (tL (nI_toInt (by omega))) (by decide) (by decide)) (by omega) rfl rfl (Nat.le_of_ble_eq_true rfl) ⟨Nat.le_refl _, Nat.le_refl _⟩ dX8_set_6 (fun r1 s1 q1 => ?_)
  obtain ⟨rfl, eq1⟩ := q1
  obtain rfl := eq1.symm
  refine x_stk (st' := [.int (bI (decide (0 ≤ ((2 : Nat) : Int) ∧ ((2 : Nat) : Int) ≤ (3))))]) rfl ?_
  refine x_ifP_eq (P := 0 ≤ ((2 : Nat) : Int) ∧ ((2 : Nat) : Int) ≤ (3)) inferInstance (tgt := 35) dX8_set_9 (by decide) (fun hv2 => ?_) (fun hv2 => ?_)
  · exact absurd (by omega) hv2
  · refine x_iload_n dX8_set_12 rfl ?_
    refine x_iconst (v := nI 1) dX8_set_13 (by decide) ?_
    refine x_icmpN_le (tgt := 25) dX8_set_14 (by decide) (by omega) (by omega) (fun hv3 => ?_) (fun hv3 => ?_)
    · exact absurd hv3 (by decide)
    · refine x_aload_n dX8_set_17 rfl ?_
      refine x_iload_n dX8_set_18 rfl ?_
      refine x_callV m_X8_isOne l_X8_89 (r_isOne hR hC (nI_toInt (by omega))) rfl hR.2.1 (by omega) rfl rfl (Nat.le_of_ble_eq_true rfl) ⟨Nat.le_refl _, Nat.le_refl _⟩ dX8_set_19 (fun r4 s4 q4 => ?_)
      obtain ⟨rfl, eq4⟩ := q4
      obtain rfl := eq4.symm
      refine x_stk (st' := [.int (bI (decide (0 ≤ ((o : Nat) : Int) ∧ ((o : Nat) : Int) < ((n : Nat) : Int))))]) rfl ?_
      refine x_ifP_eq (P := 0 ≤ ((o : Nat) : Int) ∧ ((o : Nat) : Int) < ((n : Nat) : Int)) inferInstance (tgt := 35) dX8_set_22 (by decide) (fun hv5 => ?_) (fun hv5 => ?_)
      · exact absurd (by omega) hv5
      · refine x_aload_n dX8_set_25 rfl ?_
        refine x_iload_n dX8_set_26 rfl ?_
        refine x_iload_n dX8_set_27 rfl ?_
        refine x_iload_n dX8_set_28 rfl ?_
        refine x_callV m_X8_isValue l_X8_99 ((r_isValue2 hR hC (x := nI o)).mono (fun r9 σ' h => (⟨by rw [h.1], h.2⟩ : r9 = some (.int (bI (decide (0 ≤ v.toInt ∧ v.toInt ≤ 9)))) ∧ σ' = σ))) rfl hR.2.1 (by omega) rfl rfl (Nat.le_of_ble_eq_true rfl) ⟨Nat.le_refl _, Nat.le_refl _⟩ dX8_set_29 (fun r6 s6 q6 => ?_)
        obtain ⟨rfl, eq6⟩ := q6
        obtain rfl := eq6.symm
        refine x_stk (st' := [.int (bI (decide (0 ≤ v.toInt ∧ v.toInt ≤ 9)))]) rfl ?_
        refine x_ifP_ne (P := 0 ≤ v.toInt ∧ v.toInt ≤ 9) inferInstance (tgt := 38) dX8_set_32 (by decide) (fun hv7 => ?_) (fun hv7 => ?_)
        · refine x_aload_n dX8_set_38 rfl ?_
          refine x_iload_n dX8_set_39 rfl ?_
          refine x_iload_n dX8_set_40 rfl ?_
          refine x_callV m_X8_told l_X8_103 (r_told2 hR hC c8 (o := o) ho) rfl hR.2.1 (by omega) rfl rfl (Nat.le_of_ble_eq_true rfl) ⟨Nat.le_refl _, Nat.le_refl _⟩ dX8_set_41 (fun r8 s8 q8 => ?_)
          obtain ⟨rfl, eq8⟩ := q8
          obtain rfl := eq8.symm
          refine x_stk (st' := [.int ((toldV rr dn n K N W D o 2))]) rfl ?_
          refine x_istore dX8_set_44 (by decide) rfl ?_
          refine x_lv (lv' := [some (.ref 1000), some (.int (nI 2)), some (.int (nI o)), some (.int v), some (.int ((toldV rr dn n K N W D o 2)))]) rfl ?_
          refine x_aload_n dX8_set_46 rfl ?_
          refine x_iload_n dX8_set_47 rfl ?_
          refine x_iload_n dX8_set_48 rfl ?_
          refine x_iload_n dX8_set_49 rfl ?_
          refine x_callV m_X8_lays l_X8_107 (r_lays2 hR (by omega)) rfl hR.2.1 (by omega) rfl rfl (Nat.le_of_ble_eq_true rfl) ⟨Nat.le_refl _, Nat.le_refl _⟩ dX8_set_50 (fun r9 s9 q9 => ?_)
          obtain ⟨rfl, R9⟩ := q9
          refine x_stk (st' := []) rfl ?_
          refine x_iload dX8_set_53 rfl ?_
          exact x_iret ⟨Nat.le_refl _, Nat.le_refl _⟩ rfl dX8_set_55 ⟨rfl, R9⟩
        · exact absurd hv hv7
set_option maxHeartbeats 4000000 in
theorem r_set2_b {σ0 σ : ZS} {a : Nat → Int32} {tw : Int64} {b : Nat → List Int32} {rr n : Nat} {K N : List Nat} {W : List Int32} {D : List Nat} (hR : RM σ0 σ a tw b) (hC : RC a b rr n K N W D (-1)) {x v : Int32} (hv : ¬ (0 ≤ x.toInt ∧ x.toInt < (n : Int)) ∨ ¬ (0 ≤ v.toInt ∧ v.toInt ≤ 9)) : Cn 5 M_X8_set 0 0 [.ref 1000, .int (nI 2), .int x, .int v] σ (fun r9 σ' => r9 = some (.int (-2)) ∧ σ' = σ) := by
  obtain ⟨c7, hrr, c13, hn7, c14, cK, cN, cW, cD, hN7, hW7, hD49, hK5, hN9, hD999⟩ := id hC
  refine Cn.intro (lv0 := [some (.ref 1000), some (.int (nI 2)), some (.int x), some (.int v), none]) rfl (Nat.le_of_ble_eq_true rfl) rfl (fun d hd => ?_)
  refine x_iload_n dX8_set_0 rfl ?_
  refine x_i2l dX8_set_1 ?_
  refine x_lconst (v := 0) dX8_set_2 (by decide) ?_
  refine x_ldc2 (v := (3)) cl_X8_97 dX8_set_3 ?_
  refine x_callS m_X8_in l_X8_85 (r_in (p := ((2 : Nat) : Int)) (q := 0) (r := (3)) (tL (nI_toInt (by omega))) (by decide) (by decide)) (by omega) rfl rfl (Nat.le_of_ble_eq_true rfl) ⟨Nat.le_refl _, Nat.le_refl _⟩ dX8_set_6 (fun r1 s1 q1 => ?_)
  obtain ⟨rfl, eq1⟩ := q1
  obtain rfl := eq1.symm
  refine x_stk (st' := [.int (bI (decide (0 ≤ ((2 : Nat) : Int) ∧ ((2 : Nat) : Int) ≤ (3))))]) rfl ?_
  refine x_ifP_eq (P := 0 ≤ ((2 : Nat) : Int) ∧ ((2 : Nat) : Int) ≤ (3)) inferInstance (tgt := 35) dX8_set_9 (by decide) (fun hv2 => ?_) (fun hv2 => ?_)
  · refine x_bipush (v := (-2)) dX8_set_35 (by decide) ?_
    exact x_iret ⟨Nat.le_refl _, Nat.le_refl _⟩ rfl dX8_set_37 ⟨rfl, rfl⟩
  · refine x_iload_n dX8_set_12 rfl ?_
    refine x_iconst (v := nI 1) dX8_set_13 (by decide) ?_
    refine x_icmpN_le (tgt := 25) dX8_set_14 (by decide) (by omega) (by omega) (fun hv3 => ?_) (fun hv3 => ?_)
    · exact absurd hv3 (by decide)
    · refine x_aload_n dX8_set_17 rfl ?_
      refine x_iload_n dX8_set_18 rfl ?_
      refine x_callV m_X8_isOne l_X8_89 (r_isOne hR hC rfl) rfl hR.2.1 (by omega) rfl rfl (Nat.le_of_ble_eq_true rfl) ⟨Nat.le_refl _, Nat.le_refl _⟩ dX8_set_19 (fun r4 s4 q4 => ?_)
      obtain ⟨rfl, eq4⟩ := q4
      obtain rfl := eq4.symm
      refine x_stk (st' := [.int (bI (decide (0 ≤ x.toInt ∧ x.toInt < ((n : Nat) : Int))))]) rfl ?_
      refine x_ifP_eq (P := 0 ≤ x.toInt ∧ x.toInt < ((n : Nat) : Int)) inferInstance (tgt := 35) dX8_set_22 (by decide) (fun hv5 => ?_) (fun hv5 => ?_)
      · refine x_bipush (v := (-2)) dX8_set_35 (by decide) ?_
        exact x_iret ⟨Nat.le_refl _, Nat.le_refl _⟩ rfl dX8_set_37 ⟨rfl, rfl⟩
      · refine x_aload_n dX8_set_25 rfl ?_
        refine x_iload_n dX8_set_26 rfl ?_
        refine x_iload_n dX8_set_27 rfl ?_
        refine x_iload_n dX8_set_28 rfl ?_
        refine x_callV m_X8_isValue l_X8_99 (r_isValue2 hR hC) rfl hR.2.1 (by omega) rfl rfl (Nat.le_of_ble_eq_true rfl) ⟨Nat.le_refl _, Nat.le_refl _⟩ dX8_set_29 (fun r6 s6 q6 => ?_)
        obtain ⟨rfl, eq6⟩ := q6
        obtain rfl := eq6.symm
        refine x_stk (st' := [.int (bI (decide (0 ≤ v.toInt ∧ v.toInt ≤ 9)))]) rfl ?_
        refine x_ifP_ne (P := 0 ≤ v.toInt ∧ v.toInt ≤ 9) inferInstance (tgt := 38) dX8_set_32 (by decide) (fun hv7 => ?_) (fun hv7 => ?_)
        · exfalso; omega
        · refine x_bipush (v := (-2)) dX8_set_35 (by decide) ?_
          exact x_iret ⟨Nat.le_refl _, Nat.le_refl _⟩ rfl dX8_set_37 ⟨rfl, rfl⟩
set_option maxHeartbeats 4000000 in
theorem r_set3 {σ0 σ : ZS} {a : Nat → Int32} {tw : Int64} {b : Nat → List Int32} {rr n : Nat} {K N : List Nat} {W : List Int32} {D : List Nat} (hR : RM σ0 σ a tw b) (hC : RC a b rr n K N W D (-1)) {dn : Nat} (c8 : a 8 = nI dn) {o : Nat} (ho : o < n) {v : Int32} (hv : v.toInt = -1 ∨ ((0 ≤ v.toInt ∧ v.toInt < (n : Int)) ∧ ¬ v.toInt = ((o : Nat) : Int))) : Cn 5 M_X8_set 0 0 [.ref 1000, .int (nI 3), .int (nI o), .int v] σ (fun r9 σ' => r9 = some (.int (toldV rr dn n K N W D o 3)) ∧ RM σ0 σ' a tw (up b 5 ((b 5).set o v))) := by
  obtain ⟨c7, hrr, c13, hn7, c14, cK, cN, cW, cD, hN7, hW7, hD49, hK5, hN9, hD999⟩ := id hC
  refine Cn.intro (lv0 := [some (.ref 1000), some (.int (nI 3)), some (.int (nI o)), some (.int v), none]) rfl (Nat.le_of_ble_eq_true rfl) rfl (fun d hd => ?_)
  refine x_iload_n dX8_set_0 rfl ?_
  refine x_i2l dX8_set_1 ?_
  refine x_lconst (v := 0) dX8_set_2 (by decide) ?_
  refine x_ldc2 (v := (3)) cl_X8_97 dX8_set_3 ?_
  refine x_callS m_X8_in l_X8_85 (r_in (p := ((3 : Nat) : Int)) (q := 0) (r := (3)) (tL (nI_toInt (by omega))) (by decide) (by decide)) (by omega) rfl rfl (Nat.le_of_ble_eq_true rfl) ⟨Nat.le_refl _, Nat.le_refl _⟩ dX8_set_6 (fun r1 s1 q1 => ?_)
  obtain ⟨rfl, eq1⟩ := q1
  obtain rfl := eq1.symm
  refine x_stk (st' := [.int (bI (decide (0 ≤ ((3 : Nat) : Int) ∧ ((3 : Nat) : Int) ≤ (3))))]) rfl ?_
  refine x_ifP_eq (P := 0 ≤ ((3 : Nat) : Int) ∧ ((3 : Nat) : Int) ≤ (3)) inferInstance (tgt := 35) dX8_set_9 (by decide) (fun hv2 => ?_) (fun hv2 => ?_)
  · exact absurd (by omega) hv2
  · refine x_iload_n dX8_set_12 rfl ?_
    refine x_iconst (v := nI 1) dX8_set_13 (by decide) ?_
    refine x_icmpN_le (tgt := 25) dX8_set_14 (by decide) (by omega) (by omega) (fun hv3 => ?_) (fun hv3 => ?_)
    · exact absurd hv3 (by decide)
    · refine x_aload_n dX8_set_17 rfl ?_
      refine x_iload_n dX8_set_18 rfl ?_
      refine x_callV m_X8_isOne l_X8_89 (r_isOne hR hC (nI_toInt (by omega))) rfl hR.2.1 (by omega) rfl rfl (Nat.le_of_ble_eq_true rfl) ⟨Nat.le_refl _, Nat.le_refl _⟩ dX8_set_19 (fun r4 s4 q4 => ?_)
      obtain ⟨rfl, eq4⟩ := q4
      obtain rfl := eq4.symm
      refine x_stk (st' := [.int (bI (decide (0 ≤ ((o : Nat) : Int) ∧ ((o : Nat) : Int) < ((n : Nat) : Int))))]) rfl ?_
      refine x_ifP_eq (P := 0 ≤ ((o : Nat) : Int) ∧ ((o : Nat) : Int) < ((n : Nat) : Int)) inferInstance (tgt := 35) dX8_set_22 (by decide) (fun hv5 => ?_) (fun hv5 => ?_)
      · exact absurd (by omega) hv5
      · refine x_aload_n dX8_set_25 rfl ?_
        refine x_iload_n dX8_set_26 rfl ?_
        refine x_iload_n dX8_set_27 rfl ?_
        refine x_iload_n dX8_set_28 rfl ?_
        refine x_callV m_X8_isValue l_X8_99 ((r_isValue3 hR hC (x := nI o)).mono (fun r9 σ' h => (⟨by rw [h.1]; congr 3; rw [decide_eq_decide, tI_nI (by omega)], h.2⟩ : r9 = some (.int (bI (decide (v.toInt = -1 ∨ ((0 ≤ v.toInt ∧ v.toInt < (n : Int)) ∧ ¬ v.toInt = ((o : Nat) : Int)))))) ∧ σ' = σ))) rfl hR.2.1 (by omega) rfl rfl (Nat.le_of_ble_eq_true rfl) ⟨Nat.le_refl _, Nat.le_refl _⟩ dX8_set_29 (fun r6 s6 q6 => ?_)
        obtain ⟨rfl, eq6⟩ := q6
        obtain rfl := eq6.symm
        refine x_stk (st' := [.int (bI (decide (v.toInt = -1 ∨ ((0 ≤ v.toInt ∧ v.toInt < (n : Int)) ∧ ¬ v.toInt = ((o : Nat) : Int)))))]) rfl ?_
        refine x_ifP_ne (P := v.toInt = -1 ∨ ((0 ≤ v.toInt ∧ v.toInt < (n : Int)) ∧ ¬ v.toInt = ((o : Nat) : Int))) inferInstance (tgt := 38) dX8_set_32 (by decide) (fun hv7 => ?_) (fun hv7 => ?_)
        · refine x_aload_n dX8_set_38 rfl ?_
          refine x_iload_n dX8_set_39 rfl ?_
          refine x_iload_n dX8_set_40 rfl ?_
          refine x_callV m_X8_told l_X8_103 (r_told3 hR hC c8 (o := o) ho) rfl hR.2.1 (by omega) rfl rfl (Nat.le_of_ble_eq_true rfl) ⟨Nat.le_refl _, Nat.le_refl _⟩ dX8_set_41 (fun r8 s8 q8 => ?_)
          obtain ⟨rfl, eq8⟩ := q8
          obtain rfl := eq8.symm
          refine x_stk (st' := [.int ((toldV rr dn n K N W D o 3))]) rfl ?_
          refine x_istore dX8_set_44 (by decide) rfl ?_
          refine x_lv (lv' := [some (.ref 1000), some (.int (nI 3)), some (.int (nI o)), some (.int v), some (.int ((toldV rr dn n K N W D o 3)))]) rfl ?_
          refine x_aload_n dX8_set_46 rfl ?_
          refine x_iload_n dX8_set_47 rfl ?_
          refine x_iload_n dX8_set_48 rfl ?_
          refine x_iload_n dX8_set_49 rfl ?_
          refine x_callV m_X8_lays l_X8_107 (r_lays3 hR (by omega)) rfl hR.2.1 (by omega) rfl rfl (Nat.le_of_ble_eq_true rfl) ⟨Nat.le_refl _, Nat.le_refl _⟩ dX8_set_50 (fun r9 s9 q9 => ?_)
          obtain ⟨rfl, R9⟩ := q9
          refine x_stk (st' := []) rfl ?_
          refine x_iload dX8_set_53 rfl ?_
          exact x_iret ⟨Nat.le_refl _, Nat.le_refl _⟩ rfl dX8_set_55 ⟨rfl, R9⟩
        · exact absurd hv hv7
set_option maxHeartbeats 4000000 in
theorem r_set3_b {σ0 σ : ZS} {a : Nat → Int32} {tw : Int64} {b : Nat → List Int32} {rr n : Nat} {K N : List Nat} {W : List Int32} {D : List Nat} (hR : RM σ0 σ a tw b) (hC : RC a b rr n K N W D (-1)) {x v : Int32} (hv : ¬ (0 ≤ x.toInt ∧ x.toInt < (n : Int)) ∨ ¬ (v.toInt = -1 ∨ ((0 ≤ v.toInt ∧ v.toInt < (n : Int)) ∧ ¬ v.toInt = x.toInt))) : Cn 5 M_X8_set 0 0 [.ref 1000, .int (nI 3), .int x, .int v] σ (fun r9 σ' => r9 = some (.int (-2)) ∧ σ' = σ) := by
  obtain ⟨c7, hrr, c13, hn7, c14, cK, cN, cW, cD, hN7, hW7, hD49, hK5, hN9, hD999⟩ := id hC
  refine Cn.intro (lv0 := [some (.ref 1000), some (.int (nI 3)), some (.int x), some (.int v), none]) rfl (Nat.le_of_ble_eq_true rfl) rfl (fun d hd => ?_)
  refine x_iload_n dX8_set_0 rfl ?_
  refine x_i2l dX8_set_1 ?_
  refine x_lconst (v := 0) dX8_set_2 (by decide) ?_
  refine x_ldc2 (v := (3)) cl_X8_97 dX8_set_3 ?_
  refine x_callS m_X8_in l_X8_85 (r_in (p := ((3 : Nat) : Int)) (q := 0) (r := (3)) (tL (nI_toInt (by omega))) (by decide) (by decide)) (by omega) rfl rfl (Nat.le_of_ble_eq_true rfl) ⟨Nat.le_refl _, Nat.le_refl _⟩ dX8_set_6 (fun r1 s1 q1 => ?_)
  obtain ⟨rfl, eq1⟩ := q1
  obtain rfl := eq1.symm
  refine x_stk (st' := [.int (bI (decide (0 ≤ ((3 : Nat) : Int) ∧ ((3 : Nat) : Int) ≤ (3))))]) rfl ?_
  refine x_ifP_eq (P := 0 ≤ ((3 : Nat) : Int) ∧ ((3 : Nat) : Int) ≤ (3)) inferInstance (tgt := 35) dX8_set_9 (by decide) (fun hv2 => ?_) (fun hv2 => ?_)
  · refine x_bipush (v := (-2)) dX8_set_35 (by decide) ?_
    exact x_iret ⟨Nat.le_refl _, Nat.le_refl _⟩ rfl dX8_set_37 ⟨rfl, rfl⟩
  · refine x_iload_n dX8_set_12 rfl ?_
    refine x_iconst (v := nI 1) dX8_set_13 (by decide) ?_
    refine x_icmpN_le (tgt := 25) dX8_set_14 (by decide) (by omega) (by omega) (fun hv3 => ?_) (fun hv3 => ?_)
    · exact absurd hv3 (by decide)
    · refine x_aload_n dX8_set_17 rfl ?_
      refine x_iload_n dX8_set_18 rfl ?_
      refine x_callV m_X8_isOne l_X8_89 (r_isOne hR hC rfl) rfl hR.2.1 (by omega) rfl rfl (Nat.le_of_ble_eq_true rfl) ⟨Nat.le_refl _, Nat.le_refl _⟩ dX8_set_19 (fun r4 s4 q4 => ?_)
      obtain ⟨rfl, eq4⟩ := q4
      obtain rfl := eq4.symm
      refine x_stk (st' := [.int (bI (decide (0 ≤ x.toInt ∧ x.toInt < ((n : Nat) : Int))))]) rfl ?_
      refine x_ifP_eq (P := 0 ≤ x.toInt ∧ x.toInt < ((n : Nat) : Int)) inferInstance (tgt := 35) dX8_set_22 (by decide) (fun hv5 => ?_) (fun hv5 => ?_)
      · refine x_bipush (v := (-2)) dX8_set_35 (by decide) ?_
        exact x_iret ⟨Nat.le_refl _, Nat.le_refl _⟩ rfl dX8_set_37 ⟨rfl, rfl⟩
      · refine x_aload_n dX8_set_25 rfl ?_
        refine x_iload_n dX8_set_26 rfl ?_
        refine x_iload_n dX8_set_27 rfl ?_
        refine x_iload_n dX8_set_28 rfl ?_
        refine x_callV m_X8_isValue l_X8_99 (r_isValue3 hR hC) rfl hR.2.1 (by omega) rfl rfl (Nat.le_of_ble_eq_true rfl) ⟨Nat.le_refl _, Nat.le_refl _⟩ dX8_set_29 (fun r6 s6 q6 => ?_)
        obtain ⟨rfl, eq6⟩ := q6
        obtain rfl := eq6.symm
        refine x_stk (st' := [.int (bI (decide (v.toInt = -1 ∨ ((0 ≤ v.toInt ∧ v.toInt < (n : Int)) ∧ ¬ v.toInt = x.toInt))))]) rfl ?_
        refine x_ifP_ne (P := v.toInt = -1 ∨ ((0 ≤ v.toInt ∧ v.toInt < (n : Int)) ∧ ¬ v.toInt = x.toInt)) inferInstance (tgt := 38) dX8_set_32 (by decide) (fun hv7 => ?_) (fun hv7 => ?_)
        · exfalso; omega
        · refine x_bipush (v := (-2)) dX8_set_35 (by decide) ?_
          exact x_iret ⟨Nat.le_refl _, Nat.le_refl _⟩ rfl dX8_set_37 ⟨rfl, rfl⟩
set_option maxHeartbeats 4000000 in
theorem r_set_b {σ0 σ : ZS} {a : Nat → Int32} {tw : Int64} {b : Nat → List Int32} {rr n : Nat} {K N : List Nat} {W : List Int32} {D : List Nat} (hR : RM σ0 σ a tw b) (hC : RC a b rr n K N W D (-1)) {w x v : Int32} (hw : ¬ (0 ≤ w.toInt ∧ w.toInt ≤ 3)) : Cn 5 M_X8_set 0 0 [.ref 1000, .int w, .int x, .int v] σ (fun r9 σ' => r9 = some (.int (-2)) ∧ σ' = σ) := by
  obtain ⟨c7, hrr, c13, hn7, c14, cK, cN, cW, cD, hN7, hW7, hD49, hK5, hN9, hD999⟩ := id hC
  refine Cn.intro (lv0 := [some (.ref 1000), some (.int w), some (.int x), some (.int v), none]) rfl (Nat.le_of_ble_eq_true rfl) rfl (fun d hd => ?_)
  refine x_iload_n dX8_set_0 rfl ?_
  refine x_i2l dX8_set_1 ?_
  refine x_lconst (v := 0) dX8_set_2 (by decide) ?_
  refine x_ldc2 (v := (3)) cl_X8_97 dX8_set_3 ?_
  refine x_callS m_X8_in l_X8_85 (r_in (p := w.toInt) (q := 0) (r := (3)) (tL rfl) (by decide) (by decide)) (by omega) rfl rfl (Nat.le_of_ble_eq_true rfl) ⟨Nat.le_refl _, Nat.le_refl _⟩ dX8_set_6 (fun r1 s1 q1 => ?_)
  obtain ⟨rfl, eq1⟩ := q1
  obtain rfl := eq1.symm
  refine x_stk (st' := [.int (bI (decide (0 ≤ w.toInt ∧ w.toInt ≤ (3))))]) rfl ?_
  refine x_ifP_eq (P := 0 ≤ w.toInt ∧ w.toInt ≤ (3)) inferInstance (tgt := 35) dX8_set_9 (by decide) (fun hv2 => ?_) (fun hv2 => ?_)
  · refine x_bipush (v := (-2)) dX8_set_35 (by decide) ?_
    exact x_iret ⟨Nat.le_refl _, Nat.le_refl _⟩ rfl dX8_set_37 ⟨rfl, rfl⟩
  · exact absurd hv2 hw
set_option maxHeartbeats 4000000 in
theorem r_owe {σ0 σ : ZS} {a : Nat → Int32} {tw : Int64} {b : Nat → List Int32} {rr n : Nat} {K N : List Nat} {W : List Int32} {D : List Nat} (hR : RM σ0 σ a tw b) (hC : RC a b rr n K N W D (-1)) {one other : Nat} (h1 : one < n) (h2 : other < n) (h12 : one ≠ other) {v : Nat} (hv : v ≤ 999) : Cn 3 M_X8_owe 0 0 [.ref 1000, .int (nI one), .int (nI other), .int (nI v)] σ (fun r9 σ' => r9 = some (.int (nI (D.getD (one * 7 + other) 0))) ∧ ∃ b' : Nat → List Int32, RM σ0 σ' a tw b' ∧ Fb 6 b b' ∧ b' 6 = (D.set (one * 7 + other) v).map nI) := by
  obtain ⟨c7, hrr, c13, hn7, c14, cK, cN, cW, cD, hN7, hW7, hD49, hK5, hN9, hD999⟩ := id hC
  refine Cn.intro (lv0 := [some (.ref 1000), some (.int (nI one)), some (.int (nI other)), some (.int (nI v)), none]) rfl (Nat.le_of_ble_eq_true rfl) rfl (fun d hd => ?_)
  refine x_aload_n dX8_owe_0 rfl ?_
  refine x_iload_n dX8_owe_1 rfl ?_
  refine x_iload_n dX8_owe_2 rfl ?_
  refine x_callV m_X8_areTwo l_X8_116 (r_areTwo hR hC (nI_toInt (by omega)) (nI_toInt (by omega))) rfl hR.2.1 (by omega) rfl rfl (Nat.le_of_ble_eq_true rfl) ⟨Nat.le_refl _, Nat.le_refl _⟩ dX8_owe_3 (fun r1 s1 q1 => ?_)
  obtain ⟨rfl, eq1⟩ := q1
  obtain rfl := eq1.symm
  refine x_stk (st' := [.int (bI (decide ((0 ≤ ((one : Nat) : Int) ∧ ((one : Nat) : Int) < ((n : Nat) : Int)) ∧ (0 ≤ ((other : Nat) : Int) ∧ ((other : Nat) : Int) < ((n : Nat) : Int)) ∧ ¬ ((one : Nat) : Int) = ((other : Nat) : Int))))]) rfl ?_
  refine x_ifP_eq (P := (0 ≤ ((one : Nat) : Int) ∧ ((one : Nat) : Int) < ((n : Nat) : Int)) ∧ (0 ≤ ((other : Nat) : Int) ∧ ((other : Nat) : Int) < ((n : Nat) : Int)) ∧ ¬ ((one : Nat) : Int) = ((other : Nat) : Int)) inferInstance (tgt := 21) dX8_owe_6 (by decide) (fun hv2 => ?_) (fun hv2 => ?_)
  · exact absurd (show _ ∧ _ ∧ _ from ⟨⟨by omega, by omega⟩, ⟨by omega, by omega⟩, by omega⟩) hv2
  · refine x_iload_n dX8_owe_9 rfl ?_
    refine x_i2l dX8_owe_10 ?_
    refine x_lconst (v := 0) dX8_owe_11 (by decide) ?_
    refine x_ldc2 (v := (999)) cl_X8_93 dX8_owe_12 ?_
    refine x_callS m_X8_in l_X8_85 (r_in (p := ((v : Nat) : Int)) (q := 0) (r := (999)) (tL (nI_toInt (by omega))) (by decide) (by decide)) (by omega) rfl rfl (Nat.le_of_ble_eq_true rfl) ⟨Nat.le_refl _, Nat.le_refl _⟩ dX8_owe_15 (fun r3 s3 q3 => ?_)
    obtain ⟨rfl, eq3⟩ := q3
    obtain rfl := eq3.symm
    refine x_stk (st' := [.int (bI (decide (0 ≤ ((v : Nat) : Int) ∧ ((v : Nat) : Int) ≤ (999))))]) rfl ?_
    refine x_ifP_ne (P := 0 ≤ ((v : Nat) : Int) ∧ ((v : Nat) : Int) ≤ (999)) inferInstance (tgt := 24) dX8_owe_18 (by decide) (fun hv4 => ?_) (fun hv4 => ?_)
    · refine x_aload_n dX8_owe_24 rfl ?_
      refine x_rget f_X8_35 hR rfl dX8_owe_25 ?_
      refine x_bipush (v := nI 7) dX8_owe_28 (by decide) ?_
      refine x_iload_n dX8_owe_30 rfl ?_
      refine x_imulN dX8_owe_31 ?_
      refine x_topi (y := nI (one * 7)) (by rw [Nat.mul_comm]) ?_
      refine x_iload_n dX8_owe_32 rfl ?_
      refine x_iaddN dX8_owe_33 ?_
      refine x_rald (j := 6) (n := (one * 7) + other) hR rfl (by decide) rfl rfl (rlt hR (m := 49) (by decide) rfl (by omega)) dX8_owe_34 ?_
      refine x_topi (y := nI ((D.getD ((one * 7) + other) 0))) (rgN cD) ?_
      refine x_istore dX8_owe_35 (by decide) rfl ?_
      refine x_lv (lv' := [some (.ref 1000), some (.int (nI one)), some (.int (nI other)), some (.int (nI v)), some (.int (nI ((D.getD ((one * 7) + other) 0))))]) rfl ?_
      refine x_aload_n dX8_owe_37 rfl ?_
      refine x_rget f_X8_35 hR rfl dX8_owe_38 ?_
      refine x_bipush (v := nI 7) dX8_owe_41 (by decide) ?_
      refine x_iload_n dX8_owe_43 rfl ?_
      refine x_imulN dX8_owe_44 ?_
      refine x_topi (y := nI (one * 7)) (by rw [Nat.mul_comm]) ?_
      refine x_iload_n dX8_owe_45 rfl ?_
      refine x_iaddN dX8_owe_46 ?_
      refine x_iload_n dX8_owe_47 rfl ?_
      refine x_rast (j := 6) (n := (one * 7) + other) hR rfl (by decide) rfl rfl (rlt hR (m := 49) (by decide) rfl (by omega)) dX8_owe_48 (fun sw5 Rw5 => ?_)
      refine x_iload dX8_owe_49 rfl ?_
      exact x_iret ⟨Nat.le_refl _, Nat.le_refl _⟩ rfl dX8_owe_51 ⟨rfl, _, Rw5, Fb.ups, (rset cD)⟩
    · exact absurd (by omega) hv4
set_option maxHeartbeats 4000000 in
theorem r_owe_b {σ0 σ : ZS} {a : Nat → Int32} {tw : Int64} {b : Nat → List Int32} {rr n : Nat} {K N : List Nat} {W : List Int32} {D : List Nat} (hR : RM σ0 σ a tw b) (hC : RC a b rr n K N W D (-1)) {x y v : Int32} (hb : ¬ ((0 ≤ x.toInt ∧ x.toInt < ((n : Nat) : Int)) ∧ (0 ≤ y.toInt ∧ y.toInt < ((n : Nat) : Int)) ∧ ¬ x.toInt = y.toInt) ∨ ¬ (0 ≤ v.toInt ∧ v.toInt ≤ 999)) : Cn 3 M_X8_owe 0 0 [.ref 1000, .int x, .int y, .int v] σ (fun r9 σ' => r9 = some (.int (-2)) ∧ σ' = σ) := by
  obtain ⟨c7, hrr, c13, hn7, c14, cK, cN, cW, cD, hN7, hW7, hD49, hK5, hN9, hD999⟩ := id hC
  refine Cn.intro (lv0 := [some (.ref 1000), some (.int x), some (.int y), some (.int v), none]) rfl (Nat.le_of_ble_eq_true rfl) rfl (fun d hd => ?_)
  refine x_aload_n dX8_owe_0 rfl ?_
  refine x_iload_n dX8_owe_1 rfl ?_
  refine x_iload_n dX8_owe_2 rfl ?_
  refine x_callV m_X8_areTwo l_X8_116 (r_areTwo hR hC rfl rfl) rfl hR.2.1 (by omega) rfl rfl (Nat.le_of_ble_eq_true rfl) ⟨Nat.le_refl _, Nat.le_refl _⟩ dX8_owe_3 (fun r1 s1 q1 => ?_)
  obtain ⟨rfl, eq1⟩ := q1
  obtain rfl := eq1.symm
  refine x_stk (st' := [.int (bI (decide ((0 ≤ x.toInt ∧ x.toInt < ((n : Nat) : Int)) ∧ (0 ≤ y.toInt ∧ y.toInt < ((n : Nat) : Int)) ∧ ¬ x.toInt = y.toInt)))]) rfl ?_
  refine x_ifP_eq (P := (0 ≤ x.toInt ∧ x.toInt < ((n : Nat) : Int)) ∧ (0 ≤ y.toInt ∧ y.toInt < ((n : Nat) : Int)) ∧ ¬ x.toInt = y.toInt) inferInstance (tgt := 21) dX8_owe_6 (by decide) (fun hv2 => ?_) (fun hv2 => ?_)
  · refine x_bipush (v := (-2)) dX8_owe_21 (by decide) ?_
    exact x_iret ⟨Nat.le_refl _, Nat.le_refl _⟩ rfl dX8_owe_23 ⟨rfl, rfl⟩
  · refine x_iload_n dX8_owe_9 rfl ?_
    refine x_i2l dX8_owe_10 ?_
    refine x_lconst (v := 0) dX8_owe_11 (by decide) ?_
    refine x_ldc2 (v := (999)) cl_X8_93 dX8_owe_12 ?_
    refine x_callS m_X8_in l_X8_85 (r_in (p := v.toInt) (q := 0) (r := (999)) (tL rfl) (by decide) (by decide)) (by omega) rfl rfl (Nat.le_of_ble_eq_true rfl) ⟨Nat.le_refl _, Nat.le_refl _⟩ dX8_owe_15 (fun r3 s3 q3 => ?_)
    obtain ⟨rfl, eq3⟩ := q3
    obtain rfl := eq3.symm
    refine x_stk (st' := [.int (bI (decide (0 ≤ v.toInt ∧ v.toInt ≤ (999))))]) rfl ?_
    refine x_ifP_ne (P := 0 ≤ v.toInt ∧ v.toInt ≤ (999)) inferInstance (tgt := 24) dX8_owe_18 (by decide) (fun hv4 => ?_) (fun hv4 => ?_)
    · exfalso; omega
    · refine x_bipush (v := (-2)) dX8_owe_21 (by decide) ?_
      exact x_iret ⟨Nat.le_refl _, Nat.le_refl _⟩ rfl dX8_owe_23 ⟨rfl, rfl⟩
set_option maxHeartbeats 4000000 in
theorem r_feed {σ0 σ : ZS} {a : Nat → Int32} {tw : Int64} {b : Nat → List Int32} (hR : RM σ0 σ a tw b) {tc : Nat} (c6 : a 6 = nI tc) (htc : tc ≤ 160) (hlt : tc < 160) {v : Nat} (hv : v ≤ 255) : Cn 2 M_X8_feed 0 0 [.ref 1000, .int (nI v)] σ (fun r9 σ' => r9 = some (.int (nI (tc + 1))) ∧ RM σ0 σ' (up a 6 (nI (tc + 1))) tw (up b 2 ((b 2).set tc (nI v)))) := by
  refine Cn.intro (lv0 := [some (.ref 1000), some (.int (nI v))]) rfl (Nat.le_of_ble_eq_true rfl) rfl (fun d hd => ?_)
  refine x_iload_n dX8_feed_0 rfl ?_
  refine x_i2l dX8_feed_1 ?_
  refine x_lconst (v := 0) dX8_feed_2 (by decide) ?_
  refine x_ldc2 (v := (255)) cl_X8_136 dX8_feed_3 ?_
  refine x_callS m_X8_in l_X8_85 (r_in (p := ((v : Nat) : Int)) (q := 0) (r := (255)) (tL (nI_toInt (by omega))) (by decide) (by decide)) (by omega) rfl rfl (Nat.le_of_ble_eq_true rfl) ⟨Nat.le_refl _, Nat.le_refl _⟩ dX8_feed_6 (fun r1 s1 q1 => ?_)
  obtain ⟨rfl, eq1⟩ := q1
  obtain rfl := eq1.symm
  refine x_stk (st' := [.int (bI (decide (0 ≤ ((v : Nat) : Int) ∧ ((v : Nat) : Int) ≤ (255))))]) rfl ?_
  refine x_ifP_ne (P := 0 ≤ ((v : Nat) : Int) ∧ ((v : Nat) : Int) ≤ (255)) inferInstance (tgt := 15) dX8_feed_9 (by decide) (fun hv2 => ?_) (fun hv2 => ?_)
  · refine x_aload_n dX8_feed_15 rfl ?_
    refine x_rget (v := .int (nI tc)) f_X8_138 hR (rg c6) dX8_feed_16 ?_
    refine x_sipush (v := nI 160) dX8_feed_19 (by decide) ?_
    refine x_icmpN_ne (tgt := 28) dX8_feed_22 (by decide) (by omega) (by omega) (fun hv3 => ?_) (fun hv3 => ?_)
    · refine x_aload_n dX8_feed_28 rfl ?_
      refine x_rget f_X8_20 hR rfl dX8_feed_29 ?_
      refine x_aload_n dX8_feed_32 rfl ?_
      refine x_rget (v := .int (nI tc)) f_X8_138 hR (rg c6) dX8_feed_33 ?_
      refine x_iload_n dX8_feed_36 rfl ?_
      refine x_rast (j := 2) (n := tc) hR rfl (by decide) rfl rfl (rlt hR (m := 160) (by decide) rfl (by omega)) dX8_feed_37 (fun sw4 Rw4 => ?_)
      refine x_aload_n dX8_feed_38 rfl ?_
      refine x_dup dX8_feed_39 rfl ?_
      refine x_rget (v := .int (nI tc)) f_X8_138 Rw4 (rg c6) dX8_feed_40 ?_
      refine x_iconst (v := nI 1) dX8_feed_43 (by decide) ?_
      refine x_iaddN dX8_feed_44 ?_
      refine x_rput (up a 6 (nI (tc + 1))) tw f_X8_138 Rw4 (by decide) rfl (fun c => ⟨rfl, rfl⟩) dX8_feed_45 (fun sw5 Rw5 => ?_)
      refine x_aload_n dX8_feed_48 rfl ?_
      refine x_rget (v := .int (nI (tc + 1))) f_X8_138 Rw5 (rg rfl) dX8_feed_49 ?_
      exact x_iret ⟨Nat.le_refl _, Nat.le_refl _⟩ rfl dX8_feed_52 ⟨rfl, Rw5⟩
    · exact absurd hv3 (by omega)
  · exact absurd (by omega) hv2
set_option maxHeartbeats 4000000 in
theorem r_feed_b {σ0 σ : ZS} {a : Nat → Int32} {tw : Int64} {b : Nat → List Int32} (hR : RM σ0 σ a tw b) {tc : Nat} (c6 : a 6 = nI tc) (htc : tc ≤ 160) {v : Int32} (hv : ¬ (0 ≤ v.toInt ∧ v.toInt ≤ 255)) : Cn 2 M_X8_feed 0 0 [.ref 1000, .int v] σ (fun r9 σ' => r9 = some (.int (-2)) ∧ σ' = σ) := by
  refine Cn.intro (lv0 := [some (.ref 1000), some (.int v)]) rfl (Nat.le_of_ble_eq_true rfl) rfl (fun d hd => ?_)
  refine x_iload_n dX8_feed_0 rfl ?_
  refine x_i2l dX8_feed_1 ?_
  refine x_lconst (v := 0) dX8_feed_2 (by decide) ?_
  refine x_ldc2 (v := (255)) cl_X8_136 dX8_feed_3 ?_
  refine x_callS m_X8_in l_X8_85 (r_in (p := v.toInt) (q := 0) (r := (255)) (tL rfl) (by decide) (by decide)) (by omega) rfl rfl (Nat.le_of_ble_eq_true rfl) ⟨Nat.le_refl _, Nat.le_refl _⟩ dX8_feed_6 (fun r1 s1 q1 => ?_)
  obtain ⟨rfl, eq1⟩ := q1
  obtain rfl := eq1.symm
  refine x_stk (st' := [.int (bI (decide (0 ≤ v.toInt ∧ v.toInt ≤ (255))))]) rfl ?_
  refine x_ifP_ne (P := 0 ≤ v.toInt ∧ v.toInt ≤ (255)) inferInstance (tgt := 15) dX8_feed_9 (by decide) (fun hv2 => ?_) (fun hv2 => ?_)
  · exact absurd hv2 hv
  · refine x_bipush (v := (-2)) dX8_feed_12 (by decide) ?_
    exact x_iret ⟨Nat.le_refl _, Nat.le_refl _⟩ rfl dX8_feed_14 ⟨rfl, rfl⟩
set_option maxHeartbeats 4000000 in
theorem r_feed_f {σ0 σ : ZS} {a : Nat → Int32} {tw : Int64} {b : Nat → List Int32} (hR : RM σ0 σ a tw b) {tc : Nat} (c6 : a 6 = nI tc) (htc : tc ≤ 160) (hlt : tc = 160) {v : Int32} (hv : 0 ≤ v.toInt ∧ v.toInt ≤ 255) : Cn 2 M_X8_feed 0 0 [.ref 1000, .int v] σ (fun r9 σ' => r9 = some (.int (-4)) ∧ σ' = σ) := by
  refine Cn.intro (lv0 := [some (.ref 1000), some (.int v)]) rfl (Nat.le_of_ble_eq_true rfl) rfl (fun d hd => ?_)
  refine x_iload_n dX8_feed_0 rfl ?_
  refine x_i2l dX8_feed_1 ?_
  refine x_lconst (v := 0) dX8_feed_2 (by decide) ?_
  refine x_ldc2 (v := (255)) cl_X8_136 dX8_feed_3 ?_
  refine x_callS m_X8_in l_X8_85 (r_in (p := v.toInt) (q := 0) (r := (255)) (tL rfl) (by decide) (by decide)) (by omega) rfl rfl (Nat.le_of_ble_eq_true rfl) ⟨Nat.le_refl _, Nat.le_refl _⟩ dX8_feed_6 (fun r1 s1 q1 => ?_)
  obtain ⟨rfl, eq1⟩ := q1
  obtain rfl := eq1.symm
  refine x_stk (st' := [.int (bI (decide (0 ≤ v.toInt ∧ v.toInt ≤ (255))))]) rfl ?_
  refine x_ifP_ne (P := 0 ≤ v.toInt ∧ v.toInt ≤ (255)) inferInstance (tgt := 15) dX8_feed_9 (by decide) (fun hv2 => ?_) (fun hv2 => ?_)
  · refine x_aload_n dX8_feed_15 rfl ?_
    refine x_rget (v := .int (nI tc)) f_X8_138 hR (rg c6) dX8_feed_16 ?_
    refine x_sipush (v := nI 160) dX8_feed_19 (by decide) ?_
    refine x_icmpN_ne (tgt := 28) dX8_feed_22 (by decide) (by omega) (by omega) (fun hv3 => ?_) (fun hv3 => ?_)
    · exact absurd hlt hv3
    · refine x_bipush (v := (-4)) dX8_feed_25 (by decide) ?_
      exact x_iret ⟨Nat.le_refl _, Nat.le_refl _⟩ rfl dX8_feed_27 ⟨rfl, rfl⟩
  · exact absurd hv hv2
set_option maxHeartbeats 4000000 in
theorem r_force {σ0 σ : ZS} {a : Nat → Int32} {tw : Int64} {b : Nat → List Int32} (hR : RM σ0 σ a tw b) {m ru : Nat} (c3 : a 3 = nI m) (c4 : a 4 = nI ru) (hm : m ≤ 6) {v : Nat} (hv : v < m) : Cn 2 M_X8_force 0 0 [.ref 1000, .int (nI v)] σ (fun r9 σ' => r9 = some (.int (nI ru)) ∧ RM σ0 σ' (up a 4 (nI v)) tw b) := by
  refine Cn.intro (lv0 := [some (.ref 1000), some (.int (nI v)), none]) rfl (Nat.le_of_ble_eq_true rfl) rfl (fun d hd => ?_)
  refine x_iload_n dX8_force_0 rfl ?_
  refine x_i2l dX8_force_1 ?_
  refine x_lconst (v := 0) dX8_force_2 (by decide) ?_
  refine x_aload_n dX8_force_3 rfl ?_
  refine x_rget (v := .int (nI m)) f_X8_79 hR (rg c3) dX8_force_4 ?_
  refine x_iconst (v := nI 1) dX8_force_7 (by decide) ?_
  refine x_isub dX8_force_8 ?_
  refine x_i2l dX8_force_9 ?_
  refine x_callS m_X8_in l_X8_85 (r_in (p := ((v : Nat) : Int)) (q := 0) (r := (((m : Nat) : Int) - 1)) (tL (nI_toInt (by omega))) (by decide) (tL (nI_m1 (by omega)))) (by omega) rfl rfl (Nat.le_of_ble_eq_true rfl) ⟨Nat.le_refl _, Nat.le_refl _⟩ dX8_force_10 (fun r1 s1 q1 => ?_)
  obtain ⟨rfl, eq1⟩ := q1
  obtain rfl := eq1.symm
  refine x_stk (st' := [.int (bI (decide (0 ≤ ((v : Nat) : Int) ∧ ((v : Nat) : Int) ≤ (((m : Nat) : Int) - 1))))]) rfl ?_
  refine x_ifP_ne (P := 0 ≤ ((v : Nat) : Int) ∧ ((v : Nat) : Int) ≤ (((m : Nat) : Int) - 1)) inferInstance (tgt := 19) dX8_force_13 (by decide) (fun hv2 => ?_) (fun hv2 => ?_)
  · refine x_aload_n dX8_force_19 rfl ?_
    refine x_rget (v := .int (nI ru)) f_X8_252 hR (rg c4) dX8_force_20 ?_
    refine x_istore_n dX8_force_23 (by decide) rfl ?_
    refine x_lv (lv' := [some (.ref 1000), some (.int (nI v)), some (.int (nI ru))]) rfl ?_
    refine x_aload_n dX8_force_24 rfl ?_
    refine x_iload_n dX8_force_25 rfl ?_
    refine x_rput (up a 4 (nI v)) tw f_X8_252 hR (by decide) rfl (fun c => ⟨rfl, rfl⟩) dX8_force_26 (fun sw3 Rw3 => ?_)
    refine x_iload_n dX8_force_29 rfl ?_
    exact x_iret ⟨Nat.le_refl _, Nat.le_refl _⟩ rfl dX8_force_30 ⟨rfl, Rw3⟩
  · exact absurd (by omega) hv2
set_option maxHeartbeats 4000000 in
theorem r_force_b {σ0 σ : ZS} {a : Nat → Int32} {tw : Int64} {b : Nat → List Int32} (hR : RM σ0 σ a tw b) {m ru : Nat} (c3 : a 3 = nI m) (c4 : a 4 = nI ru) (hm : m ≤ 6) {v : Int32} (hv : ¬ (0 ≤ v.toInt ∧ v.toInt < (m : Int))) : Cn 2 M_X8_force 0 0 [.ref 1000, .int v] σ (fun r9 σ' => r9 = some (.int (-2)) ∧ σ' = σ) := by
  refine Cn.intro (lv0 := [some (.ref 1000), some (.int v), none]) rfl (Nat.le_of_ble_eq_true rfl) rfl (fun d hd => ?_)
  refine x_iload_n dX8_force_0 rfl ?_
  refine x_i2l dX8_force_1 ?_
  refine x_lconst (v := 0) dX8_force_2 (by decide) ?_
  refine x_aload_n dX8_force_3 rfl ?_
  refine x_rget (v := .int (nI m)) f_X8_79 hR (rg c3) dX8_force_4 ?_
  refine x_iconst (v := nI 1) dX8_force_7 (by decide) ?_
  refine x_isub dX8_force_8 ?_
  refine x_i2l dX8_force_9 ?_
  refine x_callS m_X8_in l_X8_85 (r_in (p := v.toInt) (q := 0) (r := (((m : Nat) : Int) - 1)) (tL rfl) (by decide) (tL (nI_m1 (by omega)))) (by omega) rfl rfl (Nat.le_of_ble_eq_true rfl) ⟨Nat.le_refl _, Nat.le_refl _⟩ dX8_force_10 (fun r1 s1 q1 => ?_)
  obtain ⟨rfl, eq1⟩ := q1
  obtain rfl := eq1.symm
  refine x_stk (st' := [.int (bI (decide (0 ≤ v.toInt ∧ v.toInt ≤ (((m : Nat) : Int) - 1))))]) rfl ?_
  refine x_ifP_ne (P := 0 ≤ v.toInt ∧ v.toInt ≤ (((m : Nat) : Int) - 1)) inferInstance (tgt := 19) dX8_force_13 (by decide) (fun hv2 => ?_) (fun hv2 => ?_)
  · exact absurd hv2 (by omega)
  · refine x_bipush (v := (-2)) dX8_force_16 (by decide) ?_
    exact x_iret ⟨Nat.le_refl _, Nat.le_refl _⟩ rfl dX8_force_18 ⟨rfl, rfl⟩
def cntV (n dn m tc ru : Nat) (D : List Nat) (w : Int) : Int32 := if w = 0 then nI n else if w = 1 then nI (allS D n n) else if w = 2 then nI (ruinS D n n) else if w = 3 then nI dn else if w = 4 then nI m else if w = 5 then nI tc else if w = 6 then nI ru else -2
set_option maxHeartbeats 4000000 in
theorem r_count {σ0 σ : ZS} {a : Nat → Int32} {tw : Int64} {b : Nat → List Int32} {rr n : Nat} {K N : List Nat} {W : List Int32} {D : List Nat} (hR : RM σ0 σ a tw b) (hC : RC a b rr n K N W D (-1)) {dn m tc ru : Nat} (c8 : a 8 = nI dn) (c3 : a 3 = nI m) (c6 : a 6 = nI tc) (c4 : a 4 = nI ru) {w : Int32} : Cn 3 M_X8_count 0 0 [.ref 1000, .int w] σ (fun r9 σ' => r9 = some (.int (cntV n dn m tc ru D w.toInt)) ∧ σ' = σ) := by
  obtain ⟨c7, hrr, c13, hn7, c14, cK, cN, cW, cD, hN7, hW7, hD49, hK5, hN9, hD999⟩ := id hC
  refine Cn.intro (lv0 := [some (.ref 1000), some (.int w)]) rfl (Nat.le_of_ble_eq_true rfl) rfl (fun d hd => ?_)
  refine x_iload_n dX8_count_0 rfl ?_
  refine x_i2l dX8_count_1 ?_
  refine x_lconst (v := 0) dX8_count_2 (by decide) ?_
  refine x_ldc2 (v := (6)) cl_X8_405 dX8_count_3 ?_
  refine x_callS m_X8_in l_X8_85 (r_in (p := w.toInt) (q := 0) (r := (6)) (tL rfl) (by decide) (by decide)) (by omega) rfl rfl (Nat.le_of_ble_eq_true rfl) ⟨Nat.le_refl _, Nat.le_refl _⟩ dX8_count_6 (fun r1 s1 q1 => ?_)
  obtain ⟨rfl, eq1⟩ := q1
  obtain rfl := eq1.symm
  refine x_stk (st' := [.int (bI (decide (0 ≤ w.toInt ∧ w.toInt ≤ (6))))]) rfl ?_
  refine x_ifP_ne (P := 0 ≤ w.toInt ∧ w.toInt ≤ (6)) inferInstance (tgt := 15) dX8_count_9 (by decide) (fun hv2 => ?_) (fun hv2 => ?_)
  · refine x_iload_n dX8_count_15 rfl ?_
    refine x_iconst (v := nI 3) dX8_count_16 (by decide) ?_
    refine x_icmpT_ge (p := w.toInt) (q := ((3 : Nat) : Int)) (tgt := 48) rfl (nI_toInt (by omega)) dX8_count_17 (by decide) (fun hv3 => ?_) (fun hv3 => ?_)
    · refine x_iload_n dX8_count_48 rfl ?_
      refine x_iconst (v := nI 3) dX8_count_49 (by decide) ?_
      refine x_icmpT_ne (p := w.toInt) (q := ((3 : Nat) : Int)) (tgt := 60) rfl (nI_toInt (by omega)) dX8_count_50 (by decide) (fun hv4 => ?_) (fun hv4 => ?_)
      · refine x_iload_n dX8_count_60 rfl ?_
        refine x_iconst (v := nI 4) dX8_count_61 (by decide) ?_
        refine x_icmpT_ne (p := w.toInt) (q := ((4 : Nat) : Int)) (tgt := 72) rfl (nI_toInt (by omega)) dX8_count_62 (by decide) (fun hv5 => ?_) (fun hv5 => ?_)
        · refine x_iload_n dX8_count_72 rfl ?_
          refine x_iconst (v := nI 5) dX8_count_73 (by decide) ?_
          refine x_icmpT_ne (p := w.toInt) (q := ((5 : Nat) : Int)) (tgt := 84) rfl (nI_toInt (by omega)) dX8_count_74 (by decide) (fun hv6 => ?_) (fun hv6 => ?_)
          · refine x_aload_n dX8_count_84 rfl ?_
            refine x_rget (v := .int (nI ru)) f_X8_252 hR (rg c4) dX8_count_85 ?_
            exact x_iret ⟨Nat.le_refl _, Nat.le_refl _⟩ rfl dX8_count_88 ⟨by rw [cntV, if_neg (by omega), if_neg (by omega), if_neg (by omega), if_neg (by omega), if_neg (by omega), if_neg (by omega), if_pos (by omega)], rfl⟩
          · refine x_aload_n dX8_count_77 rfl ?_
            refine x_rget (v := .int (nI tc)) f_X8_138 hR (rg c6) dX8_count_78 ?_
            refine x_goto (tgt := 88) dX8_count_81 (by decide) ?_
            exact x_iret ⟨Nat.le_refl _, Nat.le_refl _⟩ rfl dX8_count_88 ⟨by rw [cntV, if_neg (by omega), if_neg (by omega), if_neg (by omega), if_neg (by omega), if_neg (by omega), if_pos (by omega)], rfl⟩
        · refine x_aload_n dX8_count_65 rfl ?_
          refine x_rget (v := .int (nI m)) f_X8_79 hR (rg c3) dX8_count_66 ?_
          refine x_goto (tgt := 88) dX8_count_69 (by decide) ?_
          exact x_iret ⟨Nat.le_refl _, Nat.le_refl _⟩ rfl dX8_count_88 ⟨by rw [cntV, if_neg (by omega), if_neg (by omega), if_neg (by omega), if_neg (by omega), if_pos (by omega)], rfl⟩
      · refine x_aload_n dX8_count_53 rfl ?_
        refine x_rget (v := .int (nI dn)) f_X8_111 hR (rg c8) dX8_count_54 ?_
        refine x_goto (tgt := 88) dX8_count_57 (by decide) ?_
        exact x_iret ⟨Nat.le_refl _, Nat.le_refl _⟩ rfl dX8_count_88 ⟨by rw [cntV, if_neg (by omega), if_neg (by omega), if_neg (by omega), if_pos (by omega)], rfl⟩
    · refine x_iload_n dX8_count_20 rfl ?_
      refine x_ifT_ne (p := w.toInt) (tgt := 31) rfl dX8_count_21 (by decide) (fun hv7 => ?_) (fun hv7 => ?_)
      · refine x_iload_n dX8_count_31 rfl ?_
        refine x_iconst (v := nI 1) dX8_count_32 (by decide) ?_
        refine x_icmpT_ne (p := w.toInt) (q := ((1 : Nat) : Int)) (tgt := 43) rfl (nI_toInt (by omega)) dX8_count_33 (by decide) (fun hv8 => ?_) (fun hv8 => ?_)
        · refine x_aload_n dX8_count_43 rfl ?_
          refine x_callV m_X8_ruined l_X8_372 (r_ruined hR hC) rfl hR.2.1 (by omega) rfl rfl (Nat.le_of_ble_eq_true rfl) ⟨Nat.le_refl _, Nat.le_refl _⟩ dX8_count_44 (fun r9 s9 q9 => ?_)
          obtain ⟨rfl, eq9⟩ := q9
          obtain rfl := eq9.symm
          refine x_stk (st' := [.int (nI ((ruinS D n n)))]) rfl ?_
          exact x_iret ⟨Nat.le_refl _, Nat.le_refl _⟩ rfl dX8_count_47 ⟨by rw [cntV, if_neg (by omega), if_neg (by omega), if_pos (by omega)], rfl⟩
        · refine x_aload_n dX8_count_36 rfl ?_
          refine x_callV m_X8_owed l_X8_293 (r_owed hR hC) rfl hR.2.1 (by omega) rfl rfl (Nat.le_of_ble_eq_true rfl) ⟨Nat.le_refl _, Nat.le_refl _⟩ dX8_count_37 (fun r10 s10 q10 => ?_)
          obtain ⟨rfl, eq10⟩ := q10
          obtain rfl := eq10.symm
          refine x_stk (st' := [.int (nI ((allS D n n)))]) rfl ?_
          refine x_goto (tgt := 47) dX8_count_40 (by decide) ?_
          exact x_iret ⟨Nat.le_refl _, Nat.le_refl _⟩ rfl dX8_count_47 ⟨by rw [cntV, if_neg (by omega), if_pos (by omega)], rfl⟩
      · refine x_aload_n dX8_count_24 rfl ?_
        refine x_rget (v := .int (nI n)) f_X8_82 hR (rg c13) dX8_count_25 ?_
        refine x_goto (tgt := 47) dX8_count_28 (by decide) ?_
        exact x_iret ⟨Nat.le_refl _, Nat.le_refl _⟩ rfl dX8_count_47 ⟨by rw [cntV, if_pos (by omega)], rfl⟩
  · refine x_bipush (v := (-2)) dX8_count_12 (by decide) ?_
    exact x_iret ⟨Nat.le_refl _, Nat.le_refl _⟩ rfl dX8_count_14 ⟨by rw [cntV, if_neg (by omega), if_neg (by omega), if_neg (by omega), if_neg (by omega), if_neg (by omega), if_neg (by omega), if_neg (by omega)], rfl⟩
