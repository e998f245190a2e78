set_option maxHeartbeats 4000000 in
theorem c_has {σ : ZS} {p : Nat} {ro di ru : Int32} {n : Nat} {K N : List Nat} {Wt : List Int32} {D : List Nat} (h : Pa σ p ro di ru n K N Wt D) (x : Int32) : Cn 0 M_X2_has 0 0 [.ref p, .int x] σ (fun r σ' => r = some (.int (bI (hasB n x))) ∧ σ' = σ) := by
  obtain ⟨g0, g1, g2, g3, g4, hn7, hK7, hN7, hW7, hD49, hK5, hN9, hD999⟩ := id h
  refine Cn.intro (lv0 := [some (.ref p), some (.int x)]) rfl (Nat.le_of_ble_eq_true rfl) rfl (fun d hd => ?_)
  refine x_iload_n dX2_has_0 rfl ?_
  refine x_if_lt (tgt := 16) dX2_has_1 (by decide) (fun h1 => ?_) (fun h1 => ?_)
  · refine x_iconst (v := nI 0) dX2_has_16 (by decide) ?_
    exact x_zret ⟨Nat.le_refl _, Nat.le_refl _⟩ rfl (by decide) dX2_has_17 ⟨by rw [show hasB n x = false from by simp only [hasB, Bool.and_eq_true, Bool.and_eq_false_iff, decide_eq_true_eq, decide_eq_false_iff_not, Int32.le_iff_toInt_le, Int32.lt_iff_toInt_lt, Int32.toInt_zero] at *; omega]; rfl, rfl⟩
  · refine x_iload_n dX2_has_4 rfl ?_
    refine x_aload_n dX2_has_5 rfl ?_
    refine x_get (v := .int (nI n)) f_X2_21 g0 rfl dX2_has_6 ?_
    refine x_icmp_ge (tgt := 16) dX2_has_9 (by decide) (fun h2 => ?_) (fun h2 => ?_)
    · refine x_iconst (v := nI 0) dX2_has_16 (by decide) ?_
      exact x_zret ⟨Nat.le_refl _, Nat.le_refl _⟩ rfl (by decide) dX2_has_17 ⟨by rw [show hasB n x = false from by simp only [hasB, Bool.and_eq_true, Bool.and_eq_false_iff, decide_eq_true_eq, decide_eq_false_iff_not, Int32.le_iff_toInt_le, Int32.lt_iff_toInt_lt, Int32.toInt_zero] at *; omega]; rfl, rfl⟩
    · refine x_iconst (v := nI 1) dX2_has_12 (by decide) ?_
      refine x_goto (tgt := 17) dX2_has_13 (by decide) ?_
      exact x_zret ⟨Nat.le_refl _, Nat.le_refl _⟩ rfl (by decide) dX2_has_17 ⟨by rw [show hasB n x = true from by simp only [hasB, Bool.and_eq_true, Bool.and_eq_false_iff, decide_eq_true_eq, decide_eq_false_iff_not, Int32.le_iff_toInt_le, Int32.lt_iff_toInt_lt, Int32.toInt_zero] at *; omega]; rfl, rfl⟩
set_option maxHeartbeats 4000000 in
theorem c_debt {σ : ZS} {p : Nat} {ro di ru : Int32} {n : Nat} {K N : List Nat} {Wt : List Int32} {D : List Nat} (h : Pa σ p ro di ru n K N Wt D) {a b : Nat} (ha : a < 7) (hb : b < 7) : Cn 0 M_X2_debt 0 0 [.ref p, .int (nI a), .int (nI b)] σ (fun r σ' => r = some (.int (nI (D.getD (a * 7 + b) 0))) ∧ σ' = σ) := by
  obtain ⟨g0, g1, g2, g3, g4, hn7, hK7, hN7, hW7, hD49, hK5, hN9, hD999⟩ := id h
  refine Cn.intro (lv0 := [some (.ref p), some (.int (nI a)), some (.int (nI b))]) rfl (Nat.le_of_ble_eq_true rfl) rfl (fun d hd => ?_)
  refine x_aload_n dX2_debt_0 rfl ?_
  refine x_get (v := .ref (p + 4)) f_X2_34 g0 rfl dX2_debt_1 ?_
  refine x_iload_n dX2_debt_4 rfl ?_
  refine x_bipush (v := nI 7) dX2_debt_5 (by decide) ?_
  refine x_imulN dX2_debt_7 ?_
  refine x_iload_n dX2_debt_8 rfl ?_
  refine x_iaddN dX2_debt_9 ?_
  refine x_iald (n := (a * 7) + b) g4 rfl (by simp only [List.length_map, List.length_set, zcpy_len, *]; omega) dX2_debt_10 ?_
  refine x_topi (y := nI ((D.getD ((a * 7) + b) 0))) gm_getD ?_
  exact x_iret ⟨Nat.le_refl _, Nat.le_refl _⟩ rfl dX2_debt_11 ⟨rfl, rfl⟩
set_option maxHeartbeats 4000000 in
theorem c_setDebt {σ : ZS} {p : Nat} {ro di ru : Int32} {n : Nat} {K N : List Nat} {Wt : List Int32} {D : List Nat} (h : Pa σ p ro di ru n K N Wt D) {a b v : Nat} (ha : a < 7) (hb : b < 7) : Cn 0 M_X2_setDebt 0 0 [.ref p, .int (nI a), .int (nI b), .int (nI v)] σ (fun r σ' => r = none ∧ σ' = zs σ (p + 4) (.inl (0, (D.set (a * 7 + b) v).map nI))) := by
  obtain ⟨g0, g1, g2, g3, g4, hn7, hK7, hN7, hW7, hD49, hK5, hN9, hD999⟩ := id h
  refine Cn.intro (lv0 := [some (.ref p), some (.int (nI a)), some (.int (nI b)), some (.int (nI v))]) rfl (Nat.le_of_ble_eq_true rfl) rfl (fun d hd => ?_)
  refine x_aload_n dX2_setDebt_0 rfl ?_
  refine x_get (v := .ref (p + 4)) f_X2_34 g0 rfl dX2_setDebt_1 ?_
  refine x_iload_n dX2_setDebt_4 rfl ?_
  refine x_bipush (v := nI 7) dX2_setDebt_5 (by decide) ?_
  refine x_imulN dX2_setDebt_7 ?_
  refine x_iload_n dX2_setDebt_8 rfl ?_
  refine x_iaddN dX2_setDebt_9 ?_
  refine x_iload_n dX2_setDebt_10 rfl ?_
  refine x_iast (n := (a * 7) + b) g4 rfl (by simp only [List.length_map, List.length_set, zcpy_len, *]; omega) dX2_setDebt_11 ?_
  refine x_st (σ' := (zs σ (p + 4) (.inl (0, ((D.map nI).set ((a * 7) + b) (nI v)))))) rfl ?_
  exact x_vret ⟨Nat.le_refl _, Nat.le_refl _⟩ rfl dX2_setDebt_12 ⟨rfl, by rw [gm_set]⟩
set_option maxHeartbeats 4000000 in
theorem c_everybody {σ : ZS} {p : Nat} {ro di ru : Int32} {n : Nat} {K N : List Nat} {Wt : List Int32} {D : List Nat} (h : Pa σ p ro di ru n K N Wt D) : Cn 0 M_X2_everybody 0 0 [.ref p] σ (fun r σ' => r = some (.int (nI (2 ^ n - 1))) ∧ σ' = σ) := by
  obtain ⟨g0, g1, g2, g3, g4, hn7, hK7, hN7, hW7, hD49, hK5, hN9, hD999⟩ := id h
  refine Cn.intro (lv0 := [some (.ref p)]) rfl (Nat.le_of_ble_eq_true rfl) rfl (fun d hd => ?_)
  refine x_iconst (v := nI 1) dX2_everybody_0 (by decide) ?_
  refine x_aload_n dX2_everybody_1 rfl ?_
  refine x_get (v := .int (nI n)) f_X2_21 g0 rfl dX2_everybody_2 ?_
  refine x_ishl dX2_everybody_5 ?_
  refine x_iconst (v := nI 1) dX2_everybody_6 (by decide) ?_
  refine x_isub dX2_everybody_7 ?_
  exact x_iret ⟨Nat.le_refl _, Nat.le_refl _⟩ rfl dX2_everybody_8 ⟨by rw [pk_shlN _ n (s_l n (by omega)) (by have := Nat.pow_le_pow_right (n := 2) (by decide) hn7; omega), Nat.one_mul, pk_sub Nat.one_le_two_pow], rfl⟩
set_option maxHeartbeats 4000000 in
theorem c_isIn {σ : ZS} {S k : Nat} (hS : S < 2147483648) (hk : k < 32) : Cn 0 M_X2_isIn 0 0 [.int (nI S), .int (nI k)] σ (fun r σ' => r = some (.int (bI (S.testBit k))) ∧ σ' = σ) := by
  refine Cn.intro (lv0 := [some (.int (nI S)), some (.int (nI k))]) rfl (Nat.le_of_ble_eq_true rfl) rfl (fun d hd => ?_)
  refine x_iload_n dX2_isIn_0 rfl ?_
  refine x_iload_n dX2_isIn_1 rfl ?_
  refine x_ishr dX2_isIn_2 ?_
  refine x_iconst (v := nI 1) dX2_isIn_3 (by decide) ?_
  refine x_iand dX2_isIn_4 ?_
  refine x_topi (y := nI (S / 2 ^ k % 2)) (z_bit hS hk) ?_
  refine x_iconst (v := nI 1) dX2_isIn_5 (by decide) ?_
  refine x_icmpN_ne (tgt := 13) dX2_isIn_6 (by decide) (by omega) (by omega) (fun h1 => ?_) (fun h1 => ?_)
  · refine x_iconst (v := nI 0) dX2_isIn_13 (by decide) ?_
    exact x_zret ⟨Nat.le_refl _, Nat.le_refl _⟩ rfl (by decide) dX2_isIn_14 ⟨by rw [tb_dm]; first | (rw [decide_eq_true h1]; rfl) | (rw [decide_eq_false h1]; rfl), rfl⟩
  · refine x_iconst (v := nI 1) dX2_isIn_9 (by decide) ?_
    refine x_goto (tgt := 14) dX2_isIn_10 (by decide) ?_
    exact x_zret ⟨Nat.le_refl _, Nat.le_refl _⟩ rfl (by decide) dX2_isIn_14 ⟨by rw [tb_dm]; first | (rw [decide_eq_true h1]; rfl) | (rw [decide_eq_false h1]; rfl), rfl⟩
set_option maxHeartbeats 4000000 in
theorem c_hasBoth {σ : ZS} {p : Nat} {ro di ru : Int32} {n : Nat} {K N : List Nat} {Wt : List Int32} {D : List Nat} (h : Pa σ p ro di ru n K N Wt D) (x y : Int32) : Cn 1 M_X2_hasBoth 0 0 [.ref p, .int x, .int y] σ (fun r σ' => r = some (.int (bI (hasB n x && hasB n y && !decide (x = y)))) ∧ σ' = σ) := by
  obtain ⟨g0, g1, g2, g3, g4, hn7, hK7, hN7, hW7, hD49, hK5, hN9, hD999⟩ := id h
  refine Cn.intro (lv0 := [some (.ref p), some (.int x), some (.int y)]) rfl (Nat.le_of_ble_eq_true rfl) rfl (fun d hd => ?_)
  refine x_aload_n dX2_hasBoth_0 rfl ?_
  refine x_iload_n dX2_hasBoth_1 rfl ?_
  refine x_callV m_X2_has l_X2_47 (c_has h x) rfl g0 (by omega) rfl rfl (Nat.le_of_ble_eq_true rfl) ⟨Nat.le_refl _, Nat.le_refl _⟩ dX2_hasBoth_2 (fun r1 s1 q1 => ?_)
  obtain ⟨rfl, rfl⟩ := q1
  refine x_stk (st' := [.int (bI ((hasB n x)))]) rfl ?_
  refine x_ifB_eq (tgt := 25) dX2_hasBoth_5 (by decide) (fun h2 => ?_) (fun h2 => ?_)
  · refine x_iconst (v := nI 0) dX2_hasBoth_25 (by decide) ?_
    exact x_zret ⟨Nat.le_refl _, Nat.le_refl _⟩ rfl (by decide) dX2_hasBoth_26 ⟨by simp_all [bI, nI_0, nI_one], rfl⟩
  · refine x_aload_n dX2_hasBoth_8 rfl ?_
    refine x_iload_n dX2_hasBoth_9 rfl ?_
    refine x_callV m_X2_has l_X2_47 (c_has h y) rfl g0 (by omega) rfl rfl (Nat.le_of_ble_eq_true rfl) ⟨Nat.le_refl _, Nat.le_refl _⟩ dX2_hasBoth_10 (fun r3 s3 q3 => ?_)
    obtain ⟨rfl, rfl⟩ := q3
    refine x_stk (st' := [.int (bI ((hasB n y)))]) rfl ?_
    refine x_ifB_eq (tgt := 25) dX2_hasBoth_13 (by decide) (fun h4 => ?_) (fun h4 => ?_)
    · refine x_iconst (v := nI 0) dX2_hasBoth_25 (by decide) ?_
      exact x_zret ⟨Nat.le_refl _, Nat.le_refl _⟩ rfl (by decide) dX2_hasBoth_26 ⟨by simp_all [bI, nI_0, nI_one], rfl⟩
    · refine x_iload_n dX2_hasBoth_16 rfl ?_
      refine x_iload_n dX2_hasBoth_17 rfl ?_
      refine x_icmp_eq (tgt := 25) dX2_hasBoth_18 (by decide) (fun h5 => ?_) (fun h5 => ?_)
      · refine x_iconst (v := nI 0) dX2_hasBoth_25 (by decide) ?_
        exact x_zret ⟨Nat.le_refl _, Nat.le_refl _⟩ rfl (by decide) dX2_hasBoth_26 ⟨by simp_all [bI, nI_0, nI_one], rfl⟩
      · refine x_iconst (v := nI 1) dX2_hasBoth_21 (by decide) ?_
        refine x_goto (tgt := 26) dX2_hasBoth_22 (by decide) ?_
        exact x_zret ⟨Nat.le_refl _, Nat.le_refl _⟩ rfl (by decide) dX2_hasBoth_26 ⟨by simp_all [bI, nI_0, nI_one], rfl⟩
