set_option maxHeartbeats 4000000 in
theorem c_has {σ : ZS} {p : Nat} {ro di ru : Int32} {n : Nat} {K N : List Nat} {Wt : List Int32} {D : List Nat} (h : Pa σ p ro di ru n K N Wt D) (x : Int32) : Cn 0 M_X2_has 0 0 [.ref p, .int x] σ (fun r σ' => r = some (.int (bI (hasB n x))) ∧ σ' = σ) := by
  obtain ⟨g0, g1, g2, g3, g4, hn7, hK7, hN7, hW7, hD49, hK5, hN9, hD999⟩ := id h
  refine Cn.intro (lv0 := [some (.ref p), some (.int x)]) rfl (Nat.le_of_ble_eq_true rfl) rfl (fun d hd => ?_)
  refine x_iload_n dX2_has_0 rfl ?_
  refine x_if_lt (tgt := 16) dX2_has_1 (by decide) (fun h1 => ?_) (fun h1 => ?_)
  · refine x_iconst (v := nI 0) dX2_has_16 (by decide) ?_
    exact x_zret ⟨Nat.le_refl _, Nat.le_refl _⟩ rfl (by decide) dX2_has_17 ⟨by rw [show hasB n x = false from by simp only [hasB, Bool.and_eq_true, Bool.and_eq_false_iff, decide_eq_true_eq, decide_eq_false_iff_not, Int32.le_iff_toInt_le, Int32.lt_iff_toInt_lt, Int32.toInt_zero] at *; omega]; rfl, rfl⟩
  · refine x_iload_n dX2_has_4 rfl ?_
    refine x_aload_n dX2_has_5 rfl ?_
    refine x_get (v := .int (nI n)) f_X2_21 g0 rfl dX2_has_6 ?_
    refine x_icmp_ge (tgt := 16) dX2_has_9 (by decide) (fun h2 => ?_) (fun h2 => ?_)
    · refine x_iconst (v := nI 0) dX2_has_16 (by decide) ?_
      exact x_zret ⟨Nat.le_refl _, Nat.le_refl _⟩ rfl (by decide) dX2_has_17 ⟨by rw [show hasB n x = false from by simp only [hasB, Bool.and_eq_true, Bool.and_eq_false_iff, decide_eq_true_eq, decide_eq_false_iff_not, Int32.le_iff_toInt_le, Int32.lt_iff_toInt_lt, Int32.toInt_zero] at *; omega]; rfl, rfl⟩
    · refine x_iconst (v := nI 1) dX2_has_12 (by decide) ?_
      refine x_goto (tgt := 17) dX2_has_13 (by decide) ?_
      exact x_zret ⟨Nat.le_refl _, Nat.le_refl _⟩ rfl (by decide) dX2_has_17 ⟨by rw [show hasB n x = true from by simp only [hasB, Bool.and_eq_true, Bool.and_eq_false_iff, decide_eq_true_eq, decide_eq_false_iff_not, Int32.le_iff_toInt_le, Int32.lt_iff_toInt_lt, Int32.toInt_zero] at *; omega]; rfl, rfl⟩
set_option maxHeartbeats 4000000 in
theorem c_debt {σ : ZS} {p : Nat} {ro di ru : Int32} {n : Nat} {K N : List Nat} {Wt : List Int32} {D : List Nat} (h : Pa σ p ro di ru n K N Wt D) {a b : Nat} (ha : a < 7) (hb : b < 7) : Cn 0 M_X2_debt 0 0 [.ref p, .int (nI a), .int (nI b)] σ (fun r σ' => r = some (.int (nI (D.getD (a * 7 + b) 0))) ∧ σ' = σ) := by
  obtain ⟨g0, g1, g2, g3, g4, hn7, hK7, hN7, hW7, hD49, hK5, hN9, hD999⟩ := id h
  refine Cn.intro (lv0 := [some (.ref p), some (.int (nI a)), some (.int (nI b))]) rfl (Nat.le_of_ble_eq_true rfl) rfl (fun d hd => ?_)
  refine x_aload_n dX2_debt_0 rfl ?_
  refine x_get (v := .ref (p + 4)) f_X2_34 g0 rfl dX2_debt_1 ?_
  refine x_iload_n dX2_debt_4 rfl ?_
  refine x_bipush (v := nI 7) dX2_debt_5 (by decide) ?_
  refine x_imulN dX2_debt_7 ?_
  refine x_iload_n dX2_debt_8 rfl ?_
  refine x_iaddN dX2_debt_9 ?_
  refine x_iald (n := (a * 7) + b) g4 rfl (by simp only [List.length_map, List.length_set, zcpy_len, *] <;> omega) dX2_debt_10 ?_
  refine x_topi (y := nI ((D.getD ((a * 7) + b) 0))) gm_getD ?_
  exact x_iret ⟨Nat.le_refl _, Nat.le_refl _⟩ rfl dX2_debt_11 ⟨rfl, rfl⟩
set_option maxHeartbeats 4000000 in
theorem c_setDebt {σ : ZS} {p : Nat} {ro di ru : Int32} {n : Nat} {K N : List Nat} {Wt : List Int32} {D : List Nat} (h : Pa σ p ro di ru n K N Wt D) {a b v : Nat} (ha : a < 7) (hb : b < 7) : Cn 0 M_X2_setDebt 0 0 [.ref p, .int (nI a), .int (nI b), .int (nI v)] σ (fun r σ' => r = none ∧ σ' = zs σ (p + 4) (.inl (0, (D.set (a * 7 + b) v).map nI))) := by
  obtain ⟨g0, g1, g2, g3, g4, hn7, hK7, hN7, hW7, hD49, hK5, hN9, hD999⟩ := id h
  refine Cn.intro (lv0 := [some (.ref p), some (.int (nI a)), some (.int (nI b)), some (.int (nI v))]) rfl (Nat.le_of_ble_eq_true rfl) rfl (fun d hd => ?_)
  refine x_aload_n dX2_setDebt_0 rfl ?_
  refine x_get (v := .ref (p + 4)) f_X2_34 g0 rfl dX2_setDebt_1 ?_
  refine x_iload_n dX2_setDebt_4 rfl ?_
  refine x_bipush (v := nI 7) dX2_setDebt_5 (by decide) ?_
  refine x_imulN dX2_setDebt_7 ?_
  refine x_iload_n dX2_setDebt_8 rfl ?_
  refine x_iaddN dX2_setDebt_9 ?_
  refine x_iload_n dX2_setDebt_10 rfl ?_
  refine x_iast (n := (a * 7) + b) g4 rfl (by simp only [List.length_map, List.length_set, zcpy_len, *] <;> omega) dX2_setDebt_11 ?_
  refine x_st (σ' := (zs σ (p + 4) (.inl (0, ((D.map nI).set ((a * 7) + b) (nI v)))))) rfl ?_
  exact x_vret ⟨Nat.le_refl _, Nat.le_refl _⟩ rfl dX2_setDebt_12 ⟨rfl, by rw [gm_set]⟩
set_option maxHeartbeats 4000000 in
theorem c_everybody {σ : ZS} {p : Nat} {ro di ru : Int32} {n : Nat} {K N : List Nat} {Wt : List Int32} {D : List Nat} (h : Pa σ p ro di ru n K N Wt D) : Cn 0 M_X2_everybody 0 0 [.ref p] σ (fun r σ' => r = some (.int (nI (2 ^ n - 1))) ∧ σ' = σ) := by
  obtain ⟨g0, g1, g2, g3, g4, hn7, hK7, hN7, hW7, hD49, hK5, hN9, hD999⟩ := id h
  refine Cn.intro (lv0 := [some (.ref p)]) rfl (Nat.le_of_ble_eq_true rfl) rfl (fun d hd => ?_)
  refine x_iconst (v := nI 1) dX2_everybody_0 (by decide) ?_
  refine x_aload_n dX2_everybody_1 rfl ?_
  refine x_get (v := .int (nI n)) f_X2_21 g0 rfl dX2_everybody_2 ?_
  refine x_ishl dX2_everybody_5 ?_
  refine x_iconst (v := nI 1) dX2_everybody_6 (by decide) ?_
  refine x_isub dX2_everybody_7 ?_
  exact x_iret ⟨Nat.le_refl _, Nat.le_refl _⟩ rfl dX2_everybody_8 ⟨by rw [pk_shlN _ n (s_l n (by omega)) (by have := Nat.pow_le_pow_right (n := 2) (by decide) hn7; omega), Nat.one_mul, pk_sub Nat.one_le_two_pow], rfl⟩
set_option maxHeartbeats 4000000 in
theorem c_isIn {σ : ZS} {S k : Nat} (hS : S < 2147483648) (hk : k < 32) : Cn 0 M_X2_isIn 0 0 [.int (nI S), .int (nI k)] σ (fun r σ' => r = some (.int (bI (S.testBit k))) ∧ σ' = σ) := by
  refine Cn.intro (lv0 := [some (.int (nI S)), some (.int (nI k))]) rfl (Nat.le_of_ble_eq_true rfl) rfl (fun d hd => ?_)
  refine x_iload_n dX2_isIn_0 rfl ?_
  refine x_iload_n dX2_isIn_1 rfl ?_
  refine x_ishr dX2_isIn_2 ?_
  refine x_iconst (v := nI 1) dX2_isIn_3 (by decide) ?_
  refine x_iand dX2_isIn_4 ?_
  refine x_topi (y := nI (S / 2 ^ k % 2)) (z_bit hS hk) ?_
  refine x_iconst (v := nI 1) dX2_isIn_5 (by decide) ?_
  refine x_icmpN_ne (tgt := 13) dX2_isIn_6 (by decide) (by omega) (by omega) (fun h1 => ?_) (fun h1 => ?_)
  · refine x_iconst (v := nI 0) dX2_isIn_13 (by decide) ?_
    exact x_zret ⟨Nat.le_refl _, Nat.le_refl _⟩ rfl (by decide) dX2_isIn_14 ⟨by rw [tb_dm]; first | (rw [decide_eq_true h1]; rfl) | (rw [decide_eq_false h1]; rfl), rfl⟩
  · refine x_iconst (v := nI 1) dX2_isIn_9 (by decide) ?_
    refine x_goto (tgt := 14) dX2_isIn_10 (by decide) ?_
    exact x_zret ⟨Nat.le_refl _, Nat.le_refl _⟩ rfl (by decide) dX2_isIn_14 ⟨by rw [tb_dm]; first | (rw [decide_eq_true h1]; rfl) | (rw [decide_eq_false h1]; rfl), rfl⟩
set_option maxHeartbeats 4000000 in
theorem c_hasBoth {σ : ZS} {p : Nat} {ro di ru : Int32} {n : Nat} {K N : List Nat} {Wt : List Int32} {D : List Nat} (h : Pa σ p ro di ru n K N Wt D) (x y : Int32) : Cn 1 M_X2_hasBoth 0 0 [.ref p, .int x, .int y] σ (fun r σ' => r = some (.int (bI (hasB n x && hasB n y && !decide (x = y)))) ∧ σ' = σ) := by
  obtain ⟨g0, g1, g2, g3, g4, hn7, hK7, hN7, hW7, hD49, hK5, hN9, hD999⟩ := id h
  refine Cn.intro (lv0 := [some (.ref p), some (.int x), some (.int y)]) rfl (Nat.le_of_ble_eq_true rfl) rfl (fun d hd => ?_)
  refine x_aload_n dX2_hasBoth_0 rfl ?_
  refine x_iload_n dX2_hasBoth_1 rfl ?_
  refine x_callV m_X2_has l_X2_47 (c_has h x) rfl g0 (by omega) rfl rfl (Nat.le_of_ble_eq_true rfl) ⟨Nat.le_refl _, Nat.le_refl _⟩ dX2_hasBoth_2 (fun r1 s1 q1 => ?_)
  obtain ⟨rfl, e1⟩ := q1
  obtain rfl := e1.symm
  refine x_stk (st' := [.int (bI ((hasB n x)))]) rfl ?_
  refine x_ifB_eq (tgt := 25) dX2_hasBoth_5 (by decide) (fun h2 => ?_) (fun h2 => ?_)
  · refine x_iconst (v := nI 0) dX2_hasBoth_25 (by decide) ?_
    exact x_zret ⟨Nat.le_refl _, Nat.le_refl _⟩ rfl (by decide) dX2_hasBoth_26 ⟨by simp_all [bI, nI_0, nI_one], rfl⟩
  · refine x_aload_n dX2_hasBoth_8 rfl ?_
    refine x_iload_n dX2_hasBoth_9 rfl ?_
    refine x_callV m_X2_has l_X2_47 (c_has h y) rfl g0 (by omega) rfl rfl (Nat.le_of_ble_eq_true rfl) ⟨Nat.le_refl _, Nat.le_refl _⟩ dX2_hasBoth_10 (fun r3 s3 q3 => ?_)
    obtain ⟨rfl, e3⟩ := q3
    obtain rfl := e3.symm
    refine x_stk (st' := [.int (bI ((hasB n y)))]) rfl ?_
    refine x_ifB_eq (tgt := 25) dX2_hasBoth_13 (by decide) (fun h4 => ?_) (fun h4 => ?_)
    · refine x_iconst (v := nI 0) dX2_hasBoth_25 (by decide) ?_
      exact x_zret ⟨Nat.le_refl _, Nat.le_refl _⟩ rfl (by decide) dX2_hasBoth_26 ⟨by simp_all [bI, nI_0, nI_one], rfl⟩
    · refine x_iload_n dX2_hasBoth_16 rfl ?_
      refine x_iload_n dX2_hasBoth_17 rfl ?_
      refine x_icmp_eq (tgt := 25) dX2_hasBoth_18 (by decide) (fun h5 => ?_) (fun h5 => ?_)
      · refine x_iconst (v := nI 0) dX2_hasBoth_25 (by decide) ?_
        exact x_zret ⟨Nat.le_refl _, Nat.le_refl _⟩ rfl (by decide) dX2_hasBoth_26 ⟨by simp_all [bI, nI_0, nI_one], rfl⟩
      · refine x_iconst (v := nI 1) dX2_hasBoth_21 (by decide) ?_
        refine x_goto (tgt := 26) dX2_hasBoth_22 (by decide) ?_
        exact x_zret ⟨Nat.le_refl _, Nat.le_refl _⟩ rfl (by decide) dX2_hasBoth_26 ⟨by simp_all [bI, nI_0, nI_one], rfl⟩
set_option maxHeartbeats 4000000 in
theorem l_creditor {σ : ZS} {p : Nat} {ro di ru : Int32} {n : Nat} {K N : List Nat} {Wt : List Int32} {D : List Nat} (h : Pa σ p ro di ru n K N Wt D) {a S : Nat} (ha : a < 7) (hS : S < 2147483648) {d : Nat} (hd : 1 ≤ d) : ∀ (m k : Nat), k + m = n → X M_X2_creditor d 0 0 (fun r σ' => r = some (.int (oI (cred D n a S))) ∧ σ' = σ) 0 0 8 [some (.ref p), some (.int (nI a)), some (.int (nI S)), some (.int ((oI (credF D a S k).1))), some (.int (nI ((credF D a S k).2))), some (.int (nI k))] [] σ := by
  obtain ⟨g0, g1, g2, g3, g4, hn7, hK7, hN7, hW7, hD49, hK5, hN9, hD999⟩ := id h
  intro m
  induction m with
  | zero =>
    intro k hk
    refine x_iload dX2_creditor_8 rfl ?_
    refine x_aload_n dX2_creditor_10 rfl ?_
    refine x_get (v := .int (nI n)) f_X2_21 g0 rfl dX2_creditor_11 ?_
    refine x_icmpN_ge (tgt := 56) dX2_creditor_14 (by decide) (by omega) (by omega) (fun h1 => ?_) (fun h1 => ?_)
    · refine x_iload_n dX2_creditor_56 rfl ?_
      exact x_iret ⟨Nat.le_refl _, Nat.le_refl _⟩ rfl dX2_creditor_57 ⟨by rw [cred, ← (show k = n by omega)], rfl⟩
    · exact absurd h1 (by omega)
  | succ m ih =>
    intro k hk
    refine x_iload dX2_creditor_8 rfl ?_
    refine x_aload_n dX2_creditor_10 rfl ?_
    refine x_get (v := .int (nI n)) f_X2_21 g0 rfl dX2_creditor_11 ?_
    refine x_icmpN_ge (tgt := 56) dX2_creditor_14 (by decide) (by omega) (by omega) (fun h1 => ?_) (fun h1 => ?_)
    · exact absurd h1 (by omega)
    · have b1 := hD999 (a * 7 + k)
      have b2 := credF_le hD999 a S k
      refine x_iload_n dX2_creditor_17 rfl ?_
      refine x_iload dX2_creditor_18 rfl ?_
      refine x_callS m_X2_isIn l_X2_51 (c_isIn hS (by omega)) (by omega) rfl rfl (Nat.le_of_ble_eq_true rfl) ⟨Nat.le_refl _, Nat.le_refl _⟩ dX2_creditor_20 (fun r2 s2 q2 => ?_)
      obtain ⟨rfl, e2⟩ := q2
      obtain rfl := e2.symm
      refine x_stk (st' := [.int (bI ((S.testBit k)))]) rfl ?_
      refine x_ifB_eq (tgt := 50) dX2_creditor_23 (by decide) (fun h3 => ?_) (fun h3 => ?_)
      · refine x_iincN dX2_creditor_50 rfl (by decide) rfl ?_
        refine x_lv (lv' := [some (.ref p), some (.int (nI a)), some (.int (nI S)), some (.int ((oI (credF D a S k).1))), some (.int (nI ((credF D a S k).2))), some (.int (nI (k + 1)))]) rfl ?_
        refine x_goto (tgt := 8) dX2_creditor_53 (by decide) ?_
        have e := ih (k + 1) (by omega)
        rw [credF, if_neg (fun q => absurd q.1 (by rw [h3]; decide))] at e
        exact e
      · refine x_aload_n dX2_creditor_26 rfl ?_
        refine x_iload_n dX2_creditor_27 rfl ?_
        refine x_iload dX2_creditor_28 rfl ?_
        refine x_callV m_X2_debt l_X2_55 (c_debt h (by omega) (by omega)) rfl g0 (by omega) rfl rfl (Nat.le_of_ble_eq_true rfl) ⟨Nat.le_refl _, Nat.le_refl _⟩ dX2_creditor_30 (fun r4 s4 q4 => ?_)
        obtain ⟨rfl, e4⟩ := q4
        obtain rfl := e4.symm
        refine x_stk (st' := [.int (nI ((D.getD (a * 7 + k) 0)))]) rfl ?_
        refine x_iload dX2_creditor_33 rfl ?_
        refine x_icmpN_le (tgt := 50) dX2_creditor_35 (by decide) (by omega) (by omega) (fun h5 => ?_) (fun h5 => ?_)
        · refine x_iincN dX2_creditor_50 rfl (by decide) rfl ?_
          refine x_lv (lv' := [some (.ref p), some (.int (nI a)), some (.int (nI S)), some (.int ((oI (credF D a S k).1))), some (.int (nI ((credF D a S k).2))), some (.int (nI (k + 1)))]) rfl ?_
          refine x_goto (tgt := 8) dX2_creditor_53 (by decide) ?_
          have e := ih (k + 1) (by omega)
          rw [credF, if_neg (fun q => absurd q.2 (Nat.not_lt.mpr h5))] at e
          exact e
        · refine x_iload dX2_creditor_38 rfl ?_
          refine x_istore_n dX2_creditor_40 (by decide) rfl ?_
          refine x_lv (lv' := [some (.ref p), some (.int (nI a)), some (.int (nI S)), some (.int (nI k)), some (.int (nI ((credF D a S k).2))), some (.int (nI k))]) rfl ?_
          refine x_aload_n dX2_creditor_41 rfl ?_
          refine x_iload_n dX2_creditor_42 rfl ?_
          refine x_iload dX2_creditor_43 rfl ?_
          refine x_callV m_X2_debt l_X2_55 (c_debt h (by omega) (by omega)) rfl g0 (by omega) rfl rfl (Nat.le_of_ble_eq_true rfl) ⟨Nat.le_refl _, Nat.le_refl _⟩ dX2_creditor_45 (fun r6 s6 q6 => ?_)
          obtain ⟨rfl, e6⟩ := q6
          obtain rfl := e6.symm
          refine x_stk (st' := [.int (nI ((D.getD (a * 7 + k) 0)))]) rfl ?_
          refine x_istore dX2_creditor_48 (by decide) rfl ?_
          refine x_lv (lv' := [some (.ref p), some (.int (nI a)), some (.int (nI S)), some (.int (nI k)), some (.int (nI ((D.getD (a * 7 + k) 0)))), some (.int (nI k))]) rfl ?_
          refine x_iincN dX2_creditor_50 rfl (by decide) rfl ?_
          refine x_lv (lv' := [some (.ref p), some (.int (nI a)), some (.int (nI S)), some (.int (nI k)), some (.int (nI ((D.getD (a * 7 + k) 0)))), some (.int (nI (k + 1)))]) rfl ?_
          refine x_goto (tgt := 8) dX2_creditor_53 (by decide) ?_
          have e := ih (k + 1) (by omega)
          rw [credF, if_pos ⟨h3, h5⟩] at e
          exact e
set_option maxHeartbeats 4000000 in
theorem c_creditor {σ : ZS} {p : Nat} {ro di ru : Int32} {n : Nat} {K N : List Nat} {Wt : List Int32} {D : List Nat} (h : Pa σ p ro di ru n K N Wt D) {a S : Nat} (ha : a < 7) (hS : S < 2147483648) : Cn 1 M_X2_creditor 0 0 [.ref p, .int (nI a), .int (nI S)] σ (fun r σ' => r = some (.int (oI (cred D n a S))) ∧ σ' = σ) := by
  obtain ⟨g0, g1, g2, g3, g4, hn7, hK7, hN7, hW7, hD49, hK5, hN9, hD999⟩ := id h
  refine Cn.intro (lv0 := [some (.ref p), some (.int (nI a)), some (.int (nI S)), none, none, none]) rfl (Nat.le_of_ble_eq_true rfl) rfl (fun d hd => ?_)
  refine x_iconst (v := (-1)) dX2_creditor_0 (by decide) ?_
  refine x_istore_n dX2_creditor_1 (by decide) rfl ?_
  refine x_lv (lv' := [some (.ref p), some (.int (nI a)), some (.int (nI S)), some (.int ((-1))), none, none]) rfl ?_
  refine x_iconst (v := nI 0) dX2_creditor_2 (by decide) ?_
  refine x_istore dX2_creditor_3 (by decide) rfl ?_
  refine x_lv (lv' := [some (.ref p), some (.int (nI a)), some (.int (nI S)), some (.int ((-1))), some (.int (nI 0)), none]) rfl ?_
  refine x_iconst (v := nI 0) dX2_creditor_5 (by decide) ?_
  refine x_istore dX2_creditor_6 (by decide) rfl ?_
  refine x_lv (lv' := [some (.ref p), some (.int (nI a)), some (.int (nI S)), some (.int ((-1))), some (.int (nI 0)), some (.int (nI 0))]) rfl ?_
  exact l_creditor h ha hS hd n 0 (by omega)
set_option maxHeartbeats 4000000 in
theorem l_owesInAll {σ : ZS} {p : Nat} {ro di ru : Int32} {n : Nat} {K N : List Nat} {Wt : List Int32} {D : List Nat} (h : Pa σ p ro di ru n K N Wt D) {a : Nat} (ha : a < 7) {d : Nat} (hd : 1 ≤ d) : ∀ (m k : Nat), k + m = n → X M_X2_owesInAll d 0 0 (fun r σ' => r = some (.int (nI (rowS D a n))) ∧ σ' = σ) 0 0 4 [some (.ref p), some (.int (nI a)), some (.int (nI ((rowS D a k)))), some (.int (nI k))] [] σ := by
  obtain ⟨g0, g1, g2, g3, g4, hn7, hK7, hN7, hW7, hD49, hK5, hN9, hD999⟩ := id h
  intro m
  induction m with
  | zero =>
    intro k hk
    refine x_iload_n dX2_owesInAll_4 rfl ?_
    refine x_aload_n dX2_owesInAll_5 rfl ?_
    refine x_get (v := .int (nI n)) f_X2_21 g0 rfl dX2_owesInAll_6 ?_
    refine x_icmpN_ge (tgt := 27) dX2_owesInAll_9 (by decide) (by omega) (by omega) (fun h1 => ?_) (fun h1 => ?_)
    · refine x_iload_n dX2_owesInAll_27 rfl ?_
      exact x_iret ⟨Nat.le_refl _, Nat.le_refl _⟩ rfl dX2_owesInAll_28 ⟨by rw [← (show k = n by omega)], rfl⟩
    · exact absurd h1 (by omega)
  | succ m ih =>
    intro k hk
    refine x_iload_n dX2_owesInAll_4 rfl ?_
    refine x_aload_n dX2_owesInAll_5 rfl ?_
    refine x_get (v := .int (nI n)) f_X2_21 g0 rfl dX2_owesInAll_6 ?_
    refine x_icmpN_ge (tgt := 27) dX2_owesInAll_9 (by decide) (by omega) (by omega) (fun h1 => ?_) (fun h1 => ?_)
    · exact absurd h1 (by omega)
    · refine x_iload_n dX2_owesInAll_12 rfl ?_
      refine x_aload_n dX2_owesInAll_13 rfl ?_
      refine x_iload_n dX2_owesInAll_14 rfl ?_
      refine x_iload_n dX2_owesInAll_15 rfl ?_
      refine x_callV m_X2_debt l_X2_55 (c_debt h (by omega) (by omega)) rfl g0 (by omega) rfl rfl (Nat.le_of_ble_eq_true rfl) ⟨Nat.le_refl _, Nat.le_refl _⟩ dX2_owesInAll_16 (fun r2 s2 q2 => ?_)
      obtain ⟨rfl, e2⟩ := q2
      obtain rfl := e2.symm
      refine x_stk (st' := [.int (nI ((D.getD (a * 7 + k) 0))), .int (nI ((rowS D a k)))]) rfl ?_
      refine x_iaddN dX2_owesInAll_19 ?_
      refine x_istore_n dX2_owesInAll_20 (by decide) rfl ?_
      refine x_lv (lv' := [some (.ref p), some (.int (nI a)), some (.int (nI (((rowS D a k)) + ((D.getD (a * 7 + k) 0))))), some (.int (nI k))]) rfl ?_
      refine x_iincN dX2_owesInAll_21 rfl (by decide) rfl ?_
      refine x_lv (lv' := [some (.ref p), some (.int (nI a)), some (.int (nI (((rowS D a k)) + ((D.getD (a * 7 + k) 0))))), some (.int (nI (k + 1)))]) rfl ?_
      refine x_goto (tgt := 4) dX2_owesInAll_24 (by decide) ?_
      exact ih (k + 1) (by omega)
set_option maxHeartbeats 4000000 in
theorem c_owesInAll {σ : ZS} {p : Nat} {ro di ru : Int32} {n : Nat} {K N : List Nat} {Wt : List Int32} {D : List Nat} (h : Pa σ p ro di ru n K N Wt D) {a : Nat} (ha : a < 7) : Cn 1 M_X2_owesInAll 0 0 [.ref p, .int (nI a)] σ (fun r σ' => r = some (.int (nI (rowS D a n))) ∧ σ' = σ) := by
  obtain ⟨g0, g1, g2, g3, g4, hn7, hK7, hN7, hW7, hD49, hK5, hN9, hD999⟩ := id h
  refine Cn.intro (lv0 := [some (.ref p), some (.int (nI a)), none, none]) rfl (Nat.le_of_ble_eq_true rfl) rfl (fun d hd => ?_)
  refine x_iconst (v := nI 0) dX2_owesInAll_0 (by decide) ?_
  refine x_istore_n dX2_owesInAll_1 (by decide) rfl ?_
  refine x_lv (lv' := [some (.ref p), some (.int (nI a)), some (.int (nI 0)), none]) rfl ?_
  refine x_iconst (v := nI 0) dX2_owesInAll_2 (by decide) ?_
  refine x_istore_n dX2_owesInAll_3 (by decide) rfl ?_
  refine x_lv (lv' := [some (.ref p), some (.int (nI a)), some (.int (nI 0)), some (.int (nI 0))]) rfl ?_
  exact l_owesInAll h ha hd n 0 (by omega)
set_option maxHeartbeats 4000000 in
theorem l_owed {σ : ZS} {p : Nat} {ro di ru : Int32} {n : Nat} {K N : List Nat} {Wt : List Int32} {D : List Nat} (h : Pa σ p ro di ru n K N Wt D) {d : Nat} (hd : 2 ≤ d) : ∀ (m k : Nat), k + m = n → X M_X2_owed d 0 0 (fun r σ' => r = some (.int (nI (allS D n n))) ∧ σ' = σ) 0 0 4 [some (.ref p), some (.int (nI ((allS D n k)))), some (.int (nI k))] [] σ := by
  obtain ⟨g0, g1, g2, g3, g4, hn7, hK7, hN7, hW7, hD49, hK5, hN9, hD999⟩ := id h
  intro m
  induction m with
  | zero =>
    intro k hk
    refine x_iload_n dX2_owed_4 rfl ?_
    refine x_aload_n dX2_owed_5 rfl ?_
    refine x_get (v := .int (nI n)) f_X2_21 g0 rfl dX2_owed_6 ?_
    refine x_icmpN_ge (tgt := 26) dX2_owed_9 (by decide) (by omega) (by omega) (fun h1 => ?_) (fun h1 => ?_)
    · refine x_iload_n dX2_owed_26 rfl ?_
      exact x_iret ⟨Nat.le_refl _, Nat.le_refl _⟩ rfl dX2_owed_27 ⟨by rw [show k = n by omega], rfl⟩
    · exact absurd h1 (by omega)
  | succ m ih =>
    intro k hk
    refine x_iload_n dX2_owed_4 rfl ?_
    refine x_aload_n dX2_owed_5 rfl ?_
    refine x_get (v := .int (nI n)) f_X2_21 g0 rfl dX2_owed_6 ?_
    refine x_icmpN_ge (tgt := 26) dX2_owed_9 (by decide) (by omega) (by omega) (fun h1 => ?_) (fun h1 => ?_)
    · exact absurd h1 (by omega)
    · refine x_iload_n dX2_owed_12 rfl ?_
      refine x_aload_n dX2_owed_13 rfl ?_
      refine x_iload_n dX2_owed_14 rfl ?_
      refine x_callV m_X2_owesInAll l_X2_68 (c_owesInAll h (by omega)) rfl g0 (by omega) rfl rfl (Nat.le_of_ble_eq_true rfl) ⟨Nat.le_refl _, Nat.le_refl _⟩ dX2_owed_15 (fun r2 s2 q2 => ?_)
      obtain ⟨rfl, e2⟩ := q2
      obtain rfl := e2.symm
      refine x_stk (st' := [.int (nI ((rowS D k n))), .int (nI ((allS D n k)))]) rfl ?_
      refine x_iaddN dX2_owed_18 ?_
      refine x_istore_n dX2_owed_19 (by decide) rfl ?_
      refine x_lv (lv' := [some (.ref p), some (.int (nI (((allS D n k)) + ((rowS D k n))))), some (.int (nI k))]) rfl ?_
      refine x_iincN dX2_owed_20 rfl (by decide) rfl ?_
      refine x_lv (lv' := [some (.ref p), some (.int (nI (((allS D n k)) + ((rowS D k n))))), some (.int (nI (k + 1)))]) rfl ?_
      refine x_goto (tgt := 4) dX2_owed_23 (by decide) ?_
      exact ih (k + 1) (by omega)
set_option maxHeartbeats 4000000 in
theorem c_owed {σ : ZS} {p : Nat} {ro di ru : Int32} {n : Nat} {K N : List Nat} {Wt : List Int32} {D : List Nat} (h : Pa σ p ro di ru n K N Wt D) : Cn 2 M_X2_owed 0 0 [.ref p] σ (fun r σ' => r = some (.int (nI (allS D n n))) ∧ σ' = σ) := by
  obtain ⟨g0, g1, g2, g3, g4, hn7, hK7, hN7, hW7, hD49, hK5, hN9, hD999⟩ := id h
  refine Cn.intro (lv0 := [some (.ref p), none, none]) rfl (Nat.le_of_ble_eq_true rfl) rfl (fun d hd => ?_)
  refine x_iconst (v := nI 0) dX2_owed_0 (by decide) ?_
  refine x_istore_n dX2_owed_1 (by decide) rfl ?_
  refine x_lv (lv' := [some (.ref p), some (.int (nI 0)), none]) rfl ?_
  refine x_iconst (v := nI 0) dX2_owed_2 (by decide) ?_
  refine x_istore_n dX2_owed_3 (by decide) rfl ?_
  refine x_lv (lv' := [some (.ref p), some (.int (nI 0)), some (.int (nI 0))]) rfl ?_
  exact l_owed h hd n 0 (by omega)
