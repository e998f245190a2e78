set_option maxHeartbeats 4000000 in
theorem c_has {σ : ZS} {p : Nat} {ro di ru : Int32} {n : Nat} {K N : List Nat} {Wt : List Int32} {D : List Nat} (h : Pa σ p ro di ru n K N Wt D) (x : Int32) : Cn 0 M_X2_has 0 0 [.ref p, .int x] σ (fun r σ' => r = some (.int (bI (hasB n x))) ∧ σ' = σ) := by
  obtain ⟨g0, g1, g2, g3, g4, hn7, hK7, hN7, hW7, hD49, hK5, hN9, hD999⟩ := id h
  refine Cn.intro (lv0 := [some (.ref p), some (.int x)]) rfl (Nat.le_of_ble_eq_true rfl) rfl (fun d hd => ?_)
  refine x_iload_n dX2_has_0 rfl ?_
  refine x_if_lt (tgt := 16) dX2_has_1 (by decide) (fun h1 => ?_) (fun h1 => ?_)
  · refine x_iconst (v := nI 0) dX2_has_16 (by decide) ?_
    exact x_zret ⟨Nat.le_refl _, Nat.le_refl _⟩ rfl (by decide) dX2_has_17 ⟨by simp_all [hasB, bI, nI_0, nI_one], rfl⟩
  · refine x_iload_n dX2_has_4 rfl ?_
    refine x_aload_n dX2_has_5 rfl ?_
    refine x_get (v := .int (nI n)) f_X2_21 g0 rfl dX2_has_6 ?_
    refine x_icmp_ge (tgt := 16) dX2_has_9 (by decide) (fun h2 => ?_) (fun h2 => ?_)
    · refine x_iconst (v := nI 0) dX2_has_16 (by decide) ?_
      exact x_zret ⟨Nat.le_refl _, Nat.le_refl _⟩ rfl (by decide) dX2_has_17 ⟨by simp_all [hasB, bI, nI_0, nI_one], rfl⟩
    · refine x_iconst (v := nI 1) dX2_has_12 (by decide) ?_
      refine x_goto (tgt := 17) dX2_has_13 (by decide) ?_
      exact x_zret ⟨Nat.le_refl _, Nat.le_refl _⟩ rfl (by decide) dX2_has_17 ⟨by simp_all [hasB, bI, nI_0, nI_one], rfl⟩
set_option maxHeartbeats 4000000 in
theorem c_debt {σ : ZS} {p : Nat} {ro di ru : Int32} {n : Nat} {K N : List Nat} {Wt : List Int32} {D : List Nat} (h : Pa σ p ro di ru n K N Wt D) {a b : Nat} (ha : a < 7) (hb : b < 7) : Cn 0 M_X2_debt 0 0 [.ref p, .int (nI a), .int (nI b)] σ (fun r σ' => r = some (.int (nI (D.getD (a * 7 + b) 0))) ∧ σ' = σ) := by
  obtain ⟨g0, g1, g2, g3, g4, hn7, hK7, hN7, hW7, hD49, hK5, hN9, hD999⟩ := id h
  refine Cn.intro (lv0 := [some (.ref p), some (.int (nI a)), some (.int (nI b))]) rfl (Nat.le_of_ble_eq_true rfl) rfl (fun d hd => ?_)
  refine x_aload_n dX2_debt_0 rfl ?_
  refine x_get (v := .ref (p + 4)) f_X2_34 g0 rfl dX2_debt_1 ?_
  refine x_iload_n dX2_debt_4 rfl ?_
  refine x_bipush (v := nI 7) dX2_debt_5 (by decide) ?_
  refine x_imulN dX2_debt_7 ?_
  refine x_iload_n dX2_debt_8 rfl ?_
  refine x_iaddN dX2_debt_9 ?_
  refine x_iald (n := (a * 7) + b) g4 rfl (by simp only [List.length_map, List.length_set, zcpy_len, *]; omega) dX2_debt_10 ?_
  refine x_topi (y := nI ((D.getD ((a * 7) + b) 0))) gm_getD ?_
  exact x_iret ⟨Nat.le_refl _, Nat.le_refl _⟩ rfl dX2_debt_11 ⟨rfl, rfl⟩
set_option maxHeartbeats 4000000 in
theorem c_setDebt {σ : ZS} {p : Nat} {ro di ru : Int32} {n : Nat} {K N : List Nat} {Wt : List Int32} {D : List Nat} (h : Pa σ p ro di ru n K N Wt D) {a b v : Nat} (ha : a < 7) (hb : b < 7) : Cn 0 M_X2_setDebt 0 0 [.ref p, .int (nI a), .int (nI b), .int (nI v)] σ (fun r σ' => r = none ∧ σ' = zs σ (p + 4) (.inl (0, (D.set (a * 7 + b) v).map nI))) := by
  obtain ⟨g0, g1, g2, g3, g4, hn7, hK7, hN7, hW7, hD49, hK5, hN9, hD999⟩ := id h
  refine Cn.intro (lv0 := [some (.ref p), some (.int (nI a)), some (.int (nI b)), some (.int (nI v))]) rfl (Nat.le_of_ble_eq_true rfl) rfl (fun d hd => ?_)
  refine x_aload_n dX2_setDebt_0 rfl ?_
  refine x_get (v := .ref (p + 4)) f_X2_34 g0 rfl dX2_setDebt_1 ?_
  refine x_iload_n dX2_setDebt_4 rfl ?_
  refine x_bipush (v := nI 7) dX2_setDebt_5 (by decide) ?_
  refine x_imulN dX2_setDebt_7 ?_
  refine x_iload_n dX2_setDebt_8 rfl ?_
  refine x_iaddN dX2_setDebt_9 ?_
  refine x_iload_n dX2_setDebt_10 rfl ?_
  refine x_iast (n := (a * 7) + b) g4 rfl (by simp only [List.length_map, List.length_set, zcpy_len, *]; omega) dX2_setDebt_11 ?_
  refine x_st (σ' := (zs σ (p + 4) (.inl (0, ((D.map nI).set ((a * 7) + b) (nI v)))))) rfl ?_
  exact x_vret ⟨Nat.le_refl _, Nat.le_refl _⟩ rfl dX2_setDebt_12 ⟨rfl, by rw [gm_set]⟩
set_option maxHeartbeats 4000000 in
theorem c_everybody {σ : ZS} {p : Nat} {ro di ru : Int32} {n : Nat} {K N : List Nat} {Wt : List Int32} {D : List Nat} (h : Pa σ p ro di ru n K N Wt D) : Cn 0 M_X2_everybody 0 0 [.ref p] σ (fun r σ' => r = some (.int (((nI 1) <<< (nI n &&& 31)) - nI 1)) ∧ σ' = σ) := by
  obtain ⟨g0, g1, g2, g3, g4, hn7, hK7, hN7, hW7, hD49, hK5, hN9, hD999⟩ := id h
  refine Cn.intro (lv0 := [some (.ref p)]) rfl (Nat.le_of_ble_eq_true rfl) rfl (fun d hd => ?_)
  refine x_iconst (v := nI 1) dX2_everybody_0 (by decide) ?_
  refine x_aload_n dX2_everybody_1 rfl ?_
  refine x_get (v := .int (nI n)) f_X2_21 g0 rfl dX2_everybody_2 ?_
  refine x_ishl dX2_everybody_5 ?_
  refine x_iconst (v := nI 1) dX2_everybody_6 (by decide) ?_
  refine x_isub dX2_everybody_7 ?_
  exact x_iret ⟨Nat.le_refl _, Nat.le_refl _⟩ rfl dX2_everybody_8 ⟨rfl, rfl⟩
