set_option maxHeartbeats 4000000 in
theorem c_wish {σ : ZS} {p : Nat} {ro di ru : Int32} {n : Nat} {K N : List Nat} {Wt : List Int32} {D : List Nat} (h : Pa σ p ro di ru n K N Wt D) {a S : Nat} (ha : a < 7) (hS : S < 2147483648) : Cn 2 M_X2_wish 0 0 [.ref p, .int (nI a), .int (nI S)] σ (fun r σ' => r = some (.int (oI (wishO K N D n a S))) ∧ σ' = σ) := by
  obtain ⟨g0, g1, g2, g3, g4, hn7, hK7, hN7, hW7, hD49, hK5, hN9, hD999⟩ := id h
  refine Cn.intro (lv0 := [some (.ref p), some (.int (nI a)), some (.int (nI S)), none]) rfl (Nat.le_of_ble_eq_true rfl) rfl (fun d hd => ?_)
  refine x_aload_n dX2_wish_0 rfl ?_
  refine x_iload_n dX2_wish_1 rfl ?_
  refine x_iload_n dX2_wish_2 rfl ?_
  refine x_callV m_X2_creditor l_X2_59 (c_creditor h ha hS) rfl g0 (by omega) rfl rfl (Nat.le_of_ble_eq_true rfl) ⟨Nat.le_refl _, Nat.le_refl _⟩ dX2_wish_3 (fun r1 s1 q1 => ?_)
  obtain ⟨rfl, e1⟩ := q1
  obtain rfl := e1.symm
  refine x_stk (st' := [.int ((oI (cred D n a S)))]) rfl ?_
  rcases hcr : cred D n a S with _ | c
  · refine x_topi (y := (-1)) rfl ?_
    refine x_istore_n dX2_wish_6 (by decide) rfl ?_
    refine x_lv (lv' := [some (.ref p), some (.int (nI a)), some (.int (nI S)), some (.int ((-1)))]) rfl ?_
    refine x_iload_n dX2_wish_7 rfl ?_
    refine x_iconst (v := (-1)) dX2_wish_8 (by decide) ?_
    refine x_icmp_eq (tgt := 36) dX2_wish_9 (by decide) (fun h2 => ?_) (fun h2 => ?_)
    · refine x_iconst (v := (-1)) dX2_wish_36 (by decide) ?_
      exact x_iret ⟨Nat.le_refl _, Nat.le_refl _⟩ rfl dX2_wish_37 ⟨by rw [wishO, hcr]; rfl, rfl⟩
    · exact absurd rfl h2
  · obtain ⟨hc1, hc2, hc3⟩ := (credF_ok D a S n).2 c hcr
    refine x_topi (y := nI c) rfl ?_
    refine x_istore_n dX2_wish_6 (by decide) rfl ?_
    refine x_lv (lv' := [some (.ref p), some (.int (nI a)), some (.int (nI S)), some (.int (nI c))]) rfl ?_
    refine x_iload_n dX2_wish_7 rfl ?_
    refine x_iconst (v := (-1)) dX2_wish_8 (by decide) ?_
    refine x_icmp_eq (tgt := 36) dX2_wish_9 (by decide) (fun h3 => ?_) (fun h3 => ?_)
    · exact absurd h3 (nI_nm1 (by omega))
    · refine x_aload_n dX2_wish_12 rfl ?_
      refine x_get (v := .ref (p + 1)) f_X2_24 g0 rfl dX2_wish_13 ?_
      refine x_iload_n dX2_wish_16 rfl ?_
      refine x_iald (n := a) g1 rfl (by simp only [List.length_map, List.length_set, zcpy_len, *] <;> omega) dX2_wish_17 ?_
      refine x_topi (y := nI ((K.getD a 0))) gm_getD ?_
      refine x_aload_n dX2_wish_18 rfl ?_
      refine x_get (v := .ref (p + 2)) f_X2_28 g0 rfl dX2_wish_19 ?_
      refine x_iload_n dX2_wish_22 rfl ?_
      refine x_iald (n := a) g2 rfl (by simp only [List.length_map, List.length_set, zcpy_len, *] <;> omega) dX2_wish_23 ?_
      refine x_topi (y := nI ((N.getD a 0))) gm_getD ?_
      refine x_aload_n dX2_wish_24 rfl ?_
      refine x_iload_n dX2_wish_25 rfl ?_
      refine x_iload_n dX2_wish_26 rfl ?_
      refine x_callV m_X2_debt l_X2_55 (c_debt h (by omega) (by omega)) rfl g0 (by omega) rfl rfl (Nat.le_of_ble_eq_true rfl) ⟨Nat.le_refl _, Nat.le_refl _⟩ dX2_wish_27 (fun r4 s4 q4 => ?_)
      obtain ⟨rfl, e4⟩ := q4
      obtain rfl := e4.symm
      refine x_stk (st' := [.int (nI ((D.getD (a * 7 + c) 0))), .int (nI ((N.getD a 0))), .int (nI ((K.getD a 0)))]) rfl ?_
      refine x_callS m_X0_must l_X2_62 (c_must (hK5 a) (hN9 a) (hD999 _)) (by omega) rfl rfl (Nat.le_of_ble_eq_true rfl) ⟨Nat.le_refl _, Nat.le_refl _⟩ dX2_wish_30 (fun r5 s5 q5 => ?_)
      obtain ⟨rfl, e5⟩ := q5
      obtain rfl := e5.symm
      refine x_stk (st' := [.int (bI ((mustB (K.getD a 0) (N.getD a 0) (D.getD (a * 7 + c) 0))))]) rfl ?_
      refine x_ifB_ne (tgt := 38) dX2_wish_33 (by decide) (fun h6 => ?_) (fun h6 => ?_)
      · refine x_iload_n dX2_wish_38 rfl ?_
        exact x_iret ⟨Nat.le_refl _, Nat.le_refl _⟩ rfl dX2_wish_39 ⟨by rw [wishO, hcr]; simp only []; rw [if_pos h6]; rfl, rfl⟩
      · refine x_iconst (v := (-1)) dX2_wish_36 (by decide) ?_
        exact x_iret ⟨Nat.le_refl _, Nat.le_refl _⟩ rfl dX2_wish_37 ⟨by rw [wishO, hcr]; simp only []; rw [if_neg (by rw [h6]; decide)]; rfl, rfl⟩
set_option maxHeartbeats 4000000 in
theorem l_ruined {σ : ZS} {p : Nat} {ro di ru : Int32} {n : Nat} {K N : List Nat} {Wt : List Int32} {D : List Nat} (h : Pa σ p ro di ru n K N Wt D) {d : Nat} (hd : 2 ≤ d) : ∀ (m k : Nat), k + m = n → X M_X2_ruined d 0 0 (fun r σ' => r = some (.int (nI (ruinS D n n))) ∧ σ' = σ) 0 0 4 [some (.ref p), some (.int (nI ((ruinS D n k)))), some (.int (nI k))] [] σ := by
  obtain ⟨g0, g1, g2, g3, g4, hn7, hK7, hN7, hW7, hD49, hK5, hN9, hD999⟩ := id h
  intro m
  induction m with
  | zero =>
    intro k hk
    refine x_iload_n dX2_ruined_4 rfl ?_
    refine x_aload_n dX2_ruined_5 rfl ?_
    refine x_get (v := .int (nI n)) f_X2_21 g0 rfl dX2_ruined_6 ?_
    refine x_icmpN_ge (tgt := 39) dX2_ruined_9 (by decide) (by omega) (by omega) (fun h1 => ?_) (fun h1 => ?_)
    · refine x_iload_n dX2_ruined_39 rfl ?_
      exact x_iret ⟨Nat.le_refl _, Nat.le_refl _⟩ rfl dX2_ruined_40 ⟨by rw [show k = n by omega], rfl⟩
    · exact absurd h1 (by omega)
  | succ m ih =>
    intro k hk
    refine x_iload_n dX2_ruined_4 rfl ?_
    refine x_aload_n dX2_ruined_5 rfl ?_
    refine x_get (v := .int (nI n)) f_X2_21 g0 rfl dX2_ruined_6 ?_
    refine x_icmpN_ge (tgt := 39) dX2_ruined_9 (by decide) (by omega) (by omega) (fun h1 => ?_) (fun h1 => ?_)
    · exact absurd h1 (by omega)
    · have b1 := rowS_le hD999 k n
      refine x_iload_n dX2_ruined_12 rfl ?_
      refine x_aload_n dX2_ruined_13 rfl ?_
      refine x_iload_n dX2_ruined_14 rfl ?_
      refine x_callV m_X2_owesInAll l_X2_68 (c_owesInAll h (by omega)) rfl g0 (by omega) rfl rfl (Nat.le_of_ble_eq_true rfl) ⟨Nat.le_refl _, Nat.le_refl _⟩ dX2_ruined_15 (fun r2 s2 q2 => ?_)
      obtain ⟨rfl, e2⟩ := q2
      obtain rfl := e2.symm
      refine x_stk (st' := [.int (nI ((rowS D k n))), .int (nI ((ruinS D n k)))]) rfl ?_
      refine x_sipush (v := nI 1000) dX2_ruined_18 (by decide) ?_
      refine x_icmpN_lt (tgt := 30) dX2_ruined_21 (by decide) (by omega) (by omega) (fun h3 => ?_) (fun h3 => ?_)
      · refine x_iconst (v := nI 0) dX2_ruined_30 (by decide) ?_
        refine x_iorN dX2_ruined_31 ?_
        refine x_istore_n dX2_ruined_32 (by decide) rfl ?_
        refine x_lv (lv' := [some (.ref p), some (.int (nI (((ruinS D n k)) ||| 0))), some (.int (nI k))]) rfl ?_
        refine x_iincN dX2_ruined_33 rfl (by decide) rfl ?_
        refine x_lv (lv' := [some (.ref p), some (.int (nI (((ruinS D n k)) ||| 0))), some (.int (nI (k + 1)))]) rfl ?_
        refine x_goto (tgt := 4) dX2_ruined_36 (by decide) ?_
        have e := ih (k + 1) (by omega)
        rw [ruinS, if_neg (by omega)] at e
        exact e
      · refine x_iconst (v := nI 1) dX2_ruined_24 (by decide) ?_
        refine x_iload_n dX2_ruined_25 rfl ?_
        refine x_ishl dX2_ruined_26 ?_
        refine x_topi (y := nI (2 ^ k)) (z_shl1 (by omega)) ?_
        refine x_goto (tgt := 31) dX2_ruined_27 (by decide) ?_
        refine x_iorN dX2_ruined_31 ?_
        refine x_istore_n dX2_ruined_32 (by decide) rfl ?_
        refine x_lv (lv' := [some (.ref p), some (.int (nI (((ruinS D n k)) ||| (2 ^ k)))), some (.int (nI k))]) rfl ?_
        refine x_iincN dX2_ruined_33 rfl (by decide) rfl ?_
        refine x_lv (lv' := [some (.ref p), some (.int (nI (((ruinS D n k)) ||| (2 ^ k)))), some (.int (nI (k + 1)))]) rfl ?_
        refine x_goto (tgt := 4) dX2_ruined_36 (by decide) ?_
        have e := ih (k + 1) (by omega)
        rw [ruinS, if_pos (by omega)] at e
        exact e
set_option maxHeartbeats 4000000 in
theorem c_ruined {σ : ZS} {p : Nat} {ro di ru : Int32} {n : Nat} {K N : List Nat} {Wt : List Int32} {D : List Nat} (h : Pa σ p ro di ru n K N Wt D) : Cn 2 M_X2_ruined 0 0 [.ref p] σ (fun r σ' => r = some (.int (nI (ruinS D n n))) ∧ σ' = σ) := by
  obtain ⟨g0, g1, g2, g3, g4, hn7, hK7, hN7, hW7, hD49, hK5, hN9, hD999⟩ := id h
  refine Cn.intro (lv0 := [some (.ref p), none, none]) rfl (Nat.le_of_ble_eq_true rfl) rfl (fun d hd => ?_)
  refine x_iconst (v := nI 0) dX2_ruined_0 (by decide) ?_
  refine x_istore_n dX2_ruined_1 (by decide) rfl ?_
  refine x_lv (lv' := [some (.ref p), some (.int (nI 0)), none]) rfl ?_
  refine x_iconst (v := nI 0) dX2_ruined_2 (by decide) ?_
  refine x_istore_n dX2_ruined_3 (by decide) rfl ?_
  refine x_lv (lv' := [some (.ref p), some (.int (nI 0)), some (.int (nI 0))]) rfl ?_
  exact l_ruined h hd n 0 (by omega)
set_option maxHeartbeats 4000000 in
theorem c_become {σ : ZS} {p : Nat} {ro di ru : Int32} {n : Nat} {K N : List Nat} {Wt : List Int32} {D : List Nat} (h : Pa σ p ro di ru n K N Wt D) {q : Nat} {ro2 di2 ru2 : Int32} {n2 : Nat} {K2 N2 : List Nat} {W2 : List Int32} {D2 : List Nat} (h2 : Pa σ q ro2 di2 ru2 n2 K2 N2 W2 D2) (hpq : p + 4 < q ∨ q + 4 < p) : Cn 1 M_X2_become 0 0 [.ref p, .ref q] σ (fun r σ' => r = none ∧ Pa σ' p ro2 di2 ru2 n2 K2 N2 W2 D2 ∧ Fr (fun i => p ≤ i ∧ i ≤ p + 4) σ σ') := by
  obtain ⟨g0, g1, g2, g3, g4, hn7, hK7, hN7, hW7, hD49, hK5, hN9, hD999⟩ := id h
  obtain ⟨f0, f1, f2, f3, f4, fn7, fK7, fN7, fW7, fD49, fK5, fN9, fD999⟩ := id h2
  refine Cn.intro (lv0 := [some (.ref p), some (.ref q)]) rfl (Nat.le_of_ble_eq_true rfl) rfl (fun d hd => ?_)
  refine x_aload_n dX2_become_0 rfl ?_
  refine x_aload_n dX2_become_1 rfl ?_
  refine x_get (v := .int ro2) f_X2_9 f0 rfl dX2_become_2 ?_
  refine x_put f_X2_9 g0 (Nat.le_of_ble_eq_true rfl) (fun c => ⟨rfl, rfl⟩) dX2_become_5 ?_
  refine x_st (σ' := (zs σ p (.inr (.inr (1, [.int ro2, .int di, .int ru, .int (nI n), .ref (p + 1), .ref (p + 2), .ref (p + 3), .ref (p + 4)]))))) rfl ?_
  refine x_aload_n dX2_become_8 rfl ?_
  refine x_aload_n dX2_become_9 rfl ?_
  refine x_get (v := .int di2) f_X2_15 (zs_ne (by omega) f0) rfl dX2_become_10 ?_
  refine x_put f_X2_15 (zs_eq g0) (Nat.le_of_ble_eq_true rfl) (fun c => ⟨rfl, rfl⟩) dX2_become_13 ?_
  refine x_st (σ' := (zs (zs σ p (.inr (.inr (1, [.int ro2, .int di, .int ru, .int (nI n), .ref (p + 1), .ref (p + 2), .ref (p + 3), .ref (p + 4)])))) p (.inr (.inr (1, [.int ro2, .int di2, .int ru, .int (nI n), .ref (p + 1), .ref (p + 2), .ref (p + 3), .ref (p + 4)]))))) rfl ?_
  refine x_aload_n dX2_become_16 rfl ?_
  refine x_aload_n dX2_become_17 rfl ?_
  refine x_get (v := .int ru2) f_X2_18 (zs_ne (by omega) (zs_ne (by omega) f0)) rfl dX2_become_18 ?_
  refine x_put f_X2_18 (zs_eq (zs_eq g0)) (Nat.le_of_ble_eq_true rfl) (fun c => ⟨rfl, rfl⟩) dX2_become_21 ?_
  refine x_st (σ' := (zs (zs (zs σ p (.inr (.inr (1, [.int ro2, .int di, .int ru, .int (nI n), .ref (p + 1), .ref (p + 2), .ref (p + 3), .ref (p + 4)])))) p (.inr (.inr (1, [.int ro2, .int di2, .int ru, .int (nI n), .ref (p + 1), .ref (p + 2), .ref (p + 3), .ref (p + 4)])))) p (.inr (.inr (1, [.int ro2, .int di2, .int ru2, .int (nI n), .ref (p + 1), .ref (p + 2), .ref (p + 3), .ref (p + 4)]))))) rfl ?_
  refine x_aload_n dX2_become_24 rfl ?_
  refine x_aload_n dX2_become_25 rfl ?_
  refine x_get (v := .int (nI n2)) f_X2_21 (zs_ne (by omega) (zs_ne (by omega) (zs_ne (by omega) f0))) rfl dX2_become_26 ?_
  refine x_put f_X2_21 (zs_eq (zs_eq (zs_eq g0))) (Nat.le_of_ble_eq_true rfl) (fun c => ⟨rfl, rfl⟩) dX2_become_29 ?_
  refine x_st (σ' := (zs (zs (zs (zs σ p (.inr (.inr (1, [.int ro2, .int di, .int ru, .int (nI n), .ref (p + 1), .ref (p + 2), .ref (p + 3), .ref (p + 4)])))) p (.inr (.inr (1, [.int ro2, .int di2, .int ru, .int (nI n), .ref (p + 1), .ref (p + 2), .ref (p + 3), .ref (p + 4)])))) p (.inr (.inr (1, [.int ro2, .int di2, .int ru2, .int (nI n), .ref (p + 1), .ref (p + 2), .ref (p + 3), .ref (p + 4)])))) p (.inr (.inr (1, [.int ro2, .int di2, .int ru2, .int (nI n2), .ref (p + 1), .ref (p + 2), .ref (p + 3), .ref (p + 4)]))))) rfl ?_
  refine x_aload_n dX2_become_32 rfl ?_
  refine x_get (v := .ref (q + 1)) f_X2_24 (zs_ne (by omega) (zs_ne (by omega) (zs_ne (by omega) (zs_ne (by omega) f0)))) rfl dX2_become_33 ?_
  refine x_iconst (v := nI 0) dX2_become_36 (by decide) ?_
  refine x_aload_n dX2_become_37 rfl ?_
  refine x_get (v := .ref (p + 1)) f_X2_24 (zs_eq (zs_eq (zs_eq (zs_eq g0)))) rfl dX2_become_38 ?_
  refine x_iconst (v := nI 0) dX2_become_41 (by decide) ?_
  refine x_bipush (v := nI 7) dX2_become_42 (by decide) ?_
  refine x_copy l_X2_37 w_ac (zs_ne (by omega) (zs_ne (by omega) (zs_ne (by omega) (zs_ne (by omega) f1)))) (zs_ne (by omega) (zs_ne (by omega) (zs_ne (by omega) (zs_ne (by omega) g1)))) rfl rfl rfl (by simp only [List.length_map, List.length_set, zcpy_len, *] <;> omega) (by simp only [List.length_map, List.length_set, zcpy_len, *] <;> omega) (by omega) (Nat.le_of_ble_eq_true rfl) dX2_become_44 ?_
  refine x_st (σ' := (zs (zs (zs (zs (zs σ p (.inr (.inr (1, [.int ro2, .int di, .int ru, .int (nI n), .ref (p + 1), .ref (p + 2), .ref (p + 3), .ref (p + 4)])))) p (.inr (.inr (1, [.int ro2, .int di2, .int ru, .int (nI n), .ref (p + 1), .ref (p + 2), .ref (p + 3), .ref (p + 4)])))) p (.inr (.inr (1, [.int ro2, .int di2, .int ru2, .int (nI n), .ref (p + 1), .ref (p + 2), .ref (p + 3), .ref (p + 4)])))) p (.inr (.inr (1, [.int ro2, .int di2, .int ru2, .int (nI n2), .ref (p + 1), .ref (p + 2), .ref (p + 3), .ref (p + 4)])))) (p + 1) (.inl (0, (K2.map nI))))) (by rw [zcpy_all (by simp [*]) (by simp [*])]) ?_
  refine x_aload_n dX2_become_47 rfl ?_
  refine x_get (v := .ref (q + 2)) f_X2_28 (zs_ne (by omega) (zs_ne (by omega) (zs_ne (by omega) (zs_ne (by omega) (zs_ne (by omega) f0))))) rfl dX2_become_48 ?_
  refine x_iconst (v := nI 0) dX2_become_51 (by decide) ?_
  refine x_aload_n dX2_become_52 rfl ?_
  refine x_get (v := .ref (p + 2)) f_X2_28 (zs_ne (by omega) (zs_eq (zs_eq (zs_eq (zs_eq g0))))) rfl dX2_become_53 ?_
  refine x_iconst (v := nI 0) dX2_become_56 (by decide) ?_
  refine x_bipush (v := nI 7) dX2_become_57 (by decide) ?_
  refine x_copy l_X2_37 w_ac (zs_ne (by omega) (zs_ne (by omega) (zs_ne (by omega) (zs_ne (by omega) (zs_ne (by omega) f2))))) (zs_ne (by omega) (zs_ne (by omega) (zs_ne (by omega) (zs_ne (by omega) (zs_ne (by omega) g2))))) rfl rfl rfl (by simp only [List.length_map, List.length_set, zcpy_len, *] <;> omega) (by simp only [List.length_map, List.length_set, zcpy_len, *] <;> omega) (by omega) (Nat.le_of_ble_eq_true rfl) dX2_become_59 ?_
  refine x_st (σ' := (zs (zs (zs (zs (zs (zs σ p (.inr (.inr (1, [.int ro2, .int di, .int ru, .int (nI n), .ref (p + 1), .ref (p + 2), .ref (p + 3), .ref (p + 4)])))) p (.inr (.inr (1, [.int ro2, .int di2, .int ru, .int (nI n), .ref (p + 1), .ref (p + 2), .ref (p + 3), .ref (p + 4)])))) p (.inr (.inr (1, [.int ro2, .int di2, .int ru2, .int (nI n), .ref (p + 1), .ref (p + 2), .ref (p + 3), .ref (p + 4)])))) p (.inr (.inr (1, [.int ro2, .int di2, .int ru2, .int (nI n2), .ref (p + 1), .ref (p + 2), .ref (p + 3), .ref (p + 4)])))) (p + 1) (.inl (0, (K2.map nI)))) (p + 2) (.inl (0, (N2.map nI))))) (by rw [zcpy_all (by simp [*]) (by simp [*])]) ?_
  refine x_aload_n dX2_become_62 rfl ?_
  refine x_get (v := .ref (q + 3)) f_X2_31 (zs_ne (by omega) (zs_ne (by omega) (zs_ne (by omega) (zs_ne (by omega) (zs_ne (by omega) (zs_ne (by omega) f0)))))) rfl dX2_become_63 ?_
  refine x_iconst (v := nI 0) dX2_become_66 (by decide) ?_
  refine x_aload_n dX2_become_67 rfl ?_
  refine x_get (v := .ref (p + 3)) f_X2_31 (zs_ne (by omega) (zs_ne (by omega) (zs_eq (zs_eq (zs_eq (zs_eq g0)))))) rfl dX2_become_68 ?_
  refine x_iconst (v := nI 0) dX2_become_71 (by decide) ?_
  refine x_bipush (v := nI 7) dX2_become_72 (by decide) ?_
  refine x_copy l_X2_37 w_ac (zs_ne (by omega) (zs_ne (by omega) (zs_ne (by omega) (zs_ne (by omega) (zs_ne (by omega) (zs_ne (by omega) f3)))))) (zs_ne (by omega) (zs_ne (by omega) (zs_ne (by omega) (zs_ne (by omega) (zs_ne (by omega) (zs_ne (by omega) g3)))))) rfl rfl rfl (by simp only [List.length_map, List.length_set, zcpy_len, *] <;> omega) (by simp only [List.length_map, List.length_set, zcpy_len, *] <;> omega) (by omega) (Nat.le_of_ble_eq_true rfl) dX2_become_74 ?_
  refine x_st (σ' := (zs (zs (zs (zs (zs (zs (zs σ p (.inr (.inr (1, [.int ro2, .int di, .int ru, .int (nI n), .ref (p + 1), .ref (p + 2), .ref (p + 3), .ref (p + 4)])))) p (.inr (.inr (1, [.int ro2, .int di2, .int ru, .int (nI n), .ref (p + 1), .ref (p + 2), .ref (p + 3), .ref (p + 4)])))) p (.inr (.inr (1, [.int ro2, .int di2, .int ru2, .int (nI n), .ref (p + 1), .ref (p + 2), .ref (p + 3), .ref (p + 4)])))) p (.inr (.inr (1, [.int ro2, .int di2, .int ru2, .int (nI n2), .ref (p + 1), .ref (p + 2), .ref (p + 3), .ref (p + 4)])))) (p + 1) (.inl (0, (K2.map nI)))) (p + 2) (.inl (0, (N2.map nI)))) (p + 3) (.inl (0, W2)))) (by rw [zcpy_all (by simp [*]) (by simp [*])]) ?_
  refine x_aload_n dX2_become_77 rfl ?_
  refine x_get (v := .ref (q + 4)) f_X2_34 (zs_ne (by omega) (zs_ne (by omega) (zs_ne (by omega) (zs_ne (by omega) (zs_ne (by omega) (zs_ne (by omega) (zs_ne (by omega) f0))))))) rfl dX2_become_78 ?_
  refine x_iconst (v := nI 0) dX2_become_81 (by decide) ?_
  refine x_aload_n dX2_become_82 rfl ?_
  refine x_get (v := .ref (p + 4)) f_X2_34 (zs_ne (by omega) (zs_ne (by omega) (zs_ne (by omega) (zs_eq (zs_eq (zs_eq (zs_eq g0))))))) rfl dX2_become_83 ?_
  refine x_iconst (v := nI 0) dX2_become_86 (by decide) ?_
  refine x_aload_n dX2_become_87 rfl ?_
  refine x_get (v := .ref (p + 4)) f_X2_34 (zs_ne (by omega) (zs_ne (by omega) (zs_ne (by omega) (zs_eq (zs_eq (zs_eq (zs_eq g0))))))) rfl dX2_become_88 ?_
  refine x_alen (by decide) (zs_ne (by omega) (zs_ne (by omega) (zs_ne (by omega) (zs_ne (by omega) (zs_ne (by omega) (zs_ne (by omega) (zs_ne (by omega) g4))))))) dX2_become_91 ?_
  refine x_copy l_X2_37 w_ac (zs_ne (by omega) (zs_ne (by omega) (zs_ne (by omega) (zs_ne (by omega) (zs_ne (by omega) (zs_ne (by omega) (zs_ne (by omega) f4))))))) (zs_ne (by omega) (zs_ne (by omega) (zs_ne (by omega) (zs_ne (by omega) (zs_ne (by omega) (zs_ne (by omega) (zs_ne (by omega) g4))))))) rfl rfl rfl (by simp only [List.length_map, List.length_set, zcpy_len, *] <;> omega) (by simp only [List.length_map, List.length_set, zcpy_len, *] <;> omega) (by omega) (Nat.le_of_ble_eq_true rfl) dX2_become_92 ?_
  refine x_st (σ' := (zs (zs (zs (zs (zs (zs (zs (zs σ p (.inr (.inr (1, [.int ro2, .int di, .int ru, .int (nI n), .ref (p + 1), .ref (p + 2), .ref (p + 3), .ref (p + 4)])))) p (.inr (.inr (1, [.int ro2, .int di2, .int ru, .int (nI n), .ref (p + 1), .ref (p + 2), .ref (p + 3), .ref (p + 4)])))) p (.inr (.inr (1, [.int ro2, .int di2, .int ru2, .int (nI n), .ref (p + 1), .ref (p + 2), .ref (p + 3), .ref (p + 4)])))) p (.inr (.inr (1, [.int ro2, .int di2, .int ru2, .int (nI n2), .ref (p + 1), .ref (p + 2), .ref (p + 3), .ref (p + 4)])))) (p + 1) (.inl (0, (K2.map nI)))) (p + 2) (.inl (0, (N2.map nI)))) (p + 3) (.inl (0, W2))) (p + 4) (.inl (0, (D2.map nI))))) (by rw [zcpy_all (by simp [*]) (by simp [*])]) ?_
  exact x_vret ⟨Nat.le_refl _, Nat.le_refl _⟩ rfl dX2_become_95 ⟨rfl, ⟨(zs_ne (by omega) (zs_ne (by omega) (zs_ne (by omega) (zs_ne (by omega) (zs_eq (zs_eq (zs_eq (zs_eq g0)))))))), (zs_ne (by omega) (zs_ne (by omega) (zs_ne (by omega) (zs_eq (zs_ne (by omega) (zs_ne (by omega) (zs_ne (by omega) (zs_ne (by omega) g1)))))))), (zs_ne (by omega) (zs_ne (by omega) (zs_eq (zs_ne (by omega) (zs_ne (by omega) (zs_ne (by omega) (zs_ne (by omega) (zs_ne (by omega) g2)))))))), (zs_ne (by omega) (zs_eq (zs_ne (by omega) (zs_ne (by omega) (zs_ne (by omega) (zs_ne (by omega) (zs_ne (by omega) (zs_ne (by omega) g3)))))))), (zs_eq (zs_ne (by omega) (zs_ne (by omega) (zs_ne (by omega) (zs_ne (by omega) (zs_ne (by omega) (zs_ne (by omega) (zs_ne (by omega) g4)))))))), fn7, fK7, fN7, fW7, fD49, fK5, fN9, fD999⟩, ((((((((Fr.rf.zs ⟨by omega, by omega⟩).zs ⟨by omega, by omega⟩).zs ⟨by omega, by omega⟩).zs ⟨by omega, by omega⟩).zs ⟨by omega, by omega⟩).zs ⟨by omega, by omega⟩).zs ⟨by omega, by omega⟩).zs ⟨by omega, by omega⟩)⟩
