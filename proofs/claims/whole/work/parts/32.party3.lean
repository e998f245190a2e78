set_option maxHeartbeats 4000000 in
theorem l_welcome {σ0 : ZS} {p : Nat} {ro di ru : Int32} {n : Nat} {K N : List Nat} {Wt : List Int32} {D : List Nat} {kd nu m0 : Nat} (hm : m0 + 1 = n) (hz : ∀ j, j ≤ m0 → D.getD (m0 * 7 + j) 0 = 0 ∧ D.getD (j * 7 + m0) 0 = 0) {d : Nat} (hd : 1 ≤ d) : ∀ (m k : Nat) (σ : ZS) (h : Pa σ p ro di ru n K N Wt D) (hF : Fr (fun i => p ≤ i ∧ i ≤ p + 4) σ0 σ), k + m = n → X M_X2_welcome d 0 0 (fun r σ' => r = some (.int (nI m0)) ∧ Pa σ' p ro di ru n K N Wt D ∧ Fr (fun i => p ≤ i ∧ i ≤ p + 4) σ0 σ') 0 0 48 [some (.ref p), some (.int (nI kd)), some (.int (nI nu)), some (.int (nI m0)), some (.int (nI k))] [] σ := by
  intro m
  induction m with
  | zero =>
    intro k σ h hF hk
    obtain ⟨g0, g1, g2, g3, g4, hn7, hK7, hN7, hW7, hD49, hK5, hN9, hD999⟩ := id h
    refine x_iload dX2_welcome_48 rfl ?_
    refine x_aload_n dX2_welcome_50 rfl ?_
    refine x_get (v := .int (nI n)) f_X2_21 g0 rfl dX2_welcome_51 ?_
    refine x_icmpN_ge (tgt := 79) dX2_welcome_54 (by decide) (by omega) (by omega) (fun h1 => ?_) (fun h1 => ?_)
    · refine x_iload_n dX2_welcome_79 rfl ?_
      exact x_iret ⟨Nat.le_refl _, Nat.le_refl _⟩ rfl dX2_welcome_80 ⟨rfl, h, hF⟩
    · exact absurd h1 (by omega)
  | succ m ih =>
    intro k σ h hF hk
    obtain ⟨g0, g1, g2, g3, g4, hn7, hK7, hN7, hW7, hD49, hK5, hN9, hD999⟩ := id h
    refine x_iload dX2_welcome_48 rfl ?_
    refine x_aload_n dX2_welcome_50 rfl ?_
    refine x_get (v := .int (nI n)) f_X2_21 g0 rfl dX2_welcome_51 ?_
    refine x_icmpN_ge (tgt := 79) dX2_welcome_54 (by decide) (by omega) (by omega) (fun h1 => ?_) (fun h1 => ?_)
    · exact absurd h1 (by omega)
    · refine x_aload_n dX2_welcome_57 rfl ?_
      refine x_iload_n dX2_welcome_58 rfl ?_
      refine x_iload dX2_welcome_59 rfl ?_
      refine x_iconst (v := nI 0) dX2_welcome_61 (by decide) ?_
      refine x_callV m_X2_setDebt l_X2_43 (c_setDebt (v := 0) h (by omega) (by omega)) rfl g0 (by omega) rfl rfl (Nat.le_of_ble_eq_true rfl) ⟨Nat.le_refl _, Nat.le_refl _⟩ dX2_welcome_62 (fun r2 s2 q2 => ?_)
      obtain ⟨rfl, rfl⟩ := q2
      rw [set_same (by rw [hD49]; omega) (hz k (by omega)).1]
      refine x_stk (st' := []) rfl ?_
      refine x_aload_n dX2_welcome_65 rfl ?_
      refine x_iload dX2_welcome_66 rfl ?_
      refine x_iload_n dX2_welcome_68 rfl ?_
      refine x_iconst (v := nI 0) dX2_welcome_69 (by decide) ?_
      refine x_callV m_X2_setDebt l_X2_43 (c_setDebt (v := 0) (Pa.setD h hD49 hD999) (by omega) (by omega)) rfl (zs_ne (by omega) g0) (by omega) rfl rfl (Nat.le_of_ble_eq_true rfl) ⟨Nat.le_refl _, Nat.le_refl _⟩ dX2_welcome_70 (fun r3 s3 q3 => ?_)
      obtain ⟨rfl, rfl⟩ := q3
      rw [set_same (by rw [hD49]; omega) (hz k (by omega)).2]
      refine x_stk (st' := []) rfl ?_
      refine x_iincN dX2_welcome_73 rfl (by decide) rfl ?_
      refine x_lv (lv' := [some (.ref p), some (.int (nI kd)), some (.int (nI nu)), some (.int (nI m0)), some (.int (nI (k + 1)))]) rfl ?_
      refine x_goto (tgt := 48) dX2_welcome_76 (by decide) ?_
      exact ih (k + 1) (zs (zs σ (p + 4) (.inl (0, D.map nI))) (p + 4) (.inl (0, D.map nI))) ((h.setD hD49 hD999).setD hD49 hD999) ((hF.zs ⟨by omega, by omega⟩).zs ⟨by omega, by omega⟩) (by omega)
set_option maxHeartbeats 4000000 in
theorem c_welcome {σ : ZS} {p : Nat} {ro di ru : Int32} {n : Nat} {K N : List Nat} {Wt : List Int32} {D : List Nat} (h : Pa σ p ro di ru n K N Wt D) {kd nu : Nat} (hn : n < 7) (hkd : kd ≤ 5) (hnu : nu ≤ 9) (hz : ∀ j, j ≤ n → D.getD (n * 7 + j) 0 = 0 ∧ D.getD (j * 7 + n) 0 = 0) : Cn 1 M_X2_welcome 0 0 [.ref p, .int (nI kd), .int (nI nu)] σ (fun r σ' => r = some (.int (nI n)) ∧ Pa σ' p ro di ru (n + 1) (K.set n kd) (N.set n nu) (Wt.set n (-1)) D ∧ Fr (fun i => p ≤ i ∧ i ≤ p + 4) σ σ') := by
  obtain ⟨g0, g1, g2, g3, g4, hn7, hK7, hN7, hW7, hD49, hK5, hN9, hD999⟩ := id h
  refine Cn.intro (lv0 := [some (.ref p), some (.int (nI kd)), some (.int (nI nu)), none, none]) rfl (Nat.le_of_ble_eq_true rfl) rfl (fun d hd => ?_)
  refine x_aload_n dX2_welcome_0 rfl ?_
  refine x_get (v := .int (nI n)) f_X2_21 g0 rfl dX2_welcome_1 ?_
  refine x_istore_n dX2_welcome_4 (by decide) rfl ?_
  refine x_lv (lv' := [some (.ref p), some (.int (nI kd)), some (.int (nI nu)), some (.int (nI n)), none]) rfl ?_
  refine x_iload_n dX2_welcome_5 rfl ?_
  refine x_bipush (v := nI 7) dX2_welcome_6 (by decide) ?_
  refine x_icmpN_lt (tgt := 14) dX2_welcome_8 (by decide) (by omega) (by omega) (fun h1 => ?_) (fun h1 => ?_)
  · refine x_aload_n dX2_welcome_14 rfl ?_
    refine x_dup dX2_welcome_15 rfl ?_
    refine x_get (v := .int (nI n)) f_X2_21 g0 rfl dX2_welcome_16 ?_
    refine x_iconst (v := nI 1) dX2_welcome_19 (by decide) ?_
    refine x_iaddN dX2_welcome_20 ?_
    refine x_put f_X2_21 g0 (Nat.le_of_ble_eq_true rfl) (fun c => ⟨rfl, rfl⟩) dX2_welcome_21 ?_
    refine x_st (σ' := (zs σ p (.inr (.inr (1, [.int ro, .int di, .int ru, .int (nI (n + 1)), .ref (p + 1), .ref (p + 2), .ref (p + 3), .ref (p + 4)]))))) rfl ?_
    refine x_aload_n dX2_welcome_24 rfl ?_
    refine x_get (v := .ref (p + 1)) f_X2_24 (zs_eq g0) rfl dX2_welcome_25 ?_
    refine x_iload_n dX2_welcome_28 rfl ?_
    refine x_iload_n dX2_welcome_29 rfl ?_
    refine x_iast (n := n) (zs_ne (by omega) g1) rfl (by simp only [List.length_map, List.length_set, zcpy_len, *] <;> omega) dX2_welcome_30 ?_
    refine x_st (σ' := (zs (zs σ p (.inr (.inr (1, [.int ro, .int di, .int ru, .int (nI (n + 1)), .ref (p + 1), .ref (p + 2), .ref (p + 3), .ref (p + 4)])))) (p + 1) (.inl (0, ((K.map nI).set n (nI kd)))))) rfl ?_
    refine x_aload_n dX2_welcome_31 rfl ?_
    refine x_get (v := .ref (p + 2)) f_X2_28 (zs_ne (by omega) (zs_eq g0)) rfl dX2_welcome_32 ?_
    refine x_iload_n dX2_welcome_35 rfl ?_
    refine x_iload_n dX2_welcome_36 rfl ?_
    refine x_iast (n := n) (zs_ne (by omega) (zs_ne (by omega) g2)) rfl (by simp only [List.length_map, List.length_set, zcpy_len, *] <;> omega) dX2_welcome_37 ?_
    refine x_st (σ' := (zs (zs (zs σ p (.inr (.inr (1, [.int ro, .int di, .int ru, .int (nI (n + 1)), .ref (p + 1), .ref (p + 2), .ref (p + 3), .ref (p + 4)])))) (p + 1) (.inl (0, ((K.map nI).set n (nI kd))))) (p + 2) (.inl (0, ((N.map nI).set n (nI nu)))))) rfl ?_
    refine x_aload_n dX2_welcome_38 rfl ?_
    refine x_get (v := .ref (p + 3)) f_X2_31 (zs_ne (by omega) (zs_ne (by omega) (zs_eq g0))) rfl dX2_welcome_39 ?_
    refine x_iload_n dX2_welcome_42 rfl ?_
    refine x_iconst (v := (-1)) dX2_welcome_43 (by decide) ?_
    refine x_iast (n := n) (zs_ne (by omega) (zs_ne (by omega) (zs_ne (by omega) g3))) rfl (by simp only [List.length_map, List.length_set, zcpy_len, *] <;> omega) dX2_welcome_44 ?_
    refine x_st (σ' := (zs (zs (zs (zs σ p (.inr (.inr (1, [.int ro, .int di, .int ru, .int (nI (n + 1)), .ref (p + 1), .ref (p + 2), .ref (p + 3), .ref (p + 4)])))) (p + 1) (.inl (0, ((K.map nI).set n (nI kd))))) (p + 2) (.inl (0, ((N.map nI).set n (nI nu))))) (p + 3) (.inl (0, (Wt.set n ((-1))))))) rfl ?_
    refine x_iconst (v := nI 0) dX2_welcome_45 (by decide) ?_
    refine x_istore dX2_welcome_46 (by decide) rfl ?_
    refine x_lv (lv' := [some (.ref p), some (.int (nI kd)), some (.int (nI nu)), some (.int (nI n)), some (.int (nI 0))]) rfl ?_
    have hP : Pa (zs (zs (zs (zs σ p (.inr (.inr (1, [.int ro, .int di, .int ru, .int (nI (n + 1)), .ref (p + 1), .ref (p + 2), .ref (p + 3), .ref (p + 4)])))) (p + 1) (.inl (0, ((K.map nI).set n (nI kd))))) (p + 2) (.inl (0, ((N.map nI).set n (nI nu))))) (p + 3) (.inl (0, (Wt.set n ((-1)))))) p ro di ru (n + 1) (K.set n kd) (N.set n nu) (Wt.set n (-1)) D := ⟨(zs_ne (by omega) (zs_ne (by omega) (zs_ne (by omega) (zs_eq g0)))), by rw [← gm_set]; exact (zs_ne (by omega) (zs_ne (by omega) (zs_eq (zs_ne (by omega) g1)))), by rw [← gm_set]; exact (zs_ne (by omega) (zs_eq (zs_ne (by omega) (zs_ne (by omega) g2)))), (zs_eq (zs_ne (by omega) (zs_ne (by omega) (zs_ne (by omega) g3)))), (zs_ne (by omega) (zs_ne (by omega) (zs_ne (by omega) (zs_ne (by omega) g4)))), by omega, by rw [List.length_set]; exact hK7, by rw [List.length_set]; exact hN7, by rw [List.length_set]; exact hW7, hD49, getD_set_le hK5 hkd, getD_set_le hN9 hnu, hD999⟩
    exact l_welcome rfl hz hd (n + 1) 0 _ hP ((((Fr.rf.zs ⟨by omega, by omega⟩).zs ⟨by omega, by omega⟩).zs ⟨by omega, by omega⟩).zs ⟨by omega, by omega⟩) (by omega)
  · exact absurd h1 (by omega)
