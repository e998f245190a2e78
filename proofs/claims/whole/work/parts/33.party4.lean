set_option maxHeartbeats 4000000 in
theorem l_draw1 {σ0 : ZS} {p : Nat} {ro di ru : Int32} {n : Nat} {K N : List Nat} {Wt : List Int32} {x : Int32 × List Nat} {sd : Int32} {D0 : List Nat} {i : Nat} (hi : i < n) {d : Nat} (hd : 1 ≤ d) (hout : ∀ σ', Pa σ' p ro di ru n K N Wt (drIn i n x).2 → Fr (fun i => p ≤ i ∧ i ≤ p + 4) σ0 σ' → X M_X2_drawDebts d 0 0 (fun r σ' => r = none ∧ Pa σ' p ro di ru n K N Wt (drOut n n (sd, D0)).2 ∧ Fr (fun i => p ≤ i ∧ i ≤ p + 4) σ0 σ') 0 0 4 [some (.ref p), some (.int sd), some (.int (drIn i n x).1), some (.int (nI (i + 1))), none] [] σ') : ∀ (m j : Nat) (σ : ZS) (h : Pa σ p ro di ru n K N Wt (drIn i j x).2) (hF : Fr (fun i => p ≤ i ∧ i ≤ p + 4) σ0 σ), j + m = n → X M_X2_drawDebts d 0 0 (fun r σ' => r = none ∧ Pa σ' p ro di ru n K N Wt (drOut n n (sd, D0)).2 ∧ Fr (fun i => p ≤ i ∧ i ≤ p + 4) σ0 σ') 0 0 15 [some (.ref p), some (.int sd), some (.int ((drIn i j x).1)), some (.int (nI i)), some (.int (nI j))] [] σ := by
  intro m
  induction m with
  | zero =>
    intro j σ h hF hk
    obtain ⟨g0, g1, g2, g3, g4, hn7, hK7, hN7, hW7, hD49, hK5, hN9, hD999⟩ := id h
    refine x_iload dX2_drawDebts_15 rfl ?_
    refine x_aload_n dX2_drawDebts_17 rfl ?_
    refine x_get (v := .int (nI n)) f_X2_21 g0 rfl dX2_drawDebts_18 ?_
    refine x_icmpN_ge (tgt := 59) dX2_drawDebts_21 (by decide) (by omega) (by omega) (fun h1 => ?_) (fun h1 => ?_)
    · refine x_iincN dX2_drawDebts_59 rfl (by decide) rfl ?_
      refine x_goto (tgt := 4) dX2_drawDebts_62 (by decide) ?_
      refine x_drop 4 ?_
      obtain rfl : j = n := by omega
      exact hout σ h hF
    · exact absurd h1 (by omega)
  | succ m ih =>
    intro j σ h hF hk
    obtain ⟨g0, g1, g2, g3, g4, hn7, hK7, hN7, hW7, hD49, hK5, hN9, hD999⟩ := id h
    refine x_iload dX2_drawDebts_15 rfl ?_
    refine x_aload_n dX2_drawDebts_17 rfl ?_
    refine x_get (v := .int (nI n)) f_X2_21 g0 rfl dX2_drawDebts_18 ?_
    refine x_icmpN_ge (tgt := 59) dX2_drawDebts_21 (by decide) (by omega) (by omega) (fun h1 => ?_) (fun h1 => ?_)
    · exact absurd h1 (by omega)
    · refine x_iload_n dX2_drawDebts_24 rfl ?_
      refine x_iload dX2_drawDebts_25 rfl ?_
      refine x_icmpN_eq (tgt := 53) dX2_drawDebts_27 (by decide) (by omega) (by omega) (fun h2 => ?_) (fun h2 => ?_)
      · refine x_iincN dX2_drawDebts_53 rfl (by decide) rfl ?_
        refine x_lv (lv' := [some (.ref p), some (.int sd), some (.int ((drIn i j x).1)), some (.int (nI i)), some (.int (nI (j + 1)))]) rfl ?_
        refine x_goto (tgt := 15) dX2_drawDebts_56 (by decide) ?_
        have e := ih (j + 1) σ (by rw [drIn, if_pos h2]; exact h) hF (by omega)
        rw [drIn, if_pos h2] at e
        exact e
      · refine x_iload_n dX2_drawDebts_30 rfl ?_
        refine x_ldc (v := (1103515245)) c_X2_72 dX2_drawDebts_31 ?_
        refine x_topi (y := nI 1103515245) (by decide) ?_
        refine x_imul dX2_drawDebts_33 ?_
        refine x_sipush (v := nI 12345) dX2_drawDebts_34 (by decide) ?_
        refine x_iadd dX2_drawDebts_37 ?_
        refine x_topi (y := (drZ (drIn i j x).1)) rfl ?_
        refine x_istore_n dX2_drawDebts_38 (by decide) rfl ?_
        refine x_lv (lv' := [some (.ref p), some (.int sd), some (.int ((drZ (drIn i j x).1))), some (.int (nI i)), some (.int (nI j))]) rfl ?_
        refine x_aload_n dX2_drawDebts_39 rfl ?_
        refine x_iload_n dX2_drawDebts_40 rfl ?_
        refine x_iload dX2_drawDebts_41 rfl ?_
        refine x_iload_n dX2_drawDebts_43 rfl ?_
        refine x_bipush (v := nI 9) dX2_drawDebts_44 (by decide) ?_
        refine x_iushr dX2_drawDebts_46 ?_
        refine x_topi (y := nI (((drZ (drIn i j x).1).toBitVec.toNat / 512))) (drV_eq _) ?_
        have hz9 := (drZ (drIn i j x).1).toBitVec.isLt
        refine x_bipush (v := nI 100) dX2_drawDebts_47 (by decide) ?_
        refine x_iremN (by omega) (by omega) (by omega) dX2_drawDebts_49 ?_
        refine x_callV m_X2_setDebt l_X2_43 (c_setDebt h (by omega) (by omega)) rfl g0 (by omega) rfl rfl (Nat.le_of_ble_eq_true rfl) ⟨Nat.le_refl _, Nat.le_refl _⟩ dX2_drawDebts_50 (fun r3 s3 q3 => ?_)
        obtain ⟨rfl, rfl⟩ := q3
        refine x_stk (st' := []) rfl ?_
        refine x_iincN dX2_drawDebts_53 rfl (by decide) rfl ?_
        refine x_lv (lv' := [some (.ref p), some (.int sd), some (.int ((drZ (drIn i j x).1))), some (.int (nI i)), some (.int (nI (j + 1)))]) rfl ?_
        refine x_goto (tgt := 15) dX2_drawDebts_56 (by decide) ?_
        have hP := h.setD (D' := (drIn i j x).2.set (i * 7 + j) (drV (drZ (drIn i j x).1))) (by rw [List.length_set]; exact hD49) (getD_set_le hD999 (Nat.le_trans (drV_le _) (by decide)))
        have e := ih (j + 1) _ (by rw [drIn, if_neg h2]; exact hP) (hF.zs ⟨by omega, by omega⟩) (by omega)
        rw [drIn, if_neg h2] at e
        exact e
set_option maxHeartbeats 4000000 in
theorem l_draw2 {σ0 : ZS} {p : Nat} {ro di ru : Int32} {n : Nat} {K N : List Nat} {Wt : List Int32} {sd : Int32} {D0 : List Nat} {d : Nat} (hd : 1 ≤ d) : ∀ (m i : Nat) (σ : ZS) (h : Pa σ p ro di ru n K N Wt (drOut n i (sd, D0)).2) (hF : Fr (fun i => p ≤ i ∧ i ≤ p + 4) σ0 σ), i + m = n → X M_X2_drawDebts d 0 0 (fun r σ' => r = none ∧ Pa σ' p ro di ru n K N Wt (drOut n n (sd, D0)).2 ∧ Fr (fun i => p ≤ i ∧ i ≤ p + 4) σ0 σ') 0 0 4 [some (.ref p), some (.int sd), some (.int ((drOut n i (sd, D0)).1)), some (.int (nI i)), none] [] σ := by
  intro m
  induction m with
  | zero =>
    intro i σ h hF hk
    obtain ⟨g0, g1, g2, g3, g4, hn7, hK7, hN7, hW7, hD49, hK5, hN9, hD999⟩ := id h
    refine x_iload_n dX2_drawDebts_4 rfl ?_
    refine x_aload_n dX2_drawDebts_5 rfl ?_
    refine x_get (v := .int (nI n)) f_X2_21 g0 rfl dX2_drawDebts_6 ?_
    refine x_icmpN_ge (tgt := 65) dX2_drawDebts_9 (by decide) (by omega) (by omega) (fun h1 => ?_) (fun h1 => ?_)
    · exact x_vret ⟨Nat.le_refl _, Nat.le_refl _⟩ rfl dX2_drawDebts_65 ⟨rfl, by have e := h; rw [show i = n by omega] at e; exact e, hF⟩
    · exact absurd h1 (by omega)
  | succ m ih =>
    intro i σ h hF hk
    obtain ⟨g0, g1, g2, g3, g4, hn7, hK7, hN7, hW7, hD49, hK5, hN9, hD999⟩ := id h
    refine x_iload_n dX2_drawDebts_4 rfl ?_
    refine x_aload_n dX2_drawDebts_5 rfl ?_
    refine x_get (v := .int (nI n)) f_X2_21 g0 rfl dX2_drawDebts_6 ?_
    refine x_icmpN_ge (tgt := 65) dX2_drawDebts_9 (by decide) (by omega) (by omega) (fun h1 => ?_) (fun h1 => ?_)
    · exact absurd h1 (by omega)
    · refine x_iconst (v := nI 0) dX2_drawDebts_12 (by decide) ?_
      refine x_istore dX2_drawDebts_13 (by decide) rfl ?_
      refine x_lv (lv' := [some (.ref p), some (.int sd), some (.int ((drOut n i (sd, D0)).1)), some (.int (nI i)), some (.int (nI 0))]) rfl ?_
      refine x_lv (lv' := [some (.ref p), some (.int sd), some (.int (drIn i 0 (drOut n i (sd, D0))).1), some (.int (nI i)), some (.int (nI 0))]) rfl ?_
      exact l_draw1 (by omega) hd (fun σ' h' hF' => ih (i + 1) σ' h' hF' (by omega)) n 0 σ h hF (by omega)
set_option maxHeartbeats 4000000 in
theorem c_drawDebts {σ : ZS} {p : Nat} {ro di ru : Int32} {n : Nat} {K N : List Nat} {Wt : List Int32} {D : List Nat} (h : Pa σ p ro di ru n K N Wt D) (sd : Int32) : Cn 1 M_X2_drawDebts 0 0 [.ref p, .int sd] σ (fun r σ' => r = none ∧ Pa σ' p ro di ru n K N Wt (drOut n n (sd, D)).2 ∧ Fr (fun i => p ≤ i ∧ i ≤ p + 4) σ σ') := by
  obtain ⟨g0, g1, g2, g3, g4, hn7, hK7, hN7, hW7, hD49, hK5, hN9, hD999⟩ := id h
  refine Cn.intro (lv0 := [some (.ref p), some (.int sd), none, none, none]) rfl (Nat.le_of_ble_eq_true rfl) rfl (fun d hd => ?_)
  refine x_iload_n dX2_drawDebts_0 rfl ?_
  refine x_istore_n dX2_drawDebts_1 (by decide) rfl ?_
  refine x_lv (lv' := [some (.ref p), some (.int sd), some (.int sd), none, none]) rfl ?_
  refine x_iconst (v := nI 0) dX2_drawDebts_2 (by decide) ?_
  refine x_istore_n dX2_drawDebts_3 (by decide) rfl ?_
  refine x_lv (lv' := [some (.ref p), some (.int sd), some (.int sd), some (.int (nI 0)), none]) rfl ?_
  exact l_draw2 (D0 := D) hd n 0 σ h Fr.rf (by omega)
