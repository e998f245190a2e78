/-! the class: bars, borrow, company -/
theorem cmpR_spec {an : Nat → Bool} : ∀ (q k F : Nat), (cmpR an q k F = F ∧ ∀ b, k ≤ b → b < k + q → an b = true → popc b ≤ popc F) ∨ (k ≤ cmpR an q k F ∧ cmpR an q k F < k + q ∧ an (cmpR an q k F) = true ∧ popc F < popc (cmpR an q k F) ∧ (∀ b, k ≤ b → b < k + q → an b = true → popc b ≤ popc (cmpR an q k F)) ∧ ∀ b, k ≤ b → b < cmpR an q k F → an b = true → popc b < popc (cmpR an q k F))
  | 0, k, F => Or.inl ⟨rfl, fun b h1 h2 => absurd h2 (by omega)⟩
  | q + 1, k, F => by
    rw [cmpR]
    by_cases c : popc F < popc k ∧ an k = true
    · rw [if_pos c]
      rcases cmpR_spec (an := an) q (k + 1) k with ⟨h1, h2⟩ | ⟨h1, h2, h3, h4, h5, h6⟩
      · rw [h1]
        refine Or.inr ⟨Nat.le_refl _, by omega, c.2, c.1, fun b b1 b2 b3 => ?_, fun b b1 b2 => absurd b2 (by omega)⟩
        by_cases e : b = k
        · rw [e]; exact Nat.le_refl _
        · exact h2 b (by omega) (by omega) b3
      · refine Or.inr ⟨by omega, by omega, h3, by omega, fun b b1 b2 b3 => ?_, fun b b1 b2 b3 => ?_⟩
        · by_cases e : b = k
          · rw [e]; omega
          · exact h5 b (by omega) (by omega) b3
        · by_cases e : b = k
          · rw [e]; exact h4
          · exact h6 b (by omega) b2 b3
    · rw [if_neg c]
      rcases cmpR_spec (an := an) q (k + 1) F with ⟨h1, h2⟩ | ⟨h1, h2, h3, h4, h5, h6⟩
      · rw [h1]
        refine Or.inl ⟨rfl, fun b b1 b2 b3 => ?_⟩
        by_cases e : b = k
        · rw [e] at b3 ⊢
          exact Nat.le_of_not_lt (fun z => c ⟨z, b3⟩)
        · exact h2 b (by omega) (by omega) b3
      · have hk : an k = true → popc k ≤ popc F := fun b3 => Nat.le_of_not_lt (fun z => c ⟨z, b3⟩)
        refine Or.inr ⟨by omega, by omega, h3, h4, fun b b1 b2 b3 => ?_, fun b b1 b2 b3 => ?_⟩
        · by_cases e : b = k
          · rw [e] at b3 ⊢; have := hk b3; omega
          · exact h5 b (by omega) (by omega) b3
        · by_cases e : b = k
          · rw [e] at b3 ⊢; have := hk b3; omega
          · exact h6 b (by omega) b2 b3
theorem popc_z : popc 0 = 0 := by decide
theorem cmpR_hit {an : Nat → Bool} {q x : Nat} (h1 : 1 ≤ x) (h2 : x < 1 + q) (hx : an x = true) (h0 : 0 < popc x) (hm : ∀ b, 1 ≤ b → b < 1 + q → an b = true → popc b ≤ popc x) (hl : ∀ b, 1 ≤ b → b < x → an b = true → popc b < popc x) : cmpR an q 1 0 = x := by
  rcases cmpR_spec (an := an) q 1 0 with ⟨_, e2⟩ | ⟨e1, e2, e3, e4, e5, e6⟩
  · have := e2 x h1 h2 hx
    rw [popc_z] at this
    omega
  · have a1 := e5 x h1 h2 hx
    have a2 := hm _ e1 e2 e3
    by_cases c : cmpR an q 1 0 < x
    · have := hl _ e1 c e3
      omega
    · by_cases d : x < cmpR an q 1 0
      · have := e6 x h1 d hx
        omega
      · omega
theorem cmpR_miss {an : Nat → Bool} {q : Nat} (hm : ∀ b, 1 ≤ b → b < 1 + q → an b = true → popc b ≤ 0) : cmpR an q 1 0 = 0 := by
  rcases cmpR_spec (an := an) q 1 0 with ⟨e1, _⟩ | ⟨e1, e2, e3, e4, e5, e6⟩
  · exact e1
  · have := hm _ e1 e2 e3
    omega
set_option maxHeartbeats 4000000 in
theorem l_bars {σ0 : ZS} {tx ik : Int32} {rr dn ru n : Nat} {K N : List Nat} {W : List Int32} {D : List Nat} (hr1 : rr ≤ 1) (hn7 : n ≤ 7) {d : Nat} (hd : 13 ≤ d) : ∀ (q k : Nat) (σ : ZS) (k0 : zg σ 0 = some (.inr (.inr (6, [.ref 1, .ref 6, .ref 11, .ref 16, .ref 22, .ref 28, .ref 31, .int tx, .int ik])))) (h : Pa σ 1 (nI rr) (nI dn) (nI ru) n K N W D) (hJ : SeJ σ) (hF : Fr (fun i => 22 ≤ i ∧ i ≤ 27) σ0 σ), k + q = n → X M_X7_bars d 0 0 (fun r9 σ' => r9 = some (.int (oI (ffrom (fun p => decide (0 < (lwf (decide (rr = 1)) (2 ^ n - 1) (wlS K N D n (2 ^ n - 1) (nI p))).length)) q k))) ∧ SeJ σ' ∧ Fr (fun i => 22 ≤ i ∧ i ≤ 27) σ0 σ') 0 0 23 [some (.ref 0), some (.int (nI k))] [] σ := by
  intro q
  induction q with
  | zero =>
    intro k σ k0 h hJ hF hk
    refine x_iload_n dX7_bars_23 rfl ?_
    refine x_aload_n dX7_bars_24 rfl ?_
    refine x_get (v := .ref 1) f_X7_10 k0 rfl dX7_bars_25 ?_
    refine x_get (v := .int (nI n)) f_X7_98 h.1 rfl dX7_bars_28 ?_
    refine x_icmpN_ge (tgt := 61) dX7_bars_31 (by decide) (by omega) (by omega) (fun hv1 => ?_) (fun hv1 => ?_)
    · refine x_iconst (v := (-1)) dX7_bars_61 (by decide) ?_
      exact x_iret ⟨Nat.le_refl _, Nat.le_refl _⟩ rfl dX7_bars_62 ⟨rfl, hJ, hF⟩
    · exact absurd hv1 (by omega)
  | succ q ih =>
    intro k σ k0 h hJ hF hk
    refine x_iload_n dX7_bars_23 rfl ?_
    refine x_aload_n dX7_bars_24 rfl ?_
    refine x_get (v := .ref 1) f_X7_10 k0 rfl dX7_bars_25 ?_
    refine x_get (v := .int (nI n)) f_X7_98 h.1 rfl dX7_bars_28 ?_
    refine x_icmpN_ge (tgt := 61) dX7_bars_31 (by decide) (by omega) (by omega) (fun hv1 => ?_) (fun hv1 => ?_)
    · exact absurd hv1 (by omega)
    · refine x_aload_n dX7_bars_34 rfl ?_
      refine x_aload_n dX7_bars_35 rfl ?_
      refine x_get (v := .ref 1) f_X7_10 k0 rfl dX7_bars_36 ?_
      refine x_aload_n dX7_bars_39 rfl ?_
      refine x_get (v := .ref 1) f_X7_10 k0 rfl dX7_bars_40 ?_
      refine x_callV m_X2_everybody l_X7_121 (c_everybody h) rfl h.1 (by omega) rfl rfl (Nat.le_of_ble_eq_true rfl) ⟨Nat.le_refl _, Nat.le_refl _⟩ dX7_bars_43 (fun r2 s2 q2 => ?_)
      obtain ⟨rfl, eq2⟩ := q2
      obtain rfl := eq2.symm
      refine x_stk (st' := [.int (nI ((2 ^ n - 1))), .ref 1, .ref 0]) rfl ?_
      refine x_iload_n dX7_bars_46 rfl ?_
      refine x_callV m_X7_isAnyTable l_X7_227 (c_anyTable k0 (Or.inl rfl) h hr1 hJ (A := (2 ^ n - 1)) (e := (nI k)) (all_bit n hn7).2 (fun q hq => all_in hq)) rfl k0 (by omega) rfl rfl (Nat.le_of_ble_eq_true rfl) ⟨Nat.le_refl _, Nat.le_refl _⟩ dX7_bars_47 (fun r3 s3 q3 => ?_)
      obtain ⟨rfl, J3, F3⟩ := q3
      refine x_stk (st' := [.int (bI (decide (0 < (lwf (decide (rr = 1)) (2 ^ n - 1) (wlS K N D n (2 ^ n - 1) (nI k))).length)))]) rfl ?_
      refine x_ifP_eq (P := 0 < (lwf (decide (rr = 1)) (2 ^ n - 1) (wlS K N D n (2 ^ n - 1) (nI k))).length) inferInstance (tgt := 55) dX7_bars_50 (by decide) (fun hv4 => ?_) (fun hv4 => ?_)
      · refine x_iincN dX7_bars_55 rfl (by decide) rfl ?_
        refine x_lv (lv' := [some (.ref 0), some (.int (nI (k + 1)))]) rfl ?_
        refine x_goto (tgt := 23) dX7_bars_58 (by decide) ?_
        have e9 : ffrom (fun p => decide (0 < (lwf (decide (rr = 1)) (2 ^ n - 1) (wlS K N D n (2 ^ n - 1) (nI p))).length)) (q + 1) k = ffrom (fun p => decide (0 < (lwf (decide (rr = 1)) (2 ^ n - 1) (wlS K N D n (2 ^ n - 1) (nI p))).length)) q (k + 1) := by rw [ffrom, if_neg (fun z => hv4 (of_decide_eq_true z))]
        rw [e9]
        exact ih (k + 1) s3 (F3.at (by omega) k0) (h.fr F3 (by omega)) J3 (hF.tr (Fr.rf.tr (F3.mono (fun i hi => by omega)))) (by omega)
      · refine x_iload_n dX7_bars_53 rfl ?_
        exact x_iret ⟨Nat.le_refl _, Nat.le_refl _⟩ rfl dX7_bars_54 ⟨by rw [ffrom, if_pos (decide_eq_true hv4)]; rfl, J3, hF.tr (Fr.rf.tr (F3.mono (fun i hi => by omega)))⟩
set_option maxHeartbeats 4000000 in
theorem c_bars {σ : ZS} {tx ik : Int32} {rr dn ru n : Nat} {K N : List Nat} {W : List Int32} {D : List Nat} (hr1 : rr ≤ 1) (k0 : zg σ 0 = some (.inr (.inr (6, [.ref 1, .ref 6, .ref 11, .ref 16, .ref 22, .ref 28, .ref 31, .int tx, .int ik])))) (h : Pa σ 1 (nI rr) (nI dn) (nI ru) n K N W D) (hJ : SeJ σ) : Cn 13 M_X7_bars 0 0 [.ref 0] σ (fun r9 σ' => r9 = some (.int (barS (decide (rr = 1)) n K N D)) ∧ SeJ σ' ∧ Fr (fun i => 22 ≤ i ∧ i ≤ 27) σ σ') := by
  have hn7 := h.2.2.2.2.2.1
  refine Cn.intro (lv0 := [some (.ref 0), none]) rfl (Nat.le_of_ble_eq_true rfl) rfl (fun d hd => ?_)
  refine x_aload_n dX7_bars_0 rfl ?_
  refine x_aload_n dX7_bars_1 rfl ?_
  refine x_get (v := .ref 1) f_X7_10 k0 rfl dX7_bars_2 ?_
  refine x_aload_n dX7_bars_5 rfl ?_
  refine x_get (v := .ref 1) f_X7_10 k0 rfl dX7_bars_6 ?_
  refine x_callV m_X2_everybody l_X7_121 (c_everybody h) rfl h.1 (by omega) rfl rfl (Nat.le_of_ble_eq_true rfl) ⟨Nat.le_refl _, Nat.le_refl _⟩ dX7_bars_9 (fun r1 s1 q1 => ?_)
  obtain ⟨rfl, eq1⟩ := q1
  obtain rfl := eq1.symm
  refine x_stk (st' := [.int (nI ((2 ^ n - 1))), .ref 1, .ref 0]) rfl ?_
  refine x_iconst (v := (-1)) dX7_bars_12 (by decide) ?_
  refine x_callV m_X7_isAnyTable l_X7_227 (c_anyTable k0 (Or.inl rfl) h hr1 hJ (A := (2 ^ n - 1)) (e := ((-1))) (all_bit n hn7).2 (fun q hq => all_in hq)) rfl k0 (by omega) rfl rfl (Nat.le_of_ble_eq_true rfl) ⟨Nat.le_refl _, Nat.le_refl _⟩ dX7_bars_13 (fun r2 s2 q2 => ?_)
  obtain ⟨rfl, J2, F2⟩ := q2
  refine x_stk (st' := [.int (bI (decide (0 < (lwf (decide (rr = 1)) (2 ^ n - 1) (wlS K N D n (2 ^ n - 1) ((-1)))).length)))]) rfl ?_
  refine x_ifP_eq (P := 0 < (lwf (decide (rr = 1)) (2 ^ n - 1) (wlS K N D n (2 ^ n - 1) ((-1)))).length) inferInstance (tgt := 21) dX7_bars_16 (by decide) (fun hv3 => ?_) (fun hv3 => ?_)
  · refine x_iconst (v := nI 0) dX7_bars_21 (by decide) ?_
    refine x_istore_n dX7_bars_22 (by decide) rfl ?_
    refine x_lv (lv' := [some (.ref 0), some (.int (nI 0))]) rfl ?_
    have e9 : barS (decide (rr = 1)) n K N D = oI (ffrom (fun p => decide (0 < (lwf (decide (rr = 1)) (2 ^ n - 1) (wlS K N D n (2 ^ n - 1) (nI p))).length)) n 0) := by rw [barS, if_neg hv3]
    rw [e9]
    exact l_bars (σ0 := σ) hr1 hn7 hd n 0 s2 (F2.at (by omega) k0) (h.fr F2 (by omega)) J2 (Fr.rf.tr (F2.mono (fun i hi => by omega))) (by omega)
  · refine x_iconst (v := (-1)) dX7_bars_19 (by decide) ?_
    exact x_iret ⟨Nat.le_refl _, Nat.le_refl _⟩ rfl dX7_bars_20 ⟨by rw [barS, if_pos hv3], J2, (Fr.rf.tr (F2.mono (fun i hi => by omega)))⟩
set_option maxHeartbeats 4000000 in
theorem l_comp1 {σ0 : ZS} {tx ik : Int32} {rr dn ru n : Nat} {K N : List Nat} {W : List Int32} {D : List Nat} (hr1 : rr ≤ 1) (hn7 : n ≤ 7) {s : Nat} (hs : 0 < s) (hs7 : s ≤ 7) (hm : ∀ b, 1 ≤ b → b < 1 + (2 ^ n - 1) → anB (decide (rr = 1)) n K N D b = true → popc b ≤ s) {d : Nat} (hd : 13 ≤ d) (hout : ∀ (σ : ZS) (k0 : zg σ 0 = some (.inr (.inr (6, [.ref 1, .ref 6, .ref 11, .ref 16, .ref 22, .ref 28, .ref 31, .int tx, .int ik])))) (h : Pa σ 1 (nI rr) (nI dn) (nI ru) n K N W D) (hJ : SeJ σ) (hF : Fr (fun i => 22 ≤ i ∧ i ≤ 27) σ0 σ) (hlt : ∀ b, 1 ≤ b → b < 1 + (2 ^ n - 1) → anB (decide (rr = 1)) n K N D b = true → popc b < s), X M_X7_largestCompany d 0 0 (fun r9 σ' => r9 = some (.int (nI (cmpR (anB (decide (rr = 1)) n K N D) (2 ^ n - 1) 1 0))) ∧ SeJ σ' ∧ Fr (fun i => 22 ≤ i ∧ i ≤ 27) σ0 σ') 0 0 54 [some (.ref 0), some (.int (nI s)), none] [] σ) : ∀ (q x : Nat) (σ : ZS) (k0 : zg σ 0 = some (.inr (.inr (6, [.ref 1, .ref 6, .ref 11, .ref 16, .ref 22, .ref 28, .ref 31, .int tx, .int ik])))) (h : Pa σ 1 (nI rr) (nI dn) (nI ru) n K N W D) (hJ : SeJ σ) (hF : Fr (fun i => 22 ≤ i ∧ i ≤ 27) σ0 σ) (hx1 : 1 ≤ x) (hl : ∀ b, 1 ≤ b → b < x → anB (decide (rr = 1)) n K N D b = true → popc b < s), x + q = 1 + (2 ^ n - 1) → X M_X7_largestCompany d 0 0 (fun r9 σ' => r9 = some (.int (nI (cmpR (anB (decide (rr = 1)) n K N D) (2 ^ n - 1) 1 0))) ∧ SeJ σ' ∧ Fr (fun i => 22 ≤ i ∧ i ≤ 27) σ0 σ') 0 0 14 [some (.ref 0), some (.int (nI s)), some (.int (nI x))] [] σ := by
  have h2n := Nat.one_le_two_pow (n := n)
  have h27 := two_le hn7
  intro q
  induction q with
  | zero =>
    intro x σ k0 h hJ hF hx1 hl hk
    refine x_iload_n dX7_largestCompany_14 rfl ?_
    refine x_aload_n dX7_largestCompany_15 rfl ?_
    refine x_get (v := .ref 1) f_X7_10 k0 rfl dX7_largestCompany_16 ?_
    refine x_callV m_X2_everybody l_X7_121 (c_everybody h) rfl h.1 (by omega) rfl rfl (Nat.le_of_ble_eq_true rfl) ⟨Nat.le_refl _, Nat.le_refl _⟩ dX7_largestCompany_19 (fun r1 s1 q1 => ?_)
    obtain ⟨rfl, eq1⟩ := q1
    obtain rfl := eq1.symm
    refine x_stk (st' := [.int (nI ((2 ^ n - 1))), .int (nI x)]) rfl ?_
    refine x_icmpN_gt (tgt := 54) dX7_largestCompany_22 (by decide) (by omega) (by omega) (fun hv2 => ?_) (fun hv2 => ?_)
    · exact x_drop 2 (hout σ k0 h hJ hF (fun b b1 b2 b3 => hl b b1 (by omega) b3))
    · exact absurd hv2 (by omega)
  | succ q ih =>
    intro x σ k0 h hJ hF hx1 hl hk
    refine x_iload_n dX7_largestCompany_14 rfl ?_
    refine x_aload_n dX7_largestCompany_15 rfl ?_
    refine x_get (v := .ref 1) f_X7_10 k0 rfl dX7_largestCompany_16 ?_
    refine x_callV m_X2_everybody l_X7_121 (c_everybody h) rfl h.1 (by omega) rfl rfl (Nat.le_of_ble_eq_true rfl) ⟨Nat.le_refl _, Nat.le_refl _⟩ dX7_largestCompany_19 (fun r1 s1 q1 => ?_)
    obtain ⟨rfl, eq1⟩ := q1
    obtain rfl := eq1.symm
    refine x_stk (st' := [.int (nI ((2 ^ n - 1))), .int (nI x)]) rfl ?_
    refine x_icmpN_gt (tgt := 54) dX7_largestCompany_22 (by decide) (by omega) (by omega) (fun hv2 => ?_) (fun hv2 => ?_)
    · exact absurd hv2 (by omega)
    · refine x_iload_n dX7_largestCompany_25 rfl ?_
      refine x_callS m_J6_bitCount_0f7a4 l_X7_239 (c_bitCount (by have := two_le hn7; omega)) (by omega) rfl rfl (Nat.le_of_ble_eq_true rfl) ⟨Nat.le_refl _, Nat.le_refl _⟩ dX7_largestCompany_26 (fun r3 s3 q3 => ?_)
      obtain ⟨rfl, eq3⟩ := q3
      obtain rfl := eq3.symm
      refine x_stk (st' := [.int (nI ((popc x)))]) rfl ?_
      have hp9 := popc_le x (by omega)
      refine x_iload_n dX7_largestCompany_29 rfl ?_
      refine x_icmpN_ne (tgt := 48) dX7_largestCompany_30 (by decide) (by omega) (by omega) (fun hv4 => ?_) (fun hv4 => ?_)
      · refine x_iincN dX7_largestCompany_48 rfl (by decide) rfl ?_
        refine x_lv (lv' := [some (.ref 0), some (.int (nI s)), some (.int (nI (x + 1)))]) rfl ?_
        refine x_goto (tgt := 14) dX7_largestCompany_51 (by decide) ?_
        exact ih (x + 1) σ k0 h hJ (hF.tr Fr.rf) (by omega) (fun b b1 b2 b3 => by
          by_cases e : b = x
          · subst e; have := hm b b1 (by omega) b3; omega
          · exact hl b b1 (by omega) b3) (by omega)
      · refine x_aload_n dX7_largestCompany_33 rfl ?_
        refine x_aload_n dX7_largestCompany_34 rfl ?_
        refine x_get (v := .ref 1) f_X7_10 k0 rfl dX7_largestCompany_35 ?_
        refine x_iload_n dX7_largestCompany_38 rfl ?_
        refine x_iconst (v := (-1)) dX7_largestCompany_39 (by decide) ?_
        refine x_callV m_X7_isAnyTable l_X7_227 (c_anyTable k0 (Or.inl rfl) h hr1 hJ (A := x) (e := ((-1))) (by omega) (fun q hq => bits_lt (by omega) hq)) rfl k0 (by omega) rfl rfl (Nat.le_of_ble_eq_true rfl) ⟨Nat.le_refl _, Nat.le_refl _⟩ dX7_largestCompany_40 (fun r5 s5 q5 => ?_)
        obtain ⟨rfl, J5, F5⟩ := q5
        refine x_stk (st' := [.int (bI (decide (0 < (lwf (decide (rr = 1)) x (wlS K N D n x ((-1)))).length)))]) rfl ?_
        refine x_ifP_eq (P := 0 < (lwf (decide (rr = 1)) x (wlS K N D n x ((-1)))).length) inferInstance (tgt := 48) dX7_largestCompany_43 (by decide) (fun hv6 => ?_) (fun hv6 => ?_)
        · refine x_iincN dX7_largestCompany_48 rfl (by decide) rfl ?_
          refine x_lv (lv' := [some (.ref 0), some (.int (nI s)), some (.int (nI (x + 1)))]) rfl ?_
          refine x_goto (tgt := 14) dX7_largestCompany_51 (by decide) ?_
          exact ih (x + 1) s5 (F5.at (by omega) k0) (h.fr F5 (by omega)) J5 (hF.tr (Fr.rf.tr (F5.mono (fun i hi => by omega)))) (by omega) (fun b b1 b2 b3 => by
            by_cases e : b = x
            · subst e; exact absurd (of_decide_eq_true b3) hv6
            · exact hl b b1 (by omega) b3) (by omega)
        · refine x_iload_n dX7_largestCompany_46 rfl ?_
          exact x_iret ⟨Nat.le_refl _, Nat.le_refl _⟩ rfl dX7_largestCompany_47 ⟨by rw [cmpR_hit (x := x) (by omega) (by omega) (show anB (decide (rr = 1)) n K N D x = true from decide_eq_true hv6) (by omega) (fun b b1 b2 b3 => by have := hm b b1 b2 b3; omega) (fun b b1 b2 b3 => by have := hl b b1 b2 b3; omega)], J5, hF.tr (Fr.rf.tr (F5.mono (fun i hi => by omega)))⟩
set_option maxHeartbeats 4000000 in
theorem l_comp2 {σ0 : ZS} {tx ik : Int32} {rr dn ru n : Nat} {K N : List Nat} {W : List Int32} {D : List Nat} (hr1 : rr ≤ 1) (hn7 : n ≤ 7) {d : Nat} (hd : 13 ≤ d) : ∀ (s : Nat) (hs7 : s ≤ 7) (σ : ZS) (k0 : zg σ 0 = some (.inr (.inr (6, [.ref 1, .ref 6, .ref 11, .ref 16, .ref 22, .ref 28, .ref 31, .int tx, .int ik])))) (h : Pa σ 1 (nI rr) (nI dn) (nI ru) n K N W D) (hJ : SeJ σ) (hF : Fr (fun i => 22 ≤ i ∧ i ≤ 27) σ0 σ) (hm : ∀ b, 1 ≤ b → b < 1 + (2 ^ n - 1) → anB (decide (rr = 1)) n K N D b = true → popc b ≤ s), X M_X7_largestCompany d 0 0 (fun r9 σ' => r9 = some (.int (nI (cmpR (anB (decide (rr = 1)) n K N D) (2 ^ n - 1) 1 0))) ∧ SeJ σ' ∧ Fr (fun i => 22 ≤ i ∧ i ≤ 27) σ0 σ') 0 0 8 [some (.ref 0), some (.int (nI s)), none] [] σ := by
  intro s
  induction s with
  | zero =>
    intro hs7 σ k0 h hJ hF hm
    refine x_iload_n dX7_largestCompany_8 rfl ?_
    refine x_ifN_le (tgt := 60) dX7_largestCompany_9 (by decide) (by omega) (fun hv1 => ?_) (fun hv1 => ?_)
    · refine x_iconst (v := nI 0) dX7_largestCompany_60 (by decide) ?_
      exact x_iret ⟨Nat.le_refl _, Nat.le_refl _⟩ rfl dX7_largestCompany_61 ⟨by rw [cmpR_miss hm], hJ, hF⟩
    · exact absurd hv1 (by omega)
  | succ s ih =>
    intro hs7 σ k0 h hJ hF hm
    have h2n := Nat.one_le_two_pow (n := n)
    refine x_iload_n dX7_largestCompany_8 rfl ?_
    refine x_ifN_le (tgt := 60) dX7_largestCompany_9 (by decide) (by omega) (fun hv1 => ?_) (fun hv1 => ?_)
    · exact absurd hv1 (by omega)
    · refine x_iconst (v := nI 1) dX7_largestCompany_12 (by decide) ?_
      refine x_istore_n dX7_largestCompany_13 (by decide) rfl ?_
      refine x_lv (lv' := [some (.ref 0), some (.int (nI (s + 1))), some (.int (nI 1))]) rfl ?_
      refine l_comp1 hr1 hn7 (s := s + 1) (by omega) hs7 hm hd (fun σ k0 h hJ hF hlt => ?_) (2 ^ n - 1) 1 σ k0 h hJ hF (by omega) (fun b b1 b2 => absurd b2 (by omega)) (by omega)
      refine x_iincD dX7_largestCompany_54 rfl (by decide) rfl ?_
      refine x_lv (lv' := [some (.ref 0), some (.int (nI s)), none]) rfl ?_
      refine x_goto (tgt := 8) dX7_largestCompany_57 (by decide) ?_
      exact ih (by omega) σ k0 h hJ hF (fun b b1 b2 b3 => by have := hlt b b1 b2 b3; omega)
set_option maxHeartbeats 4000000 in
theorem c_largest {σ : ZS} {tx ik : Int32} {rr dn ru n : Nat} {K N : List Nat} {W : List Int32} {D : List Nat} (hr1 : rr ≤ 1) (k0 : zg σ 0 = some (.inr (.inr (6, [.ref 1, .ref 6, .ref 11, .ref 16, .ref 22, .ref 28, .ref 31, .int tx, .int ik])))) (h : Pa σ 1 (nI rr) (nI dn) (nI ru) n K N W D) (hJ : SeJ σ) : Cn 13 M_X7_largestCompany 0 0 [.ref 0] σ (fun r9 σ' => r9 = some (.int (nI (cmpR (anB (decide (rr = 1)) n K N D) (2 ^ n - 1) 1 0))) ∧ SeJ σ' ∧ Fr (fun i => 22 ≤ i ∧ i ≤ 27) σ σ') := by
  have hn7 := h.2.2.2.2.2.1
  refine Cn.intro (lv0 := [some (.ref 0), none, none]) rfl (Nat.le_of_ble_eq_true rfl) rfl (fun d hd => ?_)
  refine x_aload_n dX7_largestCompany_0 rfl ?_
  refine x_get (v := .ref 1) f_X7_10 k0 rfl dX7_largestCompany_1 ?_
  refine x_get (v := .int (nI n)) f_X7_98 h.1 rfl dX7_largestCompany_4 ?_
  refine x_istore_n dX7_largestCompany_7 (by decide) rfl ?_
  refine x_lv (lv' := [some (.ref 0), some (.int (nI n)), none]) rfl ?_
  exact l_comp2 (σ0 := σ) hr1 hn7 hd n hn7 σ k0 h hJ Fr.rf (fun b b1 b2 b3 => popc_n n (by omega) b (by have := Nat.one_le_two_pow (n := n); omega))
theorem cmpR_lt {an : Nat → Bool} {q : Nat} : cmpR an q 1 0 < 1 + q := by
  rcases cmpR_spec (an := an) q 1 0 with ⟨e1, _⟩ | ⟨e1, e2, _⟩
  · omega
  · exact e2
set_option maxHeartbeats 4000000 in
theorem c_company0 {σ : ZS} {tx ik : Int32} {rr dn ru n : Nat} {K N : List Nat} {W : List Int32} {D : List Nat} (hr1 : rr ≤ 1) (k0 : zg σ 0 = some (.inr (.inr (6, [.ref 1, .ref 6, .ref 11, .ref 16, .ref 22, .ref 28, .ref 31, .int tx, .int ik])))) (h : Pa σ 1 (nI rr) (nI dn) (nI ru) n K N W D) (hJ : SeJ σ) : Cn 14 M_X7_company 0 0 [.ref 0, .int (nI 0)] σ (fun r9 σ' => r9 = some (.int (nI (cmpR (anB (decide (rr = 1)) n K N D) (2 ^ n - 1) 1 0))) ∧ SeJ σ' ∧ Fr (fun i => 22 ≤ i ∧ i ≤ 27) σ σ') := by
  have hn7 := h.2.2.2.2.2.1
  refine Cn.intro (lv0 := [some (.ref 0), some (.int (nI 0)), none]) rfl (Nat.le_of_ble_eq_true rfl) rfl (fun d hd => ?_)
  refine x_iload_n dX7_company_0 rfl ?_
  refine x_iconst (v := nI 0) dX7_company_1 (by decide) ?_
  refine x_iconst (v := nI 1) dX7_company_2 (by decide) ?_
  refine x_callS m_X7_isWithin l_X7_72 (c_within (p := ((0 : Nat) : Int)) (q := ((0 : Nat) : Int)) (r := ((1 : Nat) : Int)) (nI_toInt (by omega)) (nI_toInt (by omega)) (nI_toInt (by omega))) (by omega) rfl rfl (Nat.le_of_ble_eq_true rfl) ⟨Nat.le_refl _, Nat.le_refl _⟩ dX7_company_3 (fun r1 s1 q1 => ?_)
  obtain ⟨rfl, eq1⟩ := q1
  obtain rfl := eq1.symm
  refine x_stk (st' := [.int (bI (decide (((0 : Nat) : Int) ≤ ((0 : Nat) : Int) ∧ ((0 : Nat) : Int) ≤ ((1 : Nat) : Int))))]) rfl ?_
  refine x_ifP_ne (P := ((0 : Nat) : Int) ≤ ((0 : Nat) : Int) ∧ ((0 : Nat) : Int) ≤ ((1 : Nat) : Int)) inferInstance (tgt := 12) dX7_company_6 (by decide) (fun hv2 => ?_) (fun hv2 => ?_)
  · refine x_aload_n dX7_company_12 rfl ?_
    refine x_callV m_X7_largestCompany l_X7_236 (c_largest hr1 k0 h hJ) rfl k0 (by omega) rfl rfl (Nat.le_of_ble_eq_true rfl) ⟨Nat.le_refl _, Nat.le_refl _⟩ dX7_company_13 (fun r3 s3 q3 => ?_)
    obtain ⟨rfl, J3, F3⟩ := q3
    refine x_stk (st' := [.int (nI ((cmpR (anB (decide (rr = 1)) n K N D) (2 ^ n - 1) 1 0)))]) rfl ?_
    refine x_istore_n dX7_company_16 (by decide) rfl ?_
    refine x_lv (lv' := [some (.ref 0), some (.int (nI 0)), some (.int (nI ((cmpR (anB (decide (rr = 1)) n K N D) (2 ^ n - 1) 1 0))))]) rfl ?_
    refine x_iload_n dX7_company_17 rfl ?_
    refine x_ifN_ne (tgt := 25) dX7_company_18 (by decide) (by omega) (fun hv4 => ?_) (fun hv4 => ?_)
    · exact absurd hv4 (by decide)
    · refine x_iload_n dX7_company_21 rfl ?_
      refine x_goto (tgt := 29) dX7_company_22 (by decide) ?_
      exact x_iret ⟨Nat.le_refl _, Nat.le_refl _⟩ rfl dX7_company_29 ⟨rfl, J3, (Fr.rf.tr (F3.mono (fun i hi => by omega)))⟩
  · exact absurd hv2 (by omega)
set_option maxHeartbeats 4000000 in
theorem c_company1 {σ : ZS} {tx ik : Int32} {rr dn ru n : Nat} {K N : List Nat} {W : List Int32} {D : List Nat} (hr1 : rr ≤ 1) (k0 : zg σ 0 = some (.inr (.inr (6, [.ref 1, .ref 6, .ref 11, .ref 16, .ref 22, .ref 28, .ref 31, .int tx, .int ik])))) (h : Pa σ 1 (nI rr) (nI dn) (nI ru) n K N W D) (hJ : SeJ σ) : Cn 14 M_X7_company 0 0 [.ref 0, .int (nI 1)] σ (fun r9 σ' => r9 = some (.int (nI (popc (cmpR (anB (decide (rr = 1)) n K N D) (2 ^ n - 1) 1 0)))) ∧ SeJ σ' ∧ Fr (fun i => 22 ≤ i ∧ i ≤ 27) σ σ') := by
  have hn7 := h.2.2.2.2.2.1
  refine Cn.intro (lv0 := [some (.ref 0), some (.int (nI 1)), none]) rfl (Nat.le_of_ble_eq_true rfl) rfl (fun d hd => ?_)
  refine x_iload_n dX7_company_0 rfl ?_
  refine x_iconst (v := nI 0) dX7_company_1 (by decide) ?_
  refine x_iconst (v := nI 1) dX7_company_2 (by decide) ?_
  refine x_callS m_X7_isWithin l_X7_72 (c_within (p := ((1 : Nat) : Int)) (q := ((0 : Nat) : Int)) (r := ((1 : Nat) : Int)) (nI_toInt (by omega)) (nI_toInt (by omega)) (nI_toInt (by omega))) (by omega) rfl rfl (Nat.le_of_ble_eq_true rfl) ⟨Nat.le_refl _, Nat.le_refl _⟩ dX7_company_3 (fun r1 s1 q1 => ?_)
  obtain ⟨rfl, eq1⟩ := q1
  obtain rfl := eq1.symm
  refine x_stk (st' := [.int (bI (decide (((0 : Nat) : Int) ≤ ((1 : Nat) : Int) ∧ ((1 : Nat) : Int) ≤ ((1 : Nat) : Int))))]) rfl ?_
  refine x_ifP_ne (P := ((0 : Nat) : Int) ≤ ((1 : Nat) : Int) ∧ ((1 : Nat) : Int) ≤ ((1 : Nat) : Int)) inferInstance (tgt := 12) dX7_company_6 (by decide) (fun hv2 => ?_) (fun hv2 => ?_)
  · refine x_aload_n dX7_company_12 rfl ?_
    refine x_callV m_X7_largestCompany l_X7_236 (c_largest hr1 k0 h hJ) rfl k0 (by omega) rfl rfl (Nat.le_of_ble_eq_true rfl) ⟨Nat.le_refl _, Nat.le_refl _⟩ dX7_company_13 (fun r3 s3 q3 => ?_)
    obtain ⟨rfl, J3, F3⟩ := q3
    refine x_stk (st' := [.int (nI ((cmpR (anB (decide (rr = 1)) n K N D) (2 ^ n - 1) 1 0)))]) rfl ?_
    refine x_istore_n dX7_company_16 (by decide) rfl ?_
    refine x_lv (lv' := [some (.ref 0), some (.int (nI 1)), some (.int (nI ((cmpR (anB (decide (rr = 1)) n K N D) (2 ^ n - 1) 1 0))))]) rfl ?_
    refine x_iload_n dX7_company_17 rfl ?_
    refine x_ifN_ne (tgt := 25) dX7_company_18 (by decide) (by omega) (fun hv4 => ?_) (fun hv4 => ?_)
    · refine x_iload_n dX7_company_25 rfl ?_
      refine x_callS m_J6_bitCount_0f7a4 l_X7_239 (c_bitCount (by have := two_le hn7; have := cmpR_lt (an := (anB (decide (rr = 1)) n K N D)) (q := 2 ^ n - 1); have := Nat.one_le_two_pow (n := n); omega)) (by omega) rfl rfl (Nat.le_of_ble_eq_true rfl) ⟨Nat.le_refl _, Nat.le_refl _⟩ dX7_company_26 (fun r5 s5 q5 => ?_)
      obtain ⟨rfl, eq5⟩ := q5
      obtain rfl := eq5.symm
      refine x_stk (st' := [.int (nI ((popc ((cmpR (anB (decide (rr = 1)) n K N D) (2 ^ n - 1) 1 0)))))]) rfl ?_
      exact x_iret ⟨Nat.le_refl _, Nat.le_refl _⟩ rfl dX7_company_29 ⟨rfl, J3, (Fr.rf.tr (F3.mono (fun i hi => by omega)))⟩
    · exact absurd hv4 (by decide)
  · exact absurd hv2 (by omega)
set_option maxHeartbeats 4000000 in
theorem c_company_b {σ : ZS} {tx ik : Int32} (k0 : zg σ 0 = some (.inr (.inr (6, [.ref 1, .ref 6, .ref 11, .ref 16, .ref 22, .ref 28, .ref 31, .int tx, .int ik])))) {x : Int32} (hx : ¬ (0 ≤ x.toInt ∧ x.toInt ≤ 1)) : Cn 14 M_X7_company 0 0 [.ref 0, .int x] σ (fun r9 σ' => r9 = some (.int (-2)) ∧ σ' = σ) := by
  refine Cn.intro (lv0 := [some (.ref 0), some (.int x), none]) rfl (Nat.le_of_ble_eq_true rfl) rfl (fun d hd => ?_)
  refine x_iload_n dX7_company_0 rfl ?_
  refine x_iconst (v := nI 0) dX7_company_1 (by decide) ?_
  refine x_iconst (v := nI 1) dX7_company_2 (by decide) ?_
  refine x_callS m_X7_isWithin l_X7_72 (c_within (p := (x).toInt) (q := ((0 : Nat) : Int)) (r := ((1 : Nat) : Int)) rfl (nI_toInt (by omega)) (nI_toInt (by omega))) (by omega) rfl rfl (Nat.le_of_ble_eq_true rfl) ⟨Nat.le_refl _, Nat.le_refl _⟩ dX7_company_3 (fun r1 s1 q1 => ?_)
  obtain ⟨rfl, eq1⟩ := q1
  obtain rfl := eq1.symm
  refine x_stk (st' := [.int (bI (decide (((0 : Nat) : Int) ≤ (x).toInt ∧ (x).toInt ≤ ((1 : Nat) : Int))))]) rfl ?_
  refine x_ifP_ne (P := ((0 : Nat) : Int) ≤ (x).toInt ∧ (x).toInt ≤ ((1 : Nat) : Int)) inferInstance (tgt := 12) dX7_company_6 (by decide) (fun hv2 => ?_) (fun hv2 => ?_)
  · exact absurd hv2 (by omega)
  · refine x_bipush (v := (-2)) dX7_company_9 (by decide) ?_
    exact x_iret ⟨Nat.le_refl _, Nat.le_refl _⟩ rfl dX7_company_11 ⟨rfl, rfl⟩
