/-! the class: borrow, image, back, drawn -/
theorem maxI {a b : Nat} (ha : a < 2147483648) (hb : b < 2147483648) : (if (nI a).toInt < (nI b).toInt then nI b else nI a) = nI (max a b) := by
  rw [nI_toInt ha, nI_toInt hb]
  by_cases c : a < b
  · rw [if_pos (by omega), Nat.max_eq_right (by omega)]
  · rw [if_neg (by omega), Nat.max_eq_left (by omega)]
theorem maxS {a b : Nat} (ha : a ≤ 2000) (hb : b ≤ 2000) : (if (nI 0).toInt < (nI a - nI b).toInt then nI a - nI b else nI 0) = nI (a - b) := by
  have e : (nI a - nI b).toInt = (a : Int) - (b : Int) := by
    rw [Int32.toInt_sub, tI_nI (by omega), tI_nI (by omega), bm32 (by omega) (by omega)]
  rw [e, show (nI 0).toInt = 0 from by decide]
  by_cases c : b < a
  · rw [if_pos (by omega), pk_sub (by omega)]
  · rw [if_neg (by omega), show a - b = 0 by omega]
set_option maxHeartbeats 4000000 in
theorem l_borrow {σ : ZS} {tx ik : Int32} (k0 : zg σ 0 = some (.inr (.inr (6, [.ref 1, .ref 6, .ref 11, .ref 16, .ref 22, .ref 28, .ref 31, .int tx, .int ik])))) {rr dn ru n : Nat} {K N : List Nat} {W : List Int32} {D : List Nat} (h : Pa σ 1 (nI rr) (nI dn) (nI ru) n K N W D) {one other : Nat} (h1 : one < n) (h2 : other < n) (h12 : one ≠ other) {d : Nat} (hd : 1 ≤ d) (hout : X M_X7_borrow d 0 0 (fun r9 σ' => r9 = some (.int (brV D n one other)) ∧ σ' = σ) 0 0 81 [some (.ref 0), some (.int (nI one)), some (.int (nI other)), some (.int (nI ((ndN D one other n)))), some (.int (nI n)), none] [] σ) : ∀ (q k : Nat), k + q = n → X M_X7_borrow d 0 0 (fun r9 σ' => r9 = some (.int (brV D n one other)) ∧ σ' = σ) 0 0 20 [some (.ref 0), some (.int (nI one)), some (.int (nI other)), some (.int (nI ((ndN D one other k)))), some (.int (nI k)), none] [] σ := by
  obtain ⟨g0, g1, g2, g3, g4, hn7, hK7, hN7, hW7, hD49, hK5, hN9, hD999⟩ := id h
  intro q
  induction q with
  | zero =>
    intro k hk
    refine x_iload dX7_borrow_20 rfl ?_
    refine x_aload_n dX7_borrow_22 rfl ?_
    refine x_get (v := .ref 1) f_X7_10 k0 rfl dX7_borrow_23 ?_
    refine x_get (v := .int (nI n)) f_X7_98 g0 rfl dX7_borrow_26 ?_
    refine x_icmpN_ge (tgt := 81) dX7_borrow_29 (by decide) (by omega) (by omega) (fun hv1 => ?_) (fun hv1 => ?_)
    · obtain rfl : k = n := by omega
      exact hout
    · exact absurd hv1 (by omega)
  | succ q ih =>
    intro k hk
    refine x_iload dX7_borrow_20 rfl ?_
    refine x_aload_n dX7_borrow_22 rfl ?_
    refine x_get (v := .ref 1) f_X7_10 k0 rfl dX7_borrow_23 ?_
    refine x_get (v := .int (nI n)) f_X7_98 g0 rfl dX7_borrow_26 ?_
    refine x_icmpN_ge (tgt := 81) dX7_borrow_29 (by decide) (by omega) (by omega) (fun hv1 => ?_) (fun hv1 => ?_)
    · exact absurd hv1 (by omega)
    · refine x_iload dX7_borrow_32 rfl ?_
      refine x_iload_n dX7_borrow_34 rfl ?_
      refine x_icmpN_eq (tgt := 75) dX7_borrow_35 (by decide) (by omega) (by omega) (fun hv2 => ?_) (fun hv2 => ?_)
      · refine x_iincN dX7_borrow_75 rfl (by decide) rfl ?_
        refine x_lv (lv' := [some (.ref 0), some (.int (nI one)), some (.int (nI other)), some (.int (nI ((ndN D one other k)))), some (.int (nI (k + 1))), none]) rfl ?_
        refine x_goto (tgt := 20) dX7_borrow_78 (by decide) ?_
        have e9 : ndN D one other (k + 1) = ndN D one other k := by rw [ndN, if_neg (by omega)]
        rw [← e9]
        exact ih (k + 1) (by omega)
      · refine x_iload dX7_borrow_38 rfl ?_
        refine x_iload_n dX7_borrow_40 rfl ?_
        refine x_icmpN_eq (tgt := 75) dX7_borrow_41 (by decide) (by omega) (by omega) (fun hv3 => ?_) (fun hv3 => ?_)
        · refine x_iincN dX7_borrow_75 rfl (by decide) rfl ?_
          refine x_lv (lv' := [some (.ref 0), some (.int (nI one)), some (.int (nI other)), some (.int (nI ((ndN D one other k)))), some (.int (nI (k + 1))), none]) rfl ?_
          refine x_goto (tgt := 20) dX7_borrow_78 (by decide) ?_
          have e9 : ndN D one other (k + 1) = ndN D one other k := by rw [ndN, if_neg (by omega)]
          rw [← e9]
          exact ih (k + 1) (by omega)
        · refine x_aload_n dX7_borrow_44 rfl ?_
          refine x_get (v := .ref 1) f_X7_10 k0 rfl dX7_borrow_45 ?_
          refine x_iload_n dX7_borrow_48 rfl ?_
          refine x_iload dX7_borrow_49 rfl ?_
          refine x_callV m_X2_debt l_X7_108 (c_debt h (by omega) (by omega)) rfl g0 (by omega) rfl rfl (Nat.le_of_ble_eq_true rfl) ⟨Nat.le_refl _, Nat.le_refl _⟩ dX7_borrow_51 (fun r4 s4 q4 => ?_)
          obtain ⟨rfl, eq4⟩ := q4
          obtain rfl := eq4.symm
          refine x_stk (st' := [.int (nI ((D.getD (one * 7 + k) 0)))]) rfl ?_
          refine x_iload dX7_borrow_54 rfl ?_
          refine x_iload_n dX7_borrow_56 rfl ?_
          refine x_icmpN_ge (tgt := 64) dX7_borrow_57 (by decide) (by omega) (by omega) (fun hv5 => ?_) (fun hv5 => ?_)
          · refine x_iconst (v := nI 0) dX7_borrow_64 (by decide) ?_
            refine x_iaddN dX7_borrow_65 ?_
            refine x_istore dX7_borrow_66 (by decide) rfl ?_
            refine x_lv (lv' := [some (.ref 0), some (.int (nI one)), some (.int (nI other)), some (.int (nI ((ndN D one other k)))), some (.int (nI k)), some (.int (nI (((D.getD (one * 7 + k) 0)) + 0)))]) rfl ?_
            refine x_iload_n dX7_borrow_68 rfl ?_
            refine x_iload dX7_borrow_69 rfl ?_
            refine x_mmax l_X7_231 (by omega) (Nat.le_of_ble_eq_true rfl) ⟨Nat.le_refl _, Nat.le_refl _⟩ dX7_borrow_71 ?_
            have b1 := ndN_le hD999 (one := one) (other := other) k
            have b2 := hD999 (one * 7 + k)
            refine x_topi (y := nI ((ndN D one other (k + 1)))) (by rw [maxI (by omega) (by omega), ndN, if_pos ⟨by omega, by omega⟩]; first | rw [if_pos (by omega)] | rw [if_neg (by omega)]) ?_
            refine x_istore_n dX7_borrow_74 (by decide) rfl ?_
            refine x_lv (lv' := [some (.ref 0), some (.int (nI one)), some (.int (nI other)), some (.int (nI ((ndN D one other (k + 1))))), some (.int (nI k)), some (.int (nI (((D.getD (one * 7 + k) 0)) + 0)))]) rfl ?_
            refine x_iincN dX7_borrow_75 rfl (by decide) rfl ?_
            refine x_lv (lv' := [some (.ref 0), some (.int (nI one)), some (.int (nI other)), some (.int (nI ((ndN D one other (k + 1))))), some (.int (nI (k + 1))), some (.int (nI (((D.getD (one * 7 + k) 0)) + 0)))]) rfl ?_
            refine x_goto (tgt := 20) dX7_borrow_78 (by decide) ?_
            refine x_drop 5 ?_
            exact ih (k + 1) (by omega)
          · refine x_iconst (v := nI 1) dX7_borrow_60 (by decide) ?_
            refine x_goto (tgt := 65) dX7_borrow_61 (by decide) ?_
            refine x_iaddN dX7_borrow_65 ?_
            refine x_istore dX7_borrow_66 (by decide) rfl ?_
            refine x_lv (lv' := [some (.ref 0), some (.int (nI one)), some (.int (nI other)), some (.int (nI ((ndN D one other k)))), some (.int (nI k)), some (.int (nI (((D.getD (one * 7 + k) 0)) + 1)))]) rfl ?_
            refine x_iload_n dX7_borrow_68 rfl ?_
            refine x_iload dX7_borrow_69 rfl ?_
            refine x_mmax l_X7_231 (by omega) (Nat.le_of_ble_eq_true rfl) ⟨Nat.le_refl _, Nat.le_refl _⟩ dX7_borrow_71 ?_
            have b1 := ndN_le hD999 (one := one) (other := other) k
            have b2 := hD999 (one * 7 + k)
            refine x_topi (y := nI ((ndN D one other (k + 1)))) (by rw [maxI (by omega) (by omega), ndN, if_pos ⟨by omega, by omega⟩]; first | rw [if_pos (by omega)] | rw [if_neg (by omega)]) ?_
            refine x_istore_n dX7_borrow_74 (by decide) rfl ?_
            refine x_lv (lv' := [some (.ref 0), some (.int (nI one)), some (.int (nI other)), some (.int (nI ((ndN D one other (k + 1))))), some (.int (nI k)), some (.int (nI (((D.getD (one * 7 + k) 0)) + 1)))]) rfl ?_
            refine x_iincN dX7_borrow_75 rfl (by decide) rfl ?_
            refine x_lv (lv' := [some (.ref 0), some (.int (nI one)), some (.int (nI other)), some (.int (nI ((ndN D one other (k + 1))))), some (.int (nI (k + 1))), some (.int (nI (((D.getD (one * 7 + k) 0)) + 1)))]) rfl ?_
            refine x_goto (tgt := 20) dX7_borrow_78 (by decide) ?_
            refine x_drop 5 ?_
            exact ih (k + 1) (by omega)
set_option maxHeartbeats 4000000 in
theorem c_borrow {σ : ZS} {tx ik : Int32} (k0 : zg σ 0 = some (.inr (.inr (6, [.ref 1, .ref 6, .ref 11, .ref 16, .ref 22, .ref 28, .ref 31, .int tx, .int ik])))) {rr dn ru n : Nat} {K N : List Nat} {W : List Int32} {D : List Nat} (h : Pa σ 1 (nI rr) (nI dn) (nI ru) n K N W D) {one other : Nat} (h1 : one < n) (h2 : other < n) (h12 : one ≠ other) : Cn 2 M_X7_borrow 0 0 [.ref 0, .int (nI one), .int (nI other)] σ (fun r9 σ' => r9 = some (.int (brV D n one other)) ∧ σ' = σ) := by
  obtain ⟨g0, g1, g2, g3, g4, hn7, hK7, hN7, hW7, hD49, hK5, hN9, hD999⟩ := id h
  refine Cn.intro (lv0 := [some (.ref 0), some (.int (nI one)), some (.int (nI other)), none, none, none]) rfl (Nat.le_of_ble_eq_true rfl) rfl (fun d hd => ?_)
  refine x_aload_n dX7_borrow_0 rfl ?_
  refine x_get (v := .ref 1) f_X7_10 k0 rfl dX7_borrow_1 ?_
  refine x_iload_n dX7_borrow_4 rfl ?_
  refine x_iload_n dX7_borrow_5 rfl ?_
  refine x_callV m_X2_hasBoth l_X7_104 (c_bothP h (p := ((one : Nat) : Int)) (q := ((other : Nat) : Int)) (nI_toInt (by omega)) (nI_toInt (by omega))) rfl g0 (by omega) rfl rfl (Nat.le_of_ble_eq_true rfl) ⟨Nat.le_refl _, Nat.le_refl _⟩ dX7_borrow_6 (fun r1 s1 q1 => ?_)
  obtain ⟨rfl, eq1⟩ := q1
  obtain rfl := eq1.symm
  refine x_stk (st' := [.int (bI (decide ((0 ≤ ((one : Nat) : Int) ∧ ((one : Nat) : Int) < (n : Int)) ∧ (0 ≤ ((other : Nat) : Int) ∧ ((other : Nat) : Int) < (n : Int)) ∧ ¬ ((one : Nat) : Int) = ((other : Nat) : Int))))]) rfl ?_
  refine x_ifP_ne (P := (0 ≤ ((one : Nat) : Int) ∧ ((one : Nat) : Int) < (n : Int)) ∧ (0 ≤ ((other : Nat) : Int) ∧ ((other : Nat) : Int) < (n : Int)) ∧ ¬ ((one : Nat) : Int) = ((other : Nat) : Int)) inferInstance (tgt := 15) dX7_borrow_9 (by decide) (fun hv2 => ?_) (fun hv2 => ?_)
  · refine x_iconst (v := nI 1) dX7_borrow_15 (by decide) ?_
    refine x_istore_n dX7_borrow_16 (by decide) rfl ?_
    refine x_lv (lv' := [some (.ref 0), some (.int (nI one)), some (.int (nI other)), some (.int (nI 1)), none, none]) rfl ?_
    refine x_iconst (v := nI 0) dX7_borrow_17 (by decide) ?_
    refine x_istore dX7_borrow_18 (by decide) rfl ?_
    refine x_lv (lv' := [some (.ref 0), some (.int (nI one)), some (.int (nI other)), some (.int (nI 1)), some (.int (nI 0)), none]) rfl ?_
    refine x_lv (lv' := [some (.ref 0), some (.int (nI one)), some (.int (nI other)), some (.int (nI ((ndN D one other 0)))), some (.int (nI 0)), none]) rfl ?_
    refine l_borrow k0 h h1 h2 h12 (by omega) ?_ n 0 (by omega)
    refine x_iload_n dX7_borrow_81 rfl ?_
    have b1 := ndN_le hD999 (one := one) (other := other) n
    refine x_sipush (v := nI 999) dX7_borrow_82 (by decide) ?_
    refine x_icmpN_le (tgt := 92) dX7_borrow_85 (by decide) (by omega) (by omega) (fun hv701 => ?_) (fun hv701 => ?_)
    · refine x_iconst (v := nI 0) dX7_borrow_92 (by decide) ?_
      refine x_iload_n dX7_borrow_93 rfl ?_
      refine x_aload_n dX7_borrow_94 rfl ?_
      refine x_get (v := .ref 1) f_X7_10 k0 rfl dX7_borrow_95 ?_
      refine x_iload_n dX7_borrow_98 rfl ?_
      refine x_iload_n dX7_borrow_99 rfl ?_
      refine x_callV m_X2_debt l_X7_108 (c_debt h (by omega) (by omega)) rfl g0 (by omega) rfl rfl (Nat.le_of_ble_eq_true rfl) ⟨Nat.le_refl _, Nat.le_refl _⟩ dX7_borrow_100 (fun r702 s702 q702 => ?_)
      obtain ⟨rfl, eq702⟩ := q702
      obtain rfl := eq702.symm
      refine x_stk (st' := [.int (nI ((D.getD (one * 7 + other) 0))), .int (nI ((ndN D one other n))), .int (nI 0)]) rfl ?_
      refine x_isub dX7_borrow_103 ?_
      refine x_mmax l_X7_231 (by omega) (Nat.le_of_ble_eq_true rfl) ⟨Nat.le_refl _, Nat.le_refl _⟩ dX7_borrow_104 ?_
      refine x_topi (y := nI (((ndN D one other n) - D.getD (one * 7 + other) 0))) (maxS (by have := ndN_le hD999 (one := one) (other := other) n; omega) (by have := hD999 (one * 7 + other); omega)) ?_
      exact x_iret ⟨Nat.le_refl _, Nat.le_refl _⟩ rfl dX7_borrow_107 ⟨by rw [brV, if_neg (by omega)], rfl⟩
    · refine x_iconst (v := (-1)) dX7_borrow_88 (by decide) ?_
      refine x_goto (tgt := 107) dX7_borrow_89 (by decide) ?_
      exact x_iret ⟨Nat.le_refl _, Nat.le_refl _⟩ rfl dX7_borrow_107 ⟨by rw [brV, if_pos (by omega)], rfl⟩
  · exact absurd hv2 (by omega)
set_option maxHeartbeats 4000000 in
theorem c_borrow_b {σ : ZS} {tx ik : Int32} (k0 : zg σ 0 = some (.inr (.inr (6, [.ref 1, .ref 6, .ref 11, .ref 16, .ref 22, .ref 28, .ref 31, .int tx, .int ik])))) {rr dn ru n : Nat} {K N : List Nat} {W : List Int32} {D : List Nat} (h : Pa σ 1 (nI rr) (nI dn) (nI ru) n K N W D) {x y : Int32} (hb : ¬ ((0 ≤ x.toInt ∧ x.toInt < ((n : Nat) : Int)) ∧ (0 ≤ y.toInt ∧ y.toInt < ((n : Nat) : Int)) ∧ ¬ x.toInt = y.toInt)) : Cn 2 M_X7_borrow 0 0 [.ref 0, .int x, .int y] σ (fun r9 σ' => r9 = some (.int (-2)) ∧ σ' = σ) := by
  obtain ⟨g0, g1, g2, g3, g4, hn7, hK7, hN7, hW7, hD49, hK5, hN9, hD999⟩ := id h
  refine Cn.intro (lv0 := [some (.ref 0), some (.int x), some (.int y), none, none, none]) rfl (Nat.le_of_ble_eq_true rfl) rfl (fun d hd => ?_)
  refine x_aload_n dX7_borrow_0 rfl ?_
  refine x_get (v := .ref 1) f_X7_10 k0 rfl dX7_borrow_1 ?_
  refine x_iload_n dX7_borrow_4 rfl ?_
  refine x_iload_n dX7_borrow_5 rfl ?_
  refine x_callV m_X2_hasBoth l_X7_104 (c_bothP h (p := (x).toInt) (q := (y).toInt) rfl rfl) rfl g0 (by omega) rfl rfl (Nat.le_of_ble_eq_true rfl) ⟨Nat.le_refl _, Nat.le_refl _⟩ dX7_borrow_6 (fun r1 s1 q1 => ?_)
  obtain ⟨rfl, eq1⟩ := q1
  obtain rfl := eq1.symm
  refine x_stk (st' := [.int (bI (decide ((0 ≤ (x).toInt ∧ (x).toInt < (n : Int)) ∧ (0 ≤ (y).toInt ∧ (y).toInt < (n : Int)) ∧ ¬ (x).toInt = (y).toInt)))]) rfl ?_
  refine x_ifP_ne (P := (0 ≤ (x).toInt ∧ (x).toInt < (n : Int)) ∧ (0 ≤ (y).toInt ∧ (y).toInt < (n : Int)) ∧ ¬ (x).toInt = (y).toInt) inferInstance (tgt := 15) dX7_borrow_9 (by decide) (fun hv2 => ?_) (fun hv2 => ?_)
  · exact absurd hv2 (by omega)
  · refine x_bipush (v := (-2)) dX7_borrow_12 (by decide) ?_
    exact x_iret ⟨Nat.le_refl _, Nat.le_refl _⟩ rfl dX7_borrow_14 ⟨rfl, rfl⟩
set_option maxHeartbeats 4000000 in
theorem c_image {σ : ZS} {tx ik : Int32} (k0 : zg σ 0 = some (.inr (.inr (6, [.ref 1, .ref 6, .ref 11, .ref 16, .ref 22, .ref 28, .ref 31, .int tx, .int ik])))) {rr dn ru n : Nat} {K N : List Nat} {W : List Int32} {D : List Nat} (h : Pa σ 1 (nI rr) (nI dn) (nI ru) n K N W D) (h6 : PaJ σ 6) : Cn 2 M_X7_image 0 0 [.ref 0] σ (fun r9 σ' => r9 = some (.int (nI n)) ∧ zg σ' 0 = some (.inr (.inr (6, [.ref 1, .ref 6, .ref 11, .ref 16, .ref 22, .ref 28, .ref 31, .int tx, .int (nI 1)]))) ∧ Pa σ' 6 (nI rr) (nI dn) (nI ru) n K N W D ∧ Fr (fun i => i = 0 ∨ (6 ≤ i ∧ i ≤ 10)) σ σ') := by
  obtain ⟨g0, g1, g2, g3, g4, hn7, hK7, hN7, hW7, hD49, hK5, hN9, hD999⟩ := id h
  obtain ⟨ro9, di9, ru9, n9, K9, N9, W9, D9, hT9⟩ := h6
  have t0 := hT9.1
  refine Cn.intro (lv0 := [some (.ref 0)]) rfl (Nat.le_of_ble_eq_true rfl) rfl (fun d hd => ?_)
  refine x_aload_n dX7_image_0 rfl ?_
  refine x_get (v := .ref 6) f_X7_16 k0 rfl dX7_image_1 ?_
  refine x_aload_n dX7_image_4 rfl ?_
  refine x_get (v := .ref 1) f_X7_10 k0 rfl dX7_image_5 ?_
  refine x_callV m_X2_become l_X7_168 (c_become hT9 h (by omega)) rfl t0 (by omega) rfl rfl (Nat.le_of_ble_eq_true rfl) ⟨Nat.le_refl _, Nat.le_refl _⟩ dX7_image_8 (fun r1 s1 q1 => ?_)
  obtain ⟨rfl, P1, F1⟩ := q1
  refine x_stk (st' := []) rfl ?_
  refine x_aload_n dX7_image_11 rfl ?_
  refine x_iconst (v := nI 1) dX7_image_12 (by decide) ?_
  refine x_putK f_X7_53 (F1.at (by omega) k0) (Nat.le_of_ble_eq_true rfl) (fun c => zb1) dX7_image_13 (fun sw2 gw2 Fw2 => ?_)
  refine x_aload_n dX7_image_16 rfl ?_
  refine x_get (v := .ref 1) f_X7_10 gw2 rfl dX7_image_17 ?_
  refine x_get (v := .int (nI n)) f_X7_98 (Fw2.at (by omega) (F1.at (by omega) g0)) rfl dX7_image_20 ?_
  exact x_iret ⟨Nat.le_refl _, Nat.le_refl _⟩ rfl dX7_image_23 ⟨rfl, gw2, (P1.fr Fw2 (by omega)), ((Fr.rf.tr (F1.mono (fun i hi => by omega))).tr (Fw2.mono (fun i hi => by omega)))⟩
set_option maxHeartbeats 4000000 in
theorem c_back {σ : ZS} {tx : Int32} (k0 : zg σ 0 = some (.inr (.inr (6, [.ref 1, .ref 6, .ref 11, .ref 16, .ref 22, .ref 28, .ref 31, .int tx, .int (nI 1)])))) {rr dn ru n : Nat} {K N : List Nat} {W : List Int32} {D : List Nat} (h : Pa σ 1 (nI rr) (nI dn) (nI ru) n K N W D) {r2 d2 u2 n2 : Nat} {K2 N2 : List Nat} {W2 : List Int32} {D2 : List Nat} (h2 : Pa σ 6 (nI r2) (nI d2) (nI u2) n2 K2 N2 W2 D2) : Cn 2 M_X7_back 0 0 [.ref 0] σ (fun r9 σ' => r9 = some (.int (nI n2)) ∧ Pa σ' 1 (nI r2) (nI d2) (nI u2) n2 K2 N2 W2 D2 ∧ Fr (fun i => 1 ≤ i ∧ i ≤ 5) σ σ') := by
  obtain ⟨g0, g1, g2, g3, g4, hn7, hK7, hN7, hW7, hD49, hK5, hN9, hD999⟩ := id h
  refine Cn.intro (lv0 := [some (.ref 0)]) rfl (Nat.le_of_ble_eq_true rfl) rfl (fun d hd => ?_)
  refine x_aload_n dX7_back_0 rfl ?_
  refine x_get (v := .int (nI 1)) f_X7_53 k0 rfl dX7_back_1 ?_
  refine x_ifN_ne (tgt := 10) dX7_back_4 (by decide) (by omega) (fun hv1 => ?_) (fun hv1 => ?_)
  · refine x_aload_n dX7_back_10 rfl ?_
    refine x_get (v := .ref 1) f_X7_10 k0 rfl dX7_back_11 ?_
    refine x_aload_n dX7_back_14 rfl ?_
    refine x_get (v := .ref 6) f_X7_16 k0 rfl dX7_back_15 ?_
    refine x_callV m_X2_become l_X7_168 (c_become h h2 (by omega)) rfl g0 (by omega) rfl rfl (Nat.le_of_ble_eq_true rfl) ⟨Nat.le_refl _, Nat.le_refl _⟩ dX7_back_18 (fun r2 s2 q2 => ?_)
    obtain ⟨rfl, P2, F2⟩ := q2
    refine x_stk (st' := []) rfl ?_
    refine x_aload_n dX7_back_21 rfl ?_
    refine x_get (v := .ref 1) f_X7_10 (F2.at (by omega) k0) rfl dX7_back_22 ?_
    refine x_get (v := .int (nI n2)) f_X7_98 P2.1 rfl dX7_back_25 ?_
    exact x_iret ⟨Nat.le_refl _, Nat.le_refl _⟩ rfl dX7_back_28 ⟨rfl, P2, (Fr.rf.tr (F2.mono (fun i hi => by omega)))⟩
  · exact absurd hv1 (by decide)
set_option maxHeartbeats 4000000 in
theorem c_back_b {σ : ZS} {tx : Int32} (k0 : zg σ 0 = some (.inr (.inr (6, [.ref 1, .ref 6, .ref 11, .ref 16, .ref 22, .ref 28, .ref 31, .int tx, .int (nI 0)])))) : Cn 2 M_X7_back 0 0 [.ref 0] σ (fun r9 σ' => r9 = some (.int (-3)) ∧ σ' = σ) := by
  refine Cn.intro (lv0 := [some (.ref 0)]) rfl (Nat.le_of_ble_eq_true rfl) rfl (fun d hd => ?_)
  refine x_aload_n dX7_back_0 rfl ?_
  refine x_get (v := .int (nI 0)) f_X7_53 k0 rfl dX7_back_1 ?_
  refine x_ifN_ne (tgt := 10) dX7_back_4 (by decide) (by omega) (fun hv1 => ?_) (fun hv1 => ?_)
  · exact absurd hv1 (by decide)
  · refine x_bipush (v := (-3)) dX7_back_7 (by decide) ?_
    exact x_iret ⟨Nat.le_refl _, Nat.le_refl _⟩ rfl dX7_back_9 ⟨rfl, rfl⟩
set_option maxHeartbeats 4000000 in
theorem c_drawn {σ : ZS} {tx ik : Int32} (k0 : zg σ 0 = some (.inr (.inr (6, [.ref 1, .ref 6, .ref 11, .ref 16, .ref 22, .ref 28, .ref 31, .int tx, .int ik])))) {rr dn ru n : Nat} {K N : List Nat} {W : List Int32} {D : List Nat} (h : Pa σ 1 (nI rr) (nI dn) (nI ru) n K N W D) (hr1 : rr ≤ 1) (h11 : PaJ σ 11) (hJ : SeJ σ) {sd : Int32} : Cn 13 M_X7_drawn 0 0 [.ref 0, .int sd] σ (fun r9 σ' => r9 = some (.int (nI (lwf (decide (rr = 1)) (2 ^ n - 1) (wlS K N (drOut n n (sd, D)).2 n (2 ^ n - 1) (-1))).length)) ∧ SeJ σ' ∧ PaJ σ' 11 ∧ Fr (fun i => (11 ≤ i ∧ i ≤ 15) ∨ (22 ≤ i ∧ i ≤ 27)) σ σ') := by
  obtain ⟨g0, g1, g2, g3, g4, hn7, hK7, hN7, hW7, hD49, hK5, hN9, hD999⟩ := id h
  obtain ⟨ro9, di9, ru9, n9, K9, N9, W9, D9, hT9⟩ := h11
  have t0 := hT9.1
  refine Cn.intro (lv0 := [some (.ref 0), some (.int sd)]) rfl (Nat.le_of_ble_eq_true rfl) rfl (fun d hd => ?_)
  refine x_aload_n dX7_drawn_0 rfl ?_
  refine x_get (v := .ref 11) f_X7_19 k0 rfl dX7_drawn_1 ?_
  refine x_aload_n dX7_drawn_4 rfl ?_
  refine x_get (v := .ref 1) f_X7_10 k0 rfl dX7_drawn_5 ?_
  refine x_callV m_X2_become l_X7_168 (c_become hT9 h (by omega)) rfl t0 (by omega) rfl rfl (Nat.le_of_ble_eq_true rfl) ⟨Nat.le_refl _, Nat.le_refl _⟩ dX7_drawn_8 (fun r1 s1 q1 => ?_)
  obtain ⟨rfl, P1, F1⟩ := q1
  refine x_stk (st' := []) rfl ?_
  refine x_aload_n dX7_drawn_11 rfl ?_
  refine x_get (v := .ref 11) f_X7_19 (F1.at (by omega) k0) rfl dX7_drawn_12 ?_
  refine x_iload_n dX7_drawn_15 rfl ?_
  refine x_callV m_X2_drawDebts l_X7_282 (c_drawDebts P1 sd) rfl P1.1 (by omega) rfl rfl (Nat.le_of_ble_eq_true rfl) ⟨Nat.le_refl _, Nat.le_refl _⟩ dX7_drawn_16 (fun r2 s2 q2 => ?_)
  obtain ⟨rfl, P2, F2⟩ := q2
  refine x_stk (st' := []) rfl ?_
  refine x_aload_n dX7_drawn_19 rfl ?_
  refine x_aload_n dX7_drawn_20 rfl ?_
  refine x_get (v := .ref 11) f_X7_19 (F2.at (by omega) (F1.at (by omega) k0)) rfl dX7_drawn_21 ?_
  refine x_callV m_X7_lawfulTables l_X7_196 (c_lawful (F2.at (by omega) (F1.at (by omega) k0)) (Or.inr rfl) P2 hr1 ((hJ.fr F1 (by omega)).fr F2 (by omega))) rfl (F2.at (by omega) (F1.at (by omega) k0)) (by omega) rfl rfl (Nat.le_of_ble_eq_true rfl) ⟨Nat.le_refl _, Nat.le_refl _⟩ dX7_drawn_24 (fun r3 s3 q3 => ?_)
  obtain ⟨rfl, J3, F3⟩ := q3
  refine x_stk (st' := [.int (nI ((lwf (decide (rr = 1)) (2 ^ n - 1) (wlS K N (drOut n n (sd, D)).2 n (2 ^ n - 1) (-1))).length))]) rfl ?_
  exact x_iret ⟨Nat.le_refl _, Nat.le_refl _⟩ rfl dX7_drawn_27 ⟨rfl, J3, ⟨_, _, _, _, _, _, _, _, (P2.fr F3 (by omega))⟩, (((Fr.rf.tr (F1.mono (fun i hi => by omega))).tr (F2.mono (fun i hi => by omega))).tr (F3.mono (fun i hi => by omega)))⟩
