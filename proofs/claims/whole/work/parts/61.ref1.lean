def RC (a : Nat → Int32) (b : Nat → List Int32) (rr n : Nat) (K N : List Nat) (W : List Int32) (D : List Nat) (fr : Int32) : Prop := a 7 = nI rr ∧ rr ≤ 1 ∧ a 13 = nI n ∧ n ≤ 7 ∧ a 14 = fr ∧ (∀ i, i < n → (b 3).getD i 0 = nI (K.getD i 0)) ∧ b 4 = N.map nI ∧ b 5 = W ∧ b 6 = D.map nI ∧ N.length = 7 ∧ W.length = 7 ∧ D.length = 49 ∧ (∀ k, K.getD k 0 ≤ 5) ∧ (∀ k, N.getD k 0 ≤ 9) ∧ (∀ k, D.getD k 0 ≤ 999)
theorem lcmp_lt {x y : Int64} (h : x.toInt < y.toInt) : lg_cmp x y = -1 := by
  rw [lg_cmp, if_neg (fun q : x > y => by have := Int64.lt_iff_toInt_lt.mp q; omega), if_neg (fun q => by rw [q] at h; omega)]
theorem lcmp_eq {x y : Int64} (h : x.toInt = y.toInt) : lg_cmp x y = nI 0 := by
  rw [Int64.toInt_inj.mp h, lg_cmp, if_neg (fun q : y > y => by have := Int64.lt_iff_toInt_lt.mp q; omega), if_pos rfl]
  decide
theorem lcmp_gt {x y : Int64} (h : y.toInt < x.toInt) : lg_cmp x y = nI 1 := by
  rw [lg_cmp, if_pos (show x > y from Int64.lt_iff_toInt_lt.mpr h)]
  decide
set_option maxHeartbeats 4000000 in
theorem r_in {σ : ZS} {v lo hi : Int64} {p q r : Int} (hv : v.toInt = p) (hlo : lo.toInt = q) (hhi : hi.toInt = r) : Cn 0 M_X8_in 0 0 [.long v, .long lo, .long hi] σ (fun r9 σ' => r9 = some (.int (bI (decide (q ≤ p ∧ p ≤ r)))) ∧ σ' = σ) := by
  refine Cn.intro (lv0 := [some (.long v), none, some (.long lo), none, some (.long hi), none]) rfl (Nat.le_of_ble_eq_true rfl) rfl (fun d hd => ?_)
  refine x_lload_n dX8_in_0 rfl ?_
  refine x_lload_n dX8_in_1 rfl ?_
  refine x_lcmp dX8_in_2 ?_
  rcases (show v.toInt < lo.toInt ∨ v.toInt = lo.toInt ∨ lo.toInt < v.toInt by omega) with hc | hc | hc
  · refine x_topi (y := (-1)) (lcmp_lt (by omega)) ?_
    refine x_ifT_lt (p := (-1)) (tgt := 17) (by decide) dX8_in_3 (by decide) (fun hv1 => ?_) (fun hv1 => ?_)
    · refine x_iconst (v := nI 0) dX8_in_17 (by decide) ?_
      exact x_zret ⟨Nat.le_refl _, Nat.le_refl _⟩ rfl (by decide) dX8_in_18 ⟨by first | rw [bI_0 (by omega)] | (exfalso; omega), rfl⟩
    · refine x_lload_n dX8_in_6 rfl ?_
      refine x_lload dX8_in_7 rfl ?_
      refine x_lcmp dX8_in_9 ?_
      rcases (show v.toInt < hi.toInt ∨ v.toInt = hi.toInt ∨ hi.toInt < v.toInt by omega) with hc | hc | hc
      · refine x_topi (y := (-1)) (lcmp_lt (by omega)) ?_
        refine x_ifT_gt (p := (-1)) (tgt := 17) (by decide) dX8_in_10 (by decide) (fun hv2 => ?_) (fun hv2 => ?_)
        · refine x_iconst (v := nI 0) dX8_in_17 (by decide) ?_
          exact x_zret ⟨Nat.le_refl _, Nat.le_refl _⟩ rfl (by decide) dX8_in_18 ⟨by first | rw [bI_0 (by omega)] | (exfalso; omega), rfl⟩
        · refine x_iconst (v := nI 1) dX8_in_13 (by decide) ?_
          refine x_goto (tgt := 18) dX8_in_14 (by decide) ?_
          exact x_zret ⟨Nat.le_refl _, Nat.le_refl _⟩ rfl (by decide) dX8_in_18 ⟨by first | rw [bI_1 (by omega)] | (exfalso; omega), rfl⟩
      · refine x_topi (y := nI 0) (lcmp_eq (by omega)) ?_
        refine x_ifN_gt (tgt := 17) dX8_in_10 (by decide) (by omega) (fun hv3 => ?_) (fun hv3 => ?_)
        · exact absurd hv3 (by decide)
        · refine x_iconst (v := nI 1) dX8_in_13 (by decide) ?_
          refine x_goto (tgt := 18) dX8_in_14 (by decide) ?_
          exact x_zret ⟨Nat.le_refl _, Nat.le_refl _⟩ rfl (by decide) dX8_in_18 ⟨by first | rw [bI_1 (by omega)] | (exfalso; omega), rfl⟩
      · refine x_topi (y := nI 1) (lcmp_gt (by omega)) ?_
        refine x_ifN_gt (tgt := 17) dX8_in_10 (by decide) (by omega) (fun hv4 => ?_) (fun hv4 => ?_)
        · refine x_iconst (v := nI 0) dX8_in_17 (by decide) ?_
          exact x_zret ⟨Nat.le_refl _, Nat.le_refl _⟩ rfl (by decide) dX8_in_18 ⟨by first | rw [bI_0 (by omega)] | (exfalso; omega), rfl⟩
        · exact absurd hv4 (by decide)
  · refine x_topi (y := nI 0) (lcmp_eq (by omega)) ?_
    refine x_ifN_lt (tgt := 17) dX8_in_3 (by omega) ?_ (by decide)
    refine x_lload_n dX8_in_6 rfl ?_
    refine x_lload dX8_in_7 rfl ?_
    refine x_lcmp dX8_in_9 ?_
    rcases (show v.toInt < hi.toInt ∨ v.toInt = hi.toInt ∨ hi.toInt < v.toInt by omega) with hc | hc | hc
    · refine x_topi (y := (-1)) (lcmp_lt (by omega)) ?_
      refine x_ifT_gt (p := (-1)) (tgt := 17) (by decide) dX8_in_10 (by decide) (fun hv6 => ?_) (fun hv6 => ?_)
      · refine x_iconst (v := nI 0) dX8_in_17 (by decide) ?_
        exact x_zret ⟨Nat.le_refl _, Nat.le_refl _⟩ rfl (by decide) dX8_in_18 ⟨by first | rw [bI_0 (by omega)] | (exfalso; omega), rfl⟩
      · refine x_iconst (v := nI 1) dX8_in_13 (by decide) ?_
        refine x_goto (tgt := 18) dX8_in_14 (by decide) ?_
        exact x_zret ⟨Nat.le_refl _, Nat.le_refl _⟩ rfl (by decide) dX8_in_18 ⟨by first | rw [bI_1 (by omega)] | (exfalso; omega), rfl⟩
    · refine x_topi (y := nI 0) (lcmp_eq (by omega)) ?_
      refine x_ifN_gt (tgt := 17) dX8_in_10 (by decide) (by omega) (fun hv7 => ?_) (fun hv7 => ?_)
      · exact absurd hv7 (by decide)
      · refine x_iconst (v := nI 1) dX8_in_13 (by decide) ?_
        refine x_goto (tgt := 18) dX8_in_14 (by decide) ?_
        exact x_zret ⟨Nat.le_refl _, Nat.le_refl _⟩ rfl (by decide) dX8_in_18 ⟨by first | rw [bI_1 (by omega)] | (exfalso; omega), rfl⟩
    · refine x_topi (y := nI 1) (lcmp_gt (by omega)) ?_
      refine x_ifN_gt (tgt := 17) dX8_in_10 (by decide) (by omega) (fun hv8 => ?_) (fun hv8 => ?_)
      · refine x_iconst (v := nI 0) dX8_in_17 (by decide) ?_
        exact x_zret ⟨Nat.le_refl _, Nat.le_refl _⟩ rfl (by decide) dX8_in_18 ⟨by first | rw [bI_0 (by omega)] | (exfalso; omega), rfl⟩
      · exact absurd hv8 (by decide)
  · refine x_topi (y := nI 1) (lcmp_gt (by omega)) ?_
    refine x_ifN_lt (tgt := 17) dX8_in_3 (by omega) ?_ (by decide)
    refine x_lload_n dX8_in_6 rfl ?_
    refine x_lload dX8_in_7 rfl ?_
    refine x_lcmp dX8_in_9 ?_
    rcases (show v.toInt < hi.toInt ∨ v.toInt = hi.toInt ∨ hi.toInt < v.toInt by omega) with hc | hc | hc
    · refine x_topi (y := (-1)) (lcmp_lt (by omega)) ?_
      refine x_ifT_gt (p := (-1)) (tgt := 17) (by decide) dX8_in_10 (by decide) (fun hv10 => ?_) (fun hv10 => ?_)
      · refine x_iconst (v := nI 0) dX8_in_17 (by decide) ?_
        exact x_zret ⟨Nat.le_refl _, Nat.le_refl _⟩ rfl (by decide) dX8_in_18 ⟨by first | rw [bI_0 (by omega)] | (exfalso; omega), rfl⟩
      · refine x_iconst (v := nI 1) dX8_in_13 (by decide) ?_
        refine x_goto (tgt := 18) dX8_in_14 (by decide) ?_
        exact x_zret ⟨Nat.le_refl _, Nat.le_refl _⟩ rfl (by decide) dX8_in_18 ⟨by first | rw [bI_1 (by omega)] | (exfalso; omega), rfl⟩
    · refine x_topi (y := nI 0) (lcmp_eq (by omega)) ?_
      refine x_ifN_gt (tgt := 17) dX8_in_10 (by decide) (by omega) (fun hv11 => ?_) (fun hv11 => ?_)
      · exact absurd hv11 (by decide)
      · refine x_iconst (v := nI 1) dX8_in_13 (by decide) ?_
        refine x_goto (tgt := 18) dX8_in_14 (by decide) ?_
        exact x_zret ⟨Nat.le_refl _, Nat.le_refl _⟩ rfl (by decide) dX8_in_18 ⟨by first | rw [bI_1 (by omega)] | (exfalso; omega), rfl⟩
    · refine x_topi (y := nI 1) (lcmp_gt (by omega)) ?_
      refine x_ifN_gt (tgt := 17) dX8_in_10 (by decide) (by omega) (fun hv12 => ?_) (fun hv12 => ?_)
      · refine x_iconst (v := nI 0) dX8_in_17 (by decide) ?_
        exact x_zret ⟨Nat.le_refl _, Nat.le_refl _⟩ rfl (by decide) dX8_in_18 ⟨by first | rw [bI_0 (by omega)] | (exfalso; omega), rfl⟩
      · exact absurd hv12 (by decide)
set_option maxHeartbeats 4000000 in
theorem r_within {σ : ZS} (v lo hi : Int32) : Cn 0 M_X8_within 0 0 [.int v, .int lo, .int hi] σ (fun r9 σ' => r9 = some (.int (bndI v lo hi)) ∧ σ' = σ) := by
  refine Cn.intro (lv0 := [some (.int v), some (.int lo), some (.int hi)]) rfl (Nat.le_of_ble_eq_true rfl) rfl (fun d hd => ?_)
  refine x_iload_n dX8_within_0 rfl ?_
  refine x_iload_n dX8_within_1 rfl ?_
  refine x_icmpT_ge (p := (v).toInt) (q := (lo).toInt) (tgt := 9) rfl rfl dX8_within_2 (by decide) (fun hv1 => ?_) (fun hv1 => ?_)
  · refine x_iload_n dX8_within_9 rfl ?_
    refine x_iload_n dX8_within_10 rfl ?_
    refine x_icmpT_le (p := (v).toInt) (q := (hi).toInt) (tgt := 18) rfl rfl dX8_within_11 (by decide) (fun hv2 => ?_) (fun hv2 => ?_)
    · refine x_iload_n dX8_within_18 rfl ?_
      exact x_iret ⟨Nat.le_refl _, Nat.le_refl _⟩ rfl dX8_within_19 ⟨by rw [bndI, if_neg (fun q => by have := Int32.lt_iff_toInt_lt.mp q; omega), if_neg (fun q => by have := Int32.lt_iff_toInt_lt.mp q; omega)], rfl⟩
    · refine x_iload_n dX8_within_14 rfl ?_
      refine x_goto (tgt := 19) dX8_within_15 (by decide) ?_
      exact x_iret ⟨Nat.le_refl _, Nat.le_refl _⟩ rfl dX8_within_19 ⟨by rw [bndI, if_neg (fun q => by have := Int32.lt_iff_toInt_lt.mp q; omega), if_pos (Int32.lt_iff_toInt_lt.mpr (by omega))], rfl⟩
  · refine x_iload_n dX8_within_5 rfl ?_
    refine x_goto (tgt := 19) dX8_within_6 (by decide) ?_
    exact x_iret ⟨Nat.le_refl _, Nat.le_refl _⟩ rfl dX8_within_19 ⟨by rw [bndI, if_pos (Int32.lt_iff_toInt_lt.mpr (by omega))], rfl⟩
theorem nI_m1 {n : Nat} (h : n ≤ 1000) : (nI n - nI 1).toInt = (n : Int) - 1 := by
  have e : ∀ n, n ≤ 1000 → (nI n - nI 1).toInt = (n : Int) - 1 := by decide +kernel
  exact e n h
set_option maxHeartbeats 4000000 in
theorem r_isOne {σ0 σ : ZS} {a : Nat → Int32} {tw : Int64} {b : Nat → List Int32} {rr n : Nat} {K N : List Nat} {W : List Int32} {D : List Nat} {fr : Int32} (hR : RM σ0 σ a tw b) (hC : RC a b rr n K N W D fr) {x : Int32} {p : Int} (hx : x.toInt = p) : Cn 1 M_X8_isOne 0 0 [.ref 1000, .int x] σ (fun r9 σ' => r9 = some (.int (bI (decide (0 ≤ p ∧ p < ((n : Nat) : Int))))) ∧ σ' = σ) := by
  obtain ⟨c7, hrr, c13, hn7, c14, cK, cN, cW, cD, hN7, hW7, hD49, hK5, hN9, hD999⟩ := id hC
  refine Cn.intro (lv0 := [some (.ref 1000), some (.int x)]) rfl (Nat.le_of_ble_eq_true rfl) rfl (fun d hd => ?_)
  refine x_iload_n dX8_isOne_0 rfl ?_
  refine x_i2l dX8_isOne_1 ?_
  refine x_lconst (v := 0) dX8_isOne_2 (by decide) ?_
  refine x_aload_n dX8_isOne_3 rfl ?_
  refine x_rget (v := .int (nI n)) f_X8_82 hR (rg c13) dX8_isOne_4 ?_
  refine x_iconst (v := nI 1) dX8_isOne_7 (by decide) ?_
  refine x_isub dX8_isOne_8 ?_
  refine x_i2l dX8_isOne_9 ?_
  refine x_callS m_X8_in l_X8_85 (r_in (p := p) (q := 0) (r := (((n : Nat) : Int) - 1)) (tL hx) (by decide) (tL (nI_m1 (by omega)))) (by omega) rfl rfl (Nat.le_of_ble_eq_true rfl) ⟨Nat.le_refl _, Nat.le_refl _⟩ dX8_isOne_10 (fun r1 s1 q1 => ?_)
  obtain ⟨rfl, eq1⟩ := q1
  obtain rfl := eq1.symm
  refine x_stk (st' := [.int (bI (decide (0 ≤ p ∧ p ≤ (((n : Nat) : Int) - 1))))]) rfl ?_
  exact x_zret ⟨Nat.le_refl _, Nat.le_refl _⟩ rfl (bI_nar _) dX8_isOne_13 ⟨by congr 3; rw [decide_eq_decide]; omega, rfl⟩
set_option maxHeartbeats 4000000 in
theorem r_areTwo {σ0 σ : ZS} {a : Nat → Int32} {tw : Int64} {b : Nat → List Int32} {rr n : Nat} {K N : List Nat} {W : List Int32} {D : List Nat} {fr : Int32} (hR : RM σ0 σ a tw b) (hC : RC a b rr n K N W D fr) {x y : Int32} {p q : Int} (hx : x.toInt = p) (hy : y.toInt = q) : Cn 2 M_X8_areTwo 0 0 [.ref 1000, .int x, .int y] σ (fun r9 σ' => r9 = some (.int (bI (decide ((0 ≤ p ∧ p < ((n : Nat) : Int)) ∧ (0 ≤ q ∧ q < ((n : Nat) : Int)) ∧ ¬ p = q)))) ∧ σ' = σ) := by
  obtain ⟨c7, hrr, c13, hn7, c14, cK, cN, cW, cD, hN7, hW7, hD49, hK5, hN9, hD999⟩ := id hC
  refine Cn.intro (lv0 := [some (.ref 1000), some (.int x), some (.int y)]) rfl (Nat.le_of_ble_eq_true rfl) rfl (fun d hd => ?_)
  refine x_aload_n dX8_areTwo_0 rfl ?_
  refine x_iload_n dX8_areTwo_1 rfl ?_
  refine x_callV m_X8_isOne l_X8_89 (r_isOne hR hC hx) rfl hR.2.1 (by omega) rfl rfl (Nat.le_of_ble_eq_true rfl) ⟨Nat.le_refl _, Nat.le_refl _⟩ dX8_areTwo_2 (fun r1 s1 q1 => ?_)
  obtain ⟨rfl, eq1⟩ := q1
  obtain rfl := eq1.symm
  refine x_stk (st' := [.int (bI (decide (0 ≤ p ∧ p < ((n : Nat) : Int))))]) rfl ?_
  refine x_ifP_eq (P := 0 ≤ p ∧ p < ((n : Nat) : Int)) inferInstance (tgt := 25) dX8_areTwo_5 (by decide) (fun hv2 => ?_) (fun hv2 => ?_)
  · refine x_iconst (v := nI 0) dX8_areTwo_25 (by decide) ?_
    exact x_zret ⟨Nat.le_refl _, Nat.le_refl _⟩ rfl (by decide) dX8_areTwo_26 ⟨by rw [bI_0 (by omega)], rfl⟩
  · refine x_aload_n dX8_areTwo_8 rfl ?_
    refine x_iload_n dX8_areTwo_9 rfl ?_
    refine x_callV m_X8_isOne l_X8_89 (r_isOne hR hC hy) rfl hR.2.1 (by omega) rfl rfl (Nat.le_of_ble_eq_true rfl) ⟨Nat.le_refl _, Nat.le_refl _⟩ dX8_areTwo_10 (fun r3 s3 q3 => ?_)
    obtain ⟨rfl, eq3⟩ := q3
    obtain rfl := eq3.symm
    refine x_stk (st' := [.int (bI (decide (0 ≤ q ∧ q < ((n : Nat) : Int))))]) rfl ?_
    refine x_ifP_eq (P := 0 ≤ q ∧ q < ((n : Nat) : Int)) inferInstance (tgt := 25) dX8_areTwo_13 (by decide) (fun hv4 => ?_) (fun hv4 => ?_)
    · refine x_iconst (v := nI 0) dX8_areTwo_25 (by decide) ?_
      exact x_zret ⟨Nat.le_refl _, Nat.le_refl _⟩ rfl (by decide) dX8_areTwo_26 ⟨by rw [bI_0 (by omega)], rfl⟩
    · refine x_iload_n dX8_areTwo_16 rfl ?_
      refine x_iload_n dX8_areTwo_17 rfl ?_
      refine x_icmpT_eq (p := p) (q := q) (tgt := 25) hx hy dX8_areTwo_18 (by decide) (fun hv5 => ?_) (fun hv5 => ?_)
      · refine x_iconst (v := nI 0) dX8_areTwo_25 (by decide) ?_
        exact x_zret ⟨Nat.le_refl _, Nat.le_refl _⟩ rfl (by decide) dX8_areTwo_26 ⟨by rw [bI_0 (by omega)], rfl⟩
      · refine x_iconst (v := nI 1) dX8_areTwo_21 (by decide) ?_
        refine x_goto (tgt := 26) dX8_areTwo_22 (by decide) ?_
        exact x_zret ⟨Nat.le_refl _, Nat.le_refl _⟩ rfl (by decide) dX8_areTwo_26 ⟨by rw [bI_1 (by omega)], rfl⟩
set_option maxHeartbeats 4000000 in
theorem lr_owesAll {σ0 σ : ZS} {a : Nat → Int32} {tw : Int64} {b : Nat → List Int32} {rr n : Nat} {K N : List Nat} {W : List Int32} {D : List Nat} {fr : Int32} (hR : RM σ0 σ a tw b) (hC : RC a b rr n K N W D fr) {p : Nat} (hp : p < 7) {d : Nat} (hd : 0 ≤ d) : ∀ (q k : Nat), k + q = n → X M_X8_owesAll d 0 0 (fun r9 σ' => r9 = some (.int (nI (rowS D p n))) ∧ σ' = σ) 0 0 4 [some (.ref 1000), some (.int (nI p)), some (.int (nI ((rowS D p k)))), some (.int (nI k))] [] σ := by
  obtain ⟨c7, hrr, c13, hn7, c14, cK, cN, cW, cD, hN7, hW7, hD49, hK5, hN9, hD999⟩ := id hC
  intro q
  induction q with
  | zero =>
    intro k hk
    refine x_iload_n dX8_owesAll_4 rfl ?_
    refine x_aload_n dX8_owesAll_5 rfl ?_
    refine x_rget (v := .int (nI n)) f_X8_82 hR (rg c13) dX8_owesAll_6 ?_
    refine x_icmpN_ge (tgt := 32) dX8_owesAll_9 (by decide) (by omega) (by omega) (fun hv1 => ?_) (fun hv1 => ?_)
    · refine x_iload_n dX8_owesAll_32 rfl ?_
      exact x_iret ⟨Nat.le_refl _, Nat.le_refl _⟩ rfl dX8_owesAll_33 ⟨by rw [show k = n by omega], rfl⟩
    · exact absurd hv1 (by omega)
  | succ q ih =>
    intro k hk
    refine x_iload_n dX8_owesAll_4 rfl ?_
    refine x_aload_n dX8_owesAll_5 rfl ?_
    refine x_rget (v := .int (nI n)) f_X8_82 hR (rg c13) dX8_owesAll_6 ?_
    refine x_icmpN_ge (tgt := 32) dX8_owesAll_9 (by decide) (by omega) (by omega) (fun hv1 => ?_) (fun hv1 => ?_)
    · exact absurd hv1 (by omega)
    · refine x_iload_n dX8_owesAll_12 rfl ?_
      refine x_aload_n dX8_owesAll_13 rfl ?_
      refine x_rget f_X8_35 hR rfl dX8_owesAll_14 ?_
      refine x_bipush (v := nI 7) dX8_owesAll_17 (by decide) ?_
      refine x_iload_n dX8_owesAll_19 rfl ?_
      refine x_imulN dX8_owesAll_20 ?_
      refine x_topi (y := nI (p * 7)) (by rw [Nat.mul_comm]) ?_
      refine x_iload_n dX8_owesAll_21 rfl ?_
      refine x_iaddN dX8_owesAll_22 ?_
      refine x_rald (j := 6) (n := (p * 7) + k) hR rfl (by decide) rfl rfl (rlt hR (m := 49) (by decide) rfl (by omega)) dX8_owesAll_23 ?_
      refine x_topi (y := nI ((D.getD ((p * 7) + k) 0))) (rgN cD) ?_
      refine x_iaddN dX8_owesAll_24 ?_
      refine x_istore_n dX8_owesAll_25 (by decide) rfl ?_
      refine x_lv (lv' := [some (.ref 1000), some (.int (nI p)), some (.int (nI (((rowS D p k)) + ((D.getD ((p * 7) + k) 0))))), some (.int (nI k))]) rfl ?_
      refine x_iincN dX8_owesAll_26 rfl (by decide) rfl ?_
      refine x_lv (lv' := [some (.ref 1000), some (.int (nI p)), some (.int (nI (((rowS D p k)) + ((D.getD ((p * 7) + k) 0))))), some (.int (nI (k + 1)))]) rfl ?_
      refine x_goto (tgt := 4) dX8_owesAll_29 (by decide) ?_
      exact ih (k + 1) (by omega)
set_option maxHeartbeats 4000000 in
theorem r_owesAll {σ0 σ : ZS} {a : Nat → Int32} {tw : Int64} {b : Nat → List Int32} {rr n : Nat} {K N : List Nat} {W : List Int32} {D : List Nat} {fr : Int32} (hR : RM σ0 σ a tw b) (hC : RC a b rr n K N W D fr) {p : Nat} (hp : p < 7) : Cn 0 M_X8_owesAll 0 0 [.ref 1000, .int (nI p)] σ (fun r9 σ' => r9 = some (.int (nI (rowS D p n))) ∧ σ' = σ) := by
  obtain ⟨c7, hrr, c13, hn7, c14, cK, cN, cW, cD, hN7, hW7, hD49, hK5, hN9, hD999⟩ := id hC
  refine Cn.intro (lv0 := [some (.ref 1000), some (.int (nI p)), none, none]) rfl (Nat.le_of_ble_eq_true rfl) rfl (fun d hd => ?_)
  refine x_iconst (v := nI 0) dX8_owesAll_0 (by decide) ?_
  refine x_istore_n dX8_owesAll_1 (by decide) rfl ?_
  refine x_lv (lv' := [some (.ref 1000), some (.int (nI p)), some (.int (nI 0)), none]) rfl ?_
  refine x_iconst (v := nI 0) dX8_owesAll_2 (by decide) ?_
  refine x_istore_n dX8_owesAll_3 (by decide) rfl ?_
  refine x_lv (lv' := [some (.ref 1000), some (.int (nI p)), some (.int (nI 0)), some (.int (nI 0))]) rfl ?_
  exact lr_owesAll hR hC hp hd n 0 (by omega)
set_option maxHeartbeats 4000000 in
theorem lr_owed {σ0 σ : ZS} {a : Nat → Int32} {tw : Int64} {b : Nat → List Int32} {rr n : Nat} {K N : List Nat} {W : List Int32} {D : List Nat} {fr : Int32} (hR : RM σ0 σ a tw b) (hC : RC a b rr n K N W D fr) {d : Nat} (hd : 1 ≤ d) : ∀ (q k : Nat), k + q = n → X M_X8_owed d 0 0 (fun r9 σ' => r9 = some (.int (nI (allS D n n))) ∧ σ' = σ) 0 0 4 [some (.ref 1000), some (.int (nI ((allS D n k)))), some (.int (nI k))] [] σ := by
  obtain ⟨c7, hrr, c13, hn7, c14, cK, cN, cW, cD, hN7, hW7, hD49, hK5, hN9, hD999⟩ := id hC
  intro q
  induction q with
  | zero =>
    intro k hk
    refine x_iload_n dX8_owed_4 rfl ?_
    refine x_aload_n dX8_owed_5 rfl ?_
    refine x_rget (v := .int (nI n)) f_X8_82 hR (rg c13) dX8_owed_6 ?_
    refine x_icmpN_ge (tgt := 26) dX8_owed_9 (by decide) (by omega) (by omega) (fun hv1 => ?_) (fun hv1 => ?_)
    · refine x_iload_n dX8_owed_26 rfl ?_
      exact x_iret ⟨Nat.le_refl _, Nat.le_refl _⟩ rfl dX8_owed_27 ⟨by rw [show k = n by omega], rfl⟩
    · exact absurd hv1 (by omega)
  | succ q ih =>
    intro k hk
    refine x_iload_n dX8_owed_4 rfl ?_
    refine x_aload_n dX8_owed_5 rfl ?_
    refine x_rget (v := .int (nI n)) f_X8_82 hR (rg c13) dX8_owed_6 ?_
    refine x_icmpN_ge (tgt := 26) dX8_owed_9 (by decide) (by omega) (by omega) (fun hv1 => ?_) (fun hv1 => ?_)
    · exact absurd hv1 (by omega)
    · refine x_iload_n dX8_owed_12 rfl ?_
      refine x_aload_n dX8_owed_13 rfl ?_
      refine x_iload_n dX8_owed_14 rfl ?_
      refine x_callV m_X8_owesAll l_X8_132 (r_owesAll hR hC (by omega)) rfl hR.2.1 (by omega) rfl rfl (Nat.le_of_ble_eq_true rfl) ⟨Nat.le_refl _, Nat.le_refl _⟩ dX8_owed_15 (fun r2 s2 q2 => ?_)
      obtain ⟨rfl, eq2⟩ := q2
      obtain rfl := eq2.symm
      refine x_stk (st' := [.int (nI ((rowS D k n))), .int (nI ((allS D n k)))]) rfl ?_
      refine x_iaddN dX8_owed_18 ?_
      refine x_istore_n dX8_owed_19 (by decide) rfl ?_
      refine x_lv (lv' := [some (.ref 1000), some (.int (nI (((allS D n k)) + ((rowS D k n))))), some (.int (nI k))]) rfl ?_
      refine x_iincN dX8_owed_20 rfl (by decide) rfl ?_
      refine x_lv (lv' := [some (.ref 1000), some (.int (nI (((allS D n k)) + ((rowS D k n))))), some (.int (nI (k + 1)))]) rfl ?_
      refine x_goto (tgt := 4) dX8_owed_23 (by decide) ?_
      exact ih (k + 1) (by omega)
set_option maxHeartbeats 4000000 in
theorem r_owed {σ0 σ : ZS} {a : Nat → Int32} {tw : Int64} {b : Nat → List Int32} {rr n : Nat} {K N : List Nat} {W : List Int32} {D : List Nat} {fr : Int32} (hR : RM σ0 σ a tw b) (hC : RC a b rr n K N W D fr) : Cn 1 M_X8_owed 0 0 [.ref 1000] σ (fun r9 σ' => r9 = some (.int (nI (allS D n n))) ∧ σ' = σ) := by
  obtain ⟨c7, hrr, c13, hn7, c14, cK, cN, cW, cD, hN7, hW7, hD49, hK5, hN9, hD999⟩ := id hC
  refine Cn.intro (lv0 := [some (.ref 1000), none, none]) rfl (Nat.le_of_ble_eq_true rfl) rfl (fun d hd => ?_)
  refine x_iconst (v := nI 0) dX8_owed_0 (by decide) ?_
  refine x_istore_n dX8_owed_1 (by decide) rfl ?_
  refine x_lv (lv' := [some (.ref 1000), some (.int (nI 0)), none]) rfl ?_
  refine x_iconst (v := nI 0) dX8_owed_2 (by decide) ?_
  refine x_istore_n dX8_owed_3 (by decide) rfl ?_
  refine x_lv (lv' := [some (.ref 1000), some (.int (nI 0)), some (.int (nI 0))]) rfl ?_
  exact lr_owed hR hC hd n 0 (by omega)
theorem shl0 {k : Nat} (hk : k < 31) : nI 0 <<< (nI k &&& 31) = nI 0 := by
  have e : ∀ k, k < 31 → nI 0 <<< (nI k &&& 31) = nI 0 := by decide +kernel
  exact e k hk
set_option maxHeartbeats 4000000 in
theorem lr_ruined {σ0 σ : ZS} {a : Nat → Int32} {tw : Int64} {b : Nat → List Int32} {rr n : Nat} {K N : List Nat} {W : List Int32} {D : List Nat} {fr : Int32} (hR : RM σ0 σ a tw b) (hC : RC a b rr n K N W D fr) {d : Nat} (hd : 1 ≤ d) : ∀ (q k : Nat), k + q = n → X M_X8_ruined d 0 0 (fun r9 σ' => r9 = some (.int (nI (ruinS D n n))) ∧ σ' = σ) 0 0 4 [some (.ref 1000), some (.int (nI ((ruinS D n k)))), some (.int (nI k))] [] σ := by
  obtain ⟨c7, hrr, c13, hn7, c14, cK, cN, cW, cD, hN7, hW7, hD49, hK5, hN9, hD999⟩ := id hC
  intro q
  induction q with
  | zero =>
    intro k hk
    refine x_iload_n dX8_ruined_4 rfl ?_
    refine x_aload_n dX8_ruined_5 rfl ?_
    refine x_rget (v := .int (nI n)) f_X8_82 hR (rg c13) dX8_ruined_6 ?_
    refine x_icmpN_ge (tgt := 39) dX8_ruined_9 (by decide) (by omega) (by omega) (fun hv1 => ?_) (fun hv1 => ?_)
    · refine x_iload_n dX8_ruined_39 rfl ?_
      exact x_iret ⟨Nat.le_refl _, Nat.le_refl _⟩ rfl dX8_ruined_40 ⟨by rw [show k = n by omega], rfl⟩
    · exact absurd hv1 (by omega)
  | succ q ih =>
    intro k hk
    refine x_iload_n dX8_ruined_4 rfl ?_
    refine x_aload_n dX8_ruined_5 rfl ?_
    refine x_rget (v := .int (nI n)) f_X8_82 hR (rg c13) dX8_ruined_6 ?_
    refine x_icmpN_ge (tgt := 39) dX8_ruined_9 (by decide) (by omega) (by omega) (fun hv1 => ?_) (fun hv1 => ?_)
    · exact absurd hv1 (by omega)
    · refine x_iload_n dX8_ruined_12 rfl ?_
      refine x_aload_n dX8_ruined_13 rfl ?_
      refine x_iload_n dX8_ruined_14 rfl ?_
      refine x_callV m_X8_owesAll l_X8_132 (r_owesAll hR hC (by omega)) rfl hR.2.1 (by omega) rfl rfl (Nat.le_of_ble_eq_true rfl) ⟨Nat.le_refl _, Nat.le_refl _⟩ dX8_ruined_15 (fun r2 s2 q2 => ?_)
      obtain ⟨rfl, eq2⟩ := q2
      obtain rfl := eq2.symm
      refine x_stk (st' := [.int (nI ((rowS D k n))), .int (nI ((ruinS D n k)))]) rfl ?_
      have b1 := rowS_le hD999 k n
      refine x_sipush (v := nI 1000) dX8_ruined_18 (by decide) ?_
      refine x_icmpN_lt (tgt := 28) dX8_ruined_21 (by decide) (by omega) (by omega) (fun hv3 => ?_) (fun hv3 => ?_)
      · refine x_iconst (v := nI 0) dX8_ruined_28 (by decide) ?_
        refine x_iload_n dX8_ruined_29 rfl ?_
        refine x_ishl dX8_ruined_30 ?_
        refine x_topi (y := nI 0) (shl0 (by omega)) ?_
        refine x_iorN dX8_ruined_31 ?_
        refine x_istore_n dX8_ruined_32 (by decide) rfl ?_
        refine x_lv (lv' := [some (.ref 1000), some (.int (nI (((ruinS D n k)) ||| 0))), some (.int (nI k))]) rfl ?_
        refine x_iincN dX8_ruined_33 rfl (by decide) rfl ?_
        refine x_lv (lv' := [some (.ref 1000), some (.int (nI (((ruinS D n k)) ||| 0))), some (.int (nI (k + 1)))]) rfl ?_
        refine x_goto (tgt := 4) dX8_ruined_36 (by decide) ?_
        have e := ih (k + 1) (by omega)
        rw [ruinS, if_neg (by omega)] at e
        exact e
      · refine x_iconst (v := nI 1) dX8_ruined_24 (by decide) ?_
        refine x_goto (tgt := 29) dX8_ruined_25 (by decide) ?_
        refine x_iload_n dX8_ruined_29 rfl ?_
        refine x_ishl dX8_ruined_30 ?_
        refine x_topi (y := nI (2 ^ k)) (z_shl1 (by omega)) ?_
        refine x_iorN dX8_ruined_31 ?_
        refine x_istore_n dX8_ruined_32 (by decide) rfl ?_
        refine x_lv (lv' := [some (.ref 1000), some (.int (nI (((ruinS D n k)) ||| (2 ^ k)))), some (.int (nI k))]) rfl ?_
        refine x_iincN dX8_ruined_33 rfl (by decide) rfl ?_
        refine x_lv (lv' := [some (.ref 1000), some (.int (nI (((ruinS D n k)) ||| (2 ^ k)))), some (.int (nI (k + 1)))]) rfl ?_
        refine x_goto (tgt := 4) dX8_ruined_36 (by decide) ?_
        have e := ih (k + 1) (by omega)
        rw [ruinS, if_pos (by omega)] at e
        exact e
set_option maxHeartbeats 4000000 in
theorem r_ruined {σ0 σ : ZS} {a : Nat → Int32} {tw : Int64} {b : Nat → List Int32} {rr n : Nat} {K N : List Nat} {W : List Int32} {D : List Nat} {fr : Int32} (hR : RM σ0 σ a tw b) (hC : RC a b rr n K N W D fr) : Cn 1 M_X8_ruined 0 0 [.ref 1000] σ (fun r9 σ' => r9 = some (.int (nI (ruinS D n n))) ∧ σ' = σ) := by
  obtain ⟨c7, hrr, c13, hn7, c14, cK, cN, cW, cD, hN7, hW7, hD49, hK5, hN9, hD999⟩ := id hC
  refine Cn.intro (lv0 := [some (.ref 1000), none, none]) rfl (Nat.le_of_ble_eq_true rfl) rfl (fun d hd => ?_)
  refine x_iconst (v := nI 0) dX8_ruined_0 (by decide) ?_
  refine x_istore_n dX8_ruined_1 (by decide) rfl ?_
  refine x_lv (lv' := [some (.ref 1000), some (.int (nI 0)), none]) rfl ?_
  refine x_iconst (v := nI 0) dX8_ruined_2 (by decide) ?_
  refine x_istore_n dX8_ruined_3 (by decide) rfl ?_
  refine x_lv (lv' := [some (.ref 1000), some (.int (nI 0)), some (.int (nI 0))]) rfl ?_
  exact lr_ruined hR hC hd n 0 (by omega)
set_option maxHeartbeats 4000000 in
theorem r_everybody {σ0 σ : ZS} {a : Nat → Int32} {tw : Int64} {b : Nat → List Int32} {rr n : Nat} {K N : List Nat} {W : List Int32} {D : List Nat} {fr : Int32} (hR : RM σ0 σ a tw b) (hC : RC a b rr n K N W D fr) : Cn 0 M_X8_everybody 0 0 [.ref 1000] σ (fun r9 σ' => r9 = some (.int (nI (2 ^ n - 1))) ∧ σ' = σ) := by
  obtain ⟨c7, hrr, c13, hn7, c14, cK, cN, cW, cD, hN7, hW7, hD49, hK5, hN9, hD999⟩ := id hC
  refine Cn.intro (lv0 := [some (.ref 1000)]) rfl (Nat.le_of_ble_eq_true rfl) rfl (fun d hd => ?_)
  refine x_iconst (v := nI 1) dX8_everybody_0 (by decide) ?_
  refine x_aload_n dX8_everybody_1 rfl ?_
  refine x_rget (v := .int (nI n)) f_X8_82 hR (rg c13) dX8_everybody_2 ?_
  refine x_ishl dX8_everybody_5 ?_
  refine x_topi (y := nI (2 ^ n)) (z_shl1 (by omega)) ?_
  have h2n := Nat.two_pow_pos n
  refine x_iconst (v := nI 1) dX8_everybody_6 (by decide) ?_
  refine x_isubN (by omega) dX8_everybody_7 ?_
  exact x_iret ⟨Nat.le_refl _, Nat.le_refl _⟩ rfl dX8_everybody_8 ⟨rfl, rfl⟩
set_option maxHeartbeats 4000000 in
theorem lr_creditor {σ0 σ : ZS} {a : Nat → Int32} {tw : Int64} {b : Nat → List Int32} {rr n : Nat} {K N : List Nat} {W : List Int32} {D : List Nat} {fr : Int32} (hR : RM σ0 σ a tw b) (hC : RC a b rr n K N W D fr) {p A : Nat} (hp : p < 7) (hA : A < 2147483648) {d : Nat} (hd : 0 ≤ d) : ∀ (q k : Nat), k + q = n → X M_X8_creditor d 0 0 (fun r9 σ' => r9 = some (.int (oI (cred D n p A))) ∧ σ' = σ) 0 0 5 [some (.ref 1000), some (.int (nI p)), some (.int (nI A)), some (.int ((oI (credF D p A k).1))), some (.int (nI k)), none] [] σ := by
  obtain ⟨c7, hrr, c13, hn7, c14, cK, cN, cW, cD, hN7, hW7, hD49, hK5, hN9, hD999⟩ := id hC
  intro q
  induction q with
  | zero =>
    intro k hk
    refine x_iload dX8_creditor_5 rfl ?_
    refine x_aload_n dX8_creditor_7 rfl ?_
    refine x_rget (v := .int (nI n)) f_X8_82 hR (rg c13) dX8_creditor_8 ?_
    refine x_icmpN_ge (tgt := 77) dX8_creditor_11 (by decide) (by omega) (by omega) (fun hv1 => ?_) (fun hv1 => ?_)
    · refine x_iload_n dX8_creditor_77 rfl ?_
      exact x_iret ⟨Nat.le_refl _, Nat.le_refl _⟩ rfl dX8_creditor_78 ⟨by rw [cred, show n = k by omega], rfl⟩
    · exact absurd hv1 (by omega)
  | succ q ih =>
    intro k hk
    refine x_iload dX8_creditor_5 rfl ?_
    refine x_aload_n dX8_creditor_7 rfl ?_
    refine x_rget (v := .int (nI n)) f_X8_82 hR (rg c13) dX8_creditor_8 ?_
    refine x_icmpN_ge (tgt := 77) dX8_creditor_11 (by decide) (by omega) (by omega) (fun hv1 => ?_) (fun hv1 => ?_)
    · exact absurd hv1 (by omega)
    · rcases hc : (credF D p A k).1 with _ | c
      · have hc2 : (credF D p A k).2 = 0 := by rw [(credF_ok D p A k).1, hc]
        refine x_lv (lv' := [some (.ref 1000), some (.int (nI p)), some (.int (nI A)), some (.int ((-1))), some (.int (nI k)), none]) rfl ?_
        refine x_iload_n dX8_creditor_14 rfl ?_
        refine x_iload dX8_creditor_15 rfl ?_
        refine x_ishr dX8_creditor_17 ?_
        refine x_iconst (v := nI 1) dX8_creditor_18 (by decide) ?_
        refine x_iand dX8_creditor_19 ?_
        refine x_topi (y := nI ((A / 2 ^ k % 2))) (z_bit (by omega) (by omega)) ?_
        refine x_iconst (v := nI 1) dX8_creditor_20 (by decide) ?_
        refine x_icmpN_ne (tgt := 39) dX8_creditor_21 (by decide) (by omega) (by omega) (fun hv2 => ?_) (fun hv2 => ?_)
        · refine x_iconst (v := nI 0) dX8_creditor_39 (by decide) ?_
          refine x_istore dX8_creditor_40 (by decide) rfl ?_
          refine x_lv (lv' := [some (.ref 1000), some (.int (nI p)), some (.int (nI A)), some (.int ((-1))), some (.int (nI k)), some (.int (nI 0))]) rfl ?_
          refine x_iload dX8_creditor_42 rfl ?_
          refine x_ifN_le (tgt := 71) dX8_creditor_44 (by decide) (by omega) (fun hv3 => ?_) (fun hv3 => ?_)
          · refine x_iincN dX8_creditor_71 rfl (by decide) rfl ?_
            refine x_lv (lv' := [some (.ref 1000), some (.int (nI p)), some (.int (nI A)), some (.int ((-1))), some (.int (nI (k + 1))), some (.int (nI 0))]) rfl ?_
            refine x_goto (tgt := 5) dX8_creditor_74 (by decide) ?_
            have e : (credF D p A (k + 1)).1 = none := by rw [credF, if_neg (fun q => by rw [tb_dm] at q; exact hv2 (of_decide_eq_true q.1))]; exact hc
            refine x_drop 5 ?_
            refine x_lv (lv' := [some (.ref 1000), some (.int (nI p)), some (.int (nI A)), some (.int ((oI (credF D p A (k + 1)).1))), some (.int (nI (k + 1))), none]) (by rw [e]; rfl) ?_
            exact ih (k + 1) (by omega)
          · exact absurd hv3 (by decide)
        · refine x_aload_n dX8_creditor_24 rfl ?_
          refine x_rget f_X8_35 hR rfl dX8_creditor_25 ?_
          refine x_bipush (v := nI 7) dX8_creditor_28 (by decide) ?_
          refine x_iload_n dX8_creditor_30 rfl ?_
          refine x_imulN dX8_creditor_31 ?_
          refine x_topi (y := nI (p * 7)) (by rw [Nat.mul_comm]) ?_
          refine x_iload dX8_creditor_32 rfl ?_
          refine x_iaddN dX8_creditor_34 ?_
          refine x_rald (j := 6) (n := (p * 7) + k) hR rfl (by decide) rfl rfl (rlt hR (m := 49) (by decide) rfl (by omega)) dX8_creditor_35 ?_
          refine x_topi (y := nI ((D.getD ((p * 7) + k) 0))) (rgN cD) ?_
          have hd3 := hD999 (p * 7 + k)
          refine x_goto (tgt := 40) dX8_creditor_36 (by decide) ?_
          refine x_istore dX8_creditor_40 (by decide) rfl ?_
          refine x_lv (lv' := [some (.ref 1000), some (.int (nI p)), some (.int (nI A)), some (.int ((-1))), some (.int (nI k)), some (.int (nI ((D.getD ((p * 7) + k) 0))))]) rfl ?_
          refine x_iload dX8_creditor_42 rfl ?_
          refine x_ifN_le (tgt := 71) dX8_creditor_44 (by decide) (by omega) (fun hv4 => ?_) (fun hv4 => ?_)
          · refine x_iincN dX8_creditor_71 rfl (by decide) rfl ?_
            refine x_lv (lv' := [some (.ref 1000), some (.int (nI p)), some (.int (nI A)), some (.int ((-1))), some (.int (nI (k + 1))), some (.int (nI ((D.getD ((p * 7) + k) 0))))]) rfl ?_
            refine x_goto (tgt := 5) dX8_creditor_74 (by decide) ?_
            have e : (credF D p A (k + 1)).1 = none := by rw [credF, if_neg (fun q => by omega)]; exact hc
            refine x_drop 5 ?_
            refine x_lv (lv' := [some (.ref 1000), some (.int (nI p)), some (.int (nI A)), some (.int ((oI (credF D p A (k + 1)).1))), some (.int (nI (k + 1))), none]) (by rw [e]; rfl) ?_
            exact ih (k + 1) (by omega)
          · refine x_iload_n dX8_creditor_47 rfl ?_
            refine x_iconst (v := (-1)) dX8_creditor_48 (by decide) ?_
            refine x_icmpT_eq (p := (-1)) (q := (-1)) (tgt := 68) (by decide) (by decide) dX8_creditor_49 (by decide) (fun hv5 => ?_) (fun hv5 => ?_)
            · refine x_iload dX8_creditor_68 rfl ?_
              refine x_istore_n dX8_creditor_70 (by decide) rfl ?_
              refine x_lv (lv' := [some (.ref 1000), some (.int (nI p)), some (.int (nI A)), some (.int (nI k)), some (.int (nI k)), some (.int (nI ((D.getD ((p * 7) + k) 0))))]) rfl ?_
              refine x_iincN dX8_creditor_71 rfl (by decide) rfl ?_
              refine x_lv (lv' := [some (.ref 1000), some (.int (nI p)), some (.int (nI A)), some (.int (nI k)), some (.int (nI (k + 1))), some (.int (nI ((D.getD ((p * 7) + k) 0))))]) rfl ?_
              refine x_goto (tgt := 5) dX8_creditor_74 (by decide) ?_
              have e : (credF D p A (k + 1)).1 = some k := by rw [credF, if_pos ⟨(by rw [tb_dm]; exact decide_eq_true hv2), by omega⟩]
              refine x_drop 5 ?_
              refine x_lv (lv' := [some (.ref 1000), some (.int (nI p)), some (.int (nI A)), some (.int ((oI (credF D p A (k + 1)).1))), some (.int (nI (k + 1))), none]) (by rw [e]; rfl) ?_
              exact ih (k + 1) (by omega)
            · exact absurd rfl hv5
      · have hc2 : (credF D p A k).2 = D.getD (p * 7 + c) 0 := by rw [(credF_ok D p A k).1, hc]
        have hc3 := (credF_ok D p A k).2 c hc
        have hd1 := hD999 (p * 7 + c)
        have hd2 := hD999 (p * 7 + k)
        refine x_lv (lv' := [some (.ref 1000), some (.int (nI p)), some (.int (nI A)), some (.int (nI c)), some (.int (nI k)), none]) rfl ?_
        refine x_iload_n dX8_creditor_14 rfl ?_
        refine x_iload dX8_creditor_15 rfl ?_
        refine x_ishr dX8_creditor_17 ?_
        refine x_iconst (v := nI 1) dX8_creditor_18 (by decide) ?_
        refine x_iand dX8_creditor_19 ?_
        refine x_topi (y := nI ((A / 2 ^ k % 2))) (z_bit (by omega) (by omega)) ?_
        refine x_iconst (v := nI 1) dX8_creditor_20 (by decide) ?_
        refine x_icmpN_ne (tgt := 39) dX8_creditor_21 (by decide) (by omega) (by omega) (fun hv6 => ?_) (fun hv6 => ?_)
        · refine x_iconst (v := nI 0) dX8_creditor_39 (by decide) ?_
          refine x_istore dX8_creditor_40 (by decide) rfl ?_
          refine x_lv (lv' := [some (.ref 1000), some (.int (nI p)), some (.int (nI A)), some (.int (nI c)), some (.int (nI k)), some (.int (nI 0))]) rfl ?_
          refine x_iload dX8_creditor_42 rfl ?_
          refine x_ifN_le (tgt := 71) dX8_creditor_44 (by decide) (by omega) (fun hv7 => ?_) (fun hv7 => ?_)
          · refine x_iincN dX8_creditor_71 rfl (by decide) rfl ?_
            refine x_lv (lv' := [some (.ref 1000), some (.int (nI p)), some (.int (nI A)), some (.int (nI c)), some (.int (nI (k + 1))), some (.int (nI 0))]) rfl ?_
            refine x_goto (tgt := 5) dX8_creditor_74 (by decide) ?_
            have e : (credF D p A (k + 1)).1 = some c := by rw [credF, if_neg (fun q => by rw [tb_dm] at q; exact hv6 (of_decide_eq_true q.1))]; exact hc
            refine x_drop 5 ?_
            refine x_lv (lv' := [some (.ref 1000), some (.int (nI p)), some (.int (nI A)), some (.int ((oI (credF D p A (k + 1)).1))), some (.int (nI (k + 1))), none]) (by rw [e]; rfl) ?_
            exact ih (k + 1) (by omega)
          · exact absurd hv7 (by decide)
        · refine x_aload_n dX8_creditor_24 rfl ?_
          refine x_rget f_X8_35 hR rfl dX8_creditor_25 ?_
          refine x_bipush (v := nI 7) dX8_creditor_28 (by decide) ?_
          refine x_iload_n dX8_creditor_30 rfl ?_
          refine x_imulN dX8_creditor_31 ?_
          refine x_topi (y := nI (p * 7)) (by rw [Nat.mul_comm]) ?_
          refine x_iload dX8_creditor_32 rfl ?_
          refine x_iaddN dX8_creditor_34 ?_
          refine x_rald (j := 6) (n := (p * 7) + k) hR rfl (by decide) rfl rfl (rlt hR (m := 49) (by decide) rfl (by omega)) dX8_creditor_35 ?_
          refine x_topi (y := nI ((D.getD ((p * 7) + k) 0))) (rgN cD) ?_
          have hd3 := hD999 (p * 7 + k)
          refine x_goto (tgt := 40) dX8_creditor_36 (by decide) ?_
          refine x_istore dX8_creditor_40 (by decide) rfl ?_
          refine x_lv (lv' := [some (.ref 1000), some (.int (nI p)), some (.int (nI A)), some (.int (nI c)), some (.int (nI k)), some (.int (nI ((D.getD ((p * 7) + k) 0))))]) rfl ?_
          refine x_iload dX8_creditor_42 rfl ?_
          refine x_ifN_le (tgt := 71) dX8_creditor_44 (by decide) (by omega) (fun hv8 => ?_) (fun hv8 => ?_)
          · refine x_iincN dX8_creditor_71 rfl (by decide) rfl ?_
            refine x_lv (lv' := [some (.ref 1000), some (.int (nI p)), some (.int (nI A)), some (.int (nI c)), some (.int (nI (k + 1))), some (.int (nI ((D.getD ((p * 7) + k) 0))))]) rfl ?_
            refine x_goto (tgt := 5) dX8_creditor_74 (by decide) ?_
            have e : (credF D p A (k + 1)).1 = some c := by rw [credF, if_neg (fun q => by omega)]; exact hc
            refine x_drop 5 ?_
            refine x_lv (lv' := [some (.ref 1000), some (.int (nI p)), some (.int (nI A)), some (.int ((oI (credF D p A (k + 1)).1))), some (.int (nI (k + 1))), none]) (by rw [e]; rfl) ?_
            exact ih (k + 1) (by omega)
          · refine x_iload_n dX8_creditor_47 rfl ?_
            refine x_iconst (v := (-1)) dX8_creditor_48 (by decide) ?_
            refine x_icmpT_eq (p := ((c : Nat) : Int)) (q := (-1)) (tgt := 68) (nI_toInt (by omega)) (by decide) dX8_creditor_49 (by decide) (fun hv9 => ?_) (fun hv9 => ?_)
            · exact absurd hv9 (by omega)
            · refine x_iload dX8_creditor_52 rfl ?_
              refine x_aload_n dX8_creditor_54 rfl ?_
              refine x_rget f_X8_35 hR rfl dX8_creditor_55 ?_
              refine x_bipush (v := nI 7) dX8_creditor_58 (by decide) ?_
              refine x_iload_n dX8_creditor_60 rfl ?_
              refine x_imulN dX8_creditor_61 ?_
              refine x_topi (y := nI (p * 7)) (by rw [Nat.mul_comm]) ?_
              refine x_iload_n dX8_creditor_62 rfl ?_
              refine x_iaddN dX8_creditor_63 ?_
              refine x_rald (j := 6) (n := (p * 7) + c) hR rfl (by decide) rfl rfl (rlt hR (m := 49) (by decide) rfl (by omega)) dX8_creditor_64 ?_
              refine x_topi (y := nI ((D.getD ((p * 7) + c) 0))) (rgN cD) ?_
              refine x_icmpN_le (tgt := 71) dX8_creditor_65 (by decide) (by omega) (by omega) (fun hv10 => ?_) (fun hv10 => ?_)
              · refine x_iincN dX8_creditor_71 rfl (by decide) rfl ?_
                refine x_lv (lv' := [some (.ref 1000), some (.int (nI p)), some (.int (nI A)), some (.int (nI c)), some (.int (nI (k + 1))), some (.int (nI ((D.getD ((p * 7) + k) 0))))]) rfl ?_
                refine x_goto (tgt := 5) dX8_creditor_74 (by decide) ?_
                have e : (credF D p A (k + 1)).1 = some c := by rw [credF, if_neg (fun q => by omega)]; exact hc
                refine x_drop 5 ?_
                refine x_lv (lv' := [some (.ref 1000), some (.int (nI p)), some (.int (nI A)), some (.int ((oI (credF D p A (k + 1)).1))), some (.int (nI (k + 1))), none]) (by rw [e]; rfl) ?_
                exact ih (k + 1) (by omega)
              · refine x_iload dX8_creditor_68 rfl ?_
                refine x_istore_n dX8_creditor_70 (by decide) rfl ?_
                refine x_lv (lv' := [some (.ref 1000), some (.int (nI p)), some (.int (nI A)), some (.int (nI k)), some (.int (nI k)), some (.int (nI ((D.getD ((p * 7) + k) 0))))]) rfl ?_
                refine x_iincN dX8_creditor_71 rfl (by decide) rfl ?_
                refine x_lv (lv' := [some (.ref 1000), some (.int (nI p)), some (.int (nI A)), some (.int (nI k)), some (.int (nI (k + 1))), some (.int (nI ((D.getD ((p * 7) + k) 0))))]) rfl ?_
                refine x_goto (tgt := 5) dX8_creditor_74 (by decide) ?_
                have e : (credF D p A (k + 1)).1 = some k := by rw [credF, if_pos ⟨(by rw [tb_dm]; exact decide_eq_true hv6), by omega⟩]
                refine x_drop 5 ?_
                refine x_lv (lv' := [some (.ref 1000), some (.int (nI p)), some (.int (nI A)), some (.int ((oI (credF D p A (k + 1)).1))), some (.int (nI (k + 1))), none]) (by rw [e]; rfl) ?_
                exact ih (k + 1) (by omega)
set_option maxHeartbeats 4000000 in
theorem r_creditor {σ0 σ : ZS} {a : Nat → Int32} {tw : Int64} {b : Nat → List Int32} {rr n : Nat} {K N : List Nat} {W : List Int32} {D : List Nat} {fr : Int32} (hR : RM σ0 σ a tw b) (hC : RC a b rr n K N W D fr) {p A : Nat} (hp : p < 7) (hA : A < 2147483648) : Cn 0 M_X8_creditor 0 0 [.ref 1000, .int (nI p), .int (nI A)] σ (fun r9 σ' => r9 = some (.int (oI (cred D n p A))) ∧ σ' = σ) := by
  obtain ⟨c7, hrr, c13, hn7, c14, cK, cN, cW, cD, hN7, hW7, hD49, hK5, hN9, hD999⟩ := id hC
  refine Cn.intro (lv0 := [some (.ref 1000), some (.int (nI p)), some (.int (nI A)), none, none, none]) rfl (Nat.le_of_ble_eq_true rfl) rfl (fun d hd => ?_)
  refine x_iconst (v := (-1)) dX8_creditor_0 (by decide) ?_
  refine x_istore_n dX8_creditor_1 (by decide) rfl ?_
  refine x_lv (lv' := [some (.ref 1000), some (.int (nI p)), some (.int (nI A)), some (.int ((-1))), none, none]) rfl ?_
  refine x_iconst (v := nI 0) dX8_creditor_2 (by decide) ?_
  refine x_istore dX8_creditor_3 (by decide) rfl ?_
  refine x_lv (lv' := [some (.ref 1000), some (.int (nI p)), some (.int (nI A)), some (.int ((-1))), some (.int (nI 0)), none]) rfl ?_
  exact lr_creditor hR hC hp hA hd n 0 (by omega)
