/-! guests, images -/
theorem RC.add {a : Nat → Int32} {b b' : Nat → List Int32} {rr n : Nat} {K N : List Nat} {W : List Int32} {D : List Nat} {f9 : Int32} {kd nu : Nat} (h : RC a b rr n K N W D f9) (hn : n < 7) (hkd : kd ≤ 5) (hnu : nu ≤ 9) (hK : K.length = 7) (hl : (b 3).length = 7) (h3 : b' 3 = (b 3).set n (nI kd)) (h4 : b' 4 = (b 4).set n (nI nu)) (h5 : b' 5 = (b 5).set n (-1)) (h6 : b' 6 = b 6) : RC (up a 13 (nI (n + 1))) b' rr (n + 1) (K.set n kd) (N.set n nu) (W.set n (-1)) D f9 := by
  obtain ⟨c7, hrr, c13, hn7, c14, cK, cN, cW, cD, hN7, hW7, hD49, hK5, hN9, hD999⟩ := h
  refine ⟨c7, hrr, rfl, by omega, c14, fun i hi => ?_, by rw [h4, cN, gm_set], by rw [h5, cW], by rw [h6]; exact cD, by rw [List.length_set]; exact hN7, by rw [List.length_set]; exact hW7, hD49, getD_set_le hK5 hkd, getD_set_le hN9 hnu, hD999⟩
  rw [h3, gset (by omega), getD_set]
  by_cases e : i = n
  · rw [if_pos e, if_pos ⟨e.symm, by omega⟩]
  · rw [if_neg e, if_neg (fun q => e q.1.symm)]; exact cK i (by omega)
set_option maxHeartbeats 4000000 in
theorem lr_guest {σ0 : ZS} {a : Nat → Int32} {tw : Int64} {b : Nat → List Int32} {n : Nat} {D : List Nat} (c13 : a 13 = nI n) (hn : n < 7) (hb6 : b 6 = D.map nI) (hD : D.length = 49) (hz : ∀ j, j < 7 → D.getD (n * 7 + j) 0 = 0 ∧ D.getD (j * 7 + n) 0 = 0) {x y : Int32} {d : Nat} (hd : 0 ≤ d) : ∀ (q k : Nat) (b1 : Nat → List Int32) (σ : ZS) (hR : RM σ0 σ a tw b1) (hB : Fb 6 b b1) (h6 : b1 6 = D.map nI), k + q = 7 → X M_X8_guest d 0 0 (fun r9 σ' => r9 = some (.int (nI n)) ∧ ∃ b' : Nat → List Int32, RM σ0 σ' (up a 13 (nI (n + 1))) tw b' ∧ (∀ j, b' j = b j)) 0 0 71 [some (.ref 1000), some (.int x), some (.int y), some (.int (nI k))] [] σ := by
  intro q
  induction q with
  | zero =>
    intro k b1 σ hR hB h6 hk
    refine x_iload_n dX8_guest_71 rfl ?_
    refine x_bipush (v := nI 7) dX8_guest_72 (by decide) ?_
    refine x_icmpN_ge (tgt := 113) dX8_guest_74 (by decide) (by omega) (by omega) (fun hv1 => ?_) (fun hv1 => ?_)
    · refine x_aload_n dX8_guest_113 rfl ?_
      refine x_dup dX8_guest_114 rfl ?_
      refine x_rget (v := .int (nI n)) f_X8_82 hR (rg c13) dX8_guest_115 ?_
      refine x_iconst (v := nI 1) dX8_guest_118 (by decide) ?_
      refine x_iaddN dX8_guest_119 ?_
      refine x_rput (up a 13 (nI (n + 1))) tw f_X8_82 hR (by decide) rfl (fun c => ⟨rfl, rfl⟩) dX8_guest_120 (fun sw2 Rw2 => ?_)
      refine x_aload_n dX8_guest_123 rfl ?_
      refine x_rget (v := .int (nI (n + 1))) f_X8_82 Rw2 (rg rfl) dX8_guest_124 ?_
      refine x_iconst (v := nI 1) dX8_guest_127 (by decide) ?_
      refine x_isubN (by omega) dX8_guest_128 ?_
      exact x_iret ⟨Nat.le_refl _, Nat.le_refl _⟩ rfl dX8_guest_129 ⟨rfl, b1, Rw2, fun j => by
  by_cases e : j = 6
  · rw [e, h6, hb6]
  · exact hB j e⟩
    · exact absurd hv1 (by omega)
  | succ q ih =>
    intro k b1 σ hR hB h6 hk
    refine x_iload_n dX8_guest_71 rfl ?_
    refine x_bipush (v := nI 7) dX8_guest_72 (by decide) ?_
    refine x_icmpN_ge (tgt := 113) dX8_guest_74 (by decide) (by omega) (by omega) (fun hv1 => ?_) (fun hv1 => ?_)
    · exact absurd hv1 (by omega)
    · refine x_aload_n dX8_guest_77 rfl ?_
      refine x_rget f_X8_35 hR rfl dX8_guest_78 ?_
      refine x_bipush (v := nI 7) dX8_guest_81 (by decide) ?_
      refine x_aload_n dX8_guest_83 rfl ?_
      refine x_rget (v := .int (nI n)) f_X8_82 hR (rg c13) dX8_guest_84 ?_
      refine x_imulN dX8_guest_87 ?_
      refine x_topi (y := nI (n * 7)) (by rw [Nat.mul_comm]) ?_
      refine x_iload_n dX8_guest_88 rfl ?_
      refine x_iaddN dX8_guest_89 ?_
      refine x_iconst (v := nI 0) dX8_guest_90 (by decide) ?_
      refine x_rast (j := 6) (n := (n * 7) + k) hR rfl (by decide) rfl rfl (rlt hR (m := 49) (by decide) rfl (by omega)) dX8_guest_91 (fun sw2 Rw2 => ?_)
      refine x_aload_n dX8_guest_92 rfl ?_
      refine x_rget f_X8_35 Rw2 rfl dX8_guest_93 ?_
      refine x_bipush (v := nI 7) dX8_guest_96 (by decide) ?_
      refine x_iload_n dX8_guest_98 rfl ?_
      refine x_imulN dX8_guest_99 ?_
      refine x_topi (y := nI (k * 7)) (by rw [Nat.mul_comm]) ?_
      refine x_aload_n dX8_guest_100 rfl ?_
      refine x_rget (v := .int (nI n)) f_X8_82 Rw2 (rg c13) dX8_guest_101 ?_
      refine x_iaddN dX8_guest_104 ?_
      refine x_iconst (v := nI 0) dX8_guest_105 (by decide) ?_
      refine x_rast (j := 6) (n := (k * 7) + n) Rw2 rfl (by decide) rfl rfl (rlt Rw2 (m := 49) (by decide) rfl (by omega)) dX8_guest_106 (fun sw3 Rw3 => ?_)
      refine x_iincN dX8_guest_107 rfl (by decide) rfl ?_
      refine x_lv (lv' := [some (.ref 1000), some (.int x), some (.int y), some (.int (nI (k + 1)))]) rfl ?_
      refine x_goto (tgt := 71) dX8_guest_110 (by decide) ?_
      exact ih (k + 1) (up (up b1 6 ((b1 6).set ((n * 7) + k) (nI 0))) 6 (((up b1 6 ((b1 6).set ((n * 7) + k) (nI 0))) 6).set ((k * 7) + n) (nI 0))) sw3 Rw3 (hB.tr (Fb.ups.tr Fb.ups)) (by rw [up_eq, up_eq, h6, gm_set, gm_set, set_same (by omega) (hz k (by omega)).1, set_same (by omega) (hz k (by omega)).2]) (by omega)
set_option maxHeartbeats 4000000 in
theorem r_guest {σ0 σ : ZS} {a : Nat → Int32} {tw : Int64} {b : Nat → List Int32} {rr n : Nat} {K N : List Nat} {W : List Int32} {D : List Nat} (hR : RM σ0 σ a tw b) (hC : RC a b rr n K N W D (-1)) {kd nu : Nat} (hkd : kd ≤ 5) (hnu : nu ≤ 9) (hn : n < 7) (hz : ∀ j, j < 7 → D.getD (n * 7 + j) 0 = 0 ∧ D.getD (j * 7 + n) 0 = 0) : Cn 2 M_X8_guest 0 0 [.ref 1000, .int (nI kd), .int (nI nu)] σ (fun r9 σ' => r9 = some (.int (nI n)) ∧ ∃ b' : Nat → List Int32, RM σ0 σ' (up a 13 (nI (n + 1))) tw b' ∧ (∀ j, b' j = up (up (up b 3 ((b 3).set n (nI kd))) 4 (((up b 3 ((b 3).set n (nI kd))) 4).set n (nI nu))) 5 (((up (up b 3 ((b 3).set n (nI kd))) 4 (((up b 3 ((b 3).set n (nI kd))) 4).set n (nI nu))) 5).set n (-1)) j)) := by
  obtain ⟨c7, hrr, c13, hn7, c14, cK, cN, cW, cD, hN7, hW7, hD49, hK5, hN9, hD999⟩ := id hC
  refine Cn.intro (lv0 := [some (.ref 1000), some (.int (nI kd)), some (.int (nI nu)), none]) rfl (Nat.le_of_ble_eq_true rfl) rfl (fun d hd => ?_)
  refine x_iload_n dX8_guest_0 rfl ?_
  refine x_i2l dX8_guest_1 ?_
  refine x_lconst (v := 0) dX8_guest_2 (by decide) ?_
  refine x_ldc2 (v := (5)) cl_X8_114 dX8_guest_3 ?_
  refine x_callS m_X8_in l_X8_85 (r_in (p := ((kd : Nat) : Int)) (q := 0) (r := (5)) (tL (nI_toInt (by omega))) (by decide) (by decide)) (by omega) rfl rfl (Nat.le_of_ble_eq_true rfl) ⟨Nat.le_refl _, Nat.le_refl _⟩ dX8_guest_6 (fun r1 s1 q1 => ?_)
  obtain ⟨rfl, eq1⟩ := q1
  obtain rfl := eq1.symm
  refine x_stk (st' := [.int (bI (decide (0 ≤ ((kd : Nat) : Int) ∧ ((kd : Nat) : Int) ≤ (5))))]) rfl ?_
  refine x_ifP_eq (P := 0 ≤ ((kd : Nat) : Int) ∧ ((kd : Nat) : Int) ≤ (5)) inferInstance (tgt := 24) dX8_guest_9 (by decide) (fun hv2 => ?_) (fun hv2 => ?_)
  · exact absurd (by omega) hv2
  · refine x_iload_n dX8_guest_12 rfl ?_
    refine x_i2l dX8_guest_13 ?_
    refine x_lconst (v := 0) dX8_guest_14 (by decide) ?_
    refine x_ldc2 (v := (9)) cl_X8_95 dX8_guest_15 ?_
    refine x_callS m_X8_in l_X8_85 (r_in (p := ((nu : Nat) : Int)) (q := 0) (r := (9)) (tL (nI_toInt (by omega))) (by decide) (by decide)) (by omega) rfl rfl (Nat.le_of_ble_eq_true rfl) ⟨Nat.le_refl _, Nat.le_refl _⟩ dX8_guest_18 (fun r3 s3 q3 => ?_)
    obtain ⟨rfl, eq3⟩ := q3
    obtain rfl := eq3.symm
    refine x_stk (st' := [.int (bI (decide (0 ≤ ((nu : Nat) : Int) ∧ ((nu : Nat) : Int) ≤ (9))))]) rfl ?_
    refine x_ifP_ne (P := 0 ≤ ((nu : Nat) : Int) ∧ ((nu : Nat) : Int) ≤ (9)) inferInstance (tgt := 27) dX8_guest_21 (by decide) (fun hv4 => ?_) (fun hv4 => ?_)
    · refine x_aload_n dX8_guest_27 rfl ?_
      refine x_rget (v := .int (nI n)) f_X8_82 hR (rg c13) dX8_guest_28 ?_
      refine x_bipush (v := nI 7) dX8_guest_31 (by decide) ?_
      refine x_icmpN_ne (tgt := 39) dX8_guest_33 (by decide) (by omega) (by omega) (fun hv5 => ?_) (fun hv5 => ?_)
      · refine x_aload_n dX8_guest_39 rfl ?_
        refine x_rget f_X8_26 hR rfl dX8_guest_40 ?_
        refine x_aload_n dX8_guest_43 rfl ?_
        refine x_rget (v := .int (nI n)) f_X8_82 hR (rg c13) dX8_guest_44 ?_
        refine x_iload_n dX8_guest_47 rfl ?_
        refine x_rast (j := 3) (n := n) hR rfl (by decide) rfl rfl (rlt hR (m := 7) (by decide) rfl (by omega)) dX8_guest_48 (fun sw6 Rw6 => ?_)
        refine x_aload_n dX8_guest_49 rfl ?_
        refine x_rget f_X8_29 Rw6 rfl dX8_guest_50 ?_
        refine x_aload_n dX8_guest_53 rfl ?_
        refine x_rget (v := .int (nI n)) f_X8_82 Rw6 (rg c13) dX8_guest_54 ?_
        refine x_iload_n dX8_guest_57 rfl ?_
        refine x_rast (j := 4) (n := n) Rw6 rfl (by decide) rfl rfl (rlt Rw6 (m := 7) (by decide) rfl (by omega)) dX8_guest_58 (fun sw7 Rw7 => ?_)
        refine x_aload_n dX8_guest_59 rfl ?_
        refine x_rget f_X8_32 Rw7 rfl dX8_guest_60 ?_
        refine x_aload_n dX8_guest_63 rfl ?_
        refine x_rget (v := .int (nI n)) f_X8_82 Rw7 (rg c13) dX8_guest_64 ?_
        refine x_iconst (v := (-1)) dX8_guest_67 (by decide) ?_
        refine x_rast (j := 5) (n := n) Rw7 rfl (by decide) rfl rfl (rlt Rw7 (m := 7) (by decide) rfl (by omega)) dX8_guest_68 (fun sw8 Rw8 => ?_)
        refine x_iconst (v := nI 0) dX8_guest_69 (by decide) ?_
        refine x_istore_n dX8_guest_70 (by decide) rfl ?_
        refine x_lv (lv' := [some (.ref 1000), some (.int (nI kd)), some (.int (nI nu)), some (.int (nI 0))]) rfl ?_
        refine x_lv (lv' := [some (.ref 1000), some (.int (nI kd)), some (.int (nI nu)), some (.int (nI 0))]) rfl ?_
        refine (fun hX => ?_) (lr_guest (x := nI kd) (y := nI nu) (b := (up (up (up b 3 ((b 3).set n (nI kd))) 4 (((up b 3 ((b 3).set n (nI kd))) 4).set n (nI nu))) 5 (((up (up b 3 ((b 3).set n (nI kd))) 4 (((up b 3 ((b 3).set n (nI kd))) 4).set n (nI nu))) 5).set n ((-1))))) (n := n) (D := D) (σ0 := σ0) (a := a) (tw := tw) c13 hn cD hD49 hz (Nat.le_trans (by decide) hd) 7 0 (up (up (up b 3 ((b 3).set n (nI kd))) 4 (((up b 3 ((b 3).set n (nI kd))) 4).set n (nI nu))) 5 (((up (up b 3 ((b 3).set n (nI kd))) 4 (((up b 3 ((b 3).set n (nI kd))) 4).set n (nI nu))) 5).set n ((-1)))) sw8 Rw8 Fb.rf cD (by omega))
        exact hX
      · exact absurd hv5 (by omega)
    · exact absurd (by omega) hv4
set_option maxHeartbeats 4000000 in
theorem r_guest_f {σ0 σ : ZS} {a : Nat → Int32} {tw : Int64} {b : Nat → List Int32} {rr n : Nat} {K N : List Nat} {W : List Int32} {D : List Nat} (hR : RM σ0 σ a tw b) (hC : RC a b rr n K N W D (-1)) {x y : Int32} (hx : 0 ≤ x.toInt ∧ x.toInt ≤ 5) (hy : 0 ≤ y.toInt ∧ y.toInt ≤ 9) (hn : n = 7) : Cn 2 M_X8_guest 0 0 [.ref 1000, .int x, .int y] σ (fun r9 σ' => r9 = some (.int (-4)) ∧ σ' = σ) := by
  obtain ⟨c7, hrr, c13, hn7, c14, cK, cN, cW, cD, hN7, hW7, hD49, hK5, hN9, hD999⟩ := id hC
  refine Cn.intro (lv0 := [some (.ref 1000), some (.int x), some (.int y), none]) rfl (Nat.le_of_ble_eq_true rfl) rfl (fun d hd => ?_)
  refine x_iload_n dX8_guest_0 rfl ?_
  refine x_i2l dX8_guest_1 ?_
  refine x_lconst (v := 0) dX8_guest_2 (by decide) ?_
  refine x_ldc2 (v := (5)) cl_X8_114 dX8_guest_3 ?_
  refine x_callS m_X8_in l_X8_85 (r_in (p := x.toInt) (q := 0) (r := (5)) (tL rfl) (by decide) (by decide)) (by omega) rfl rfl (Nat.le_of_ble_eq_true rfl) ⟨Nat.le_refl _, Nat.le_refl _⟩ dX8_guest_6 (fun r1 s1 q1 => ?_)
  obtain ⟨rfl, eq1⟩ := q1
  obtain rfl := eq1.symm
  refine x_stk (st' := [.int (bI (decide (0 ≤ x.toInt ∧ x.toInt ≤ (5))))]) rfl ?_
  refine x_ifP_eq (P := 0 ≤ x.toInt ∧ x.toInt ≤ (5)) inferInstance (tgt := 24) dX8_guest_9 (by decide) (fun hv2 => ?_) (fun hv2 => ?_)
  · exact absurd hx hv2
  · refine x_iload_n dX8_guest_12 rfl ?_
    refine x_i2l dX8_guest_13 ?_
    refine x_lconst (v := 0) dX8_guest_14 (by decide) ?_
    refine x_ldc2 (v := (9)) cl_X8_95 dX8_guest_15 ?_
    refine x_callS m_X8_in l_X8_85 (r_in (p := y.toInt) (q := 0) (r := (9)) (tL rfl) (by decide) (by decide)) (by omega) rfl rfl (Nat.le_of_ble_eq_true rfl) ⟨Nat.le_refl _, Nat.le_refl _⟩ dX8_guest_18 (fun r3 s3 q3 => ?_)
    obtain ⟨rfl, eq3⟩ := q3
    obtain rfl := eq3.symm
    refine x_stk (st' := [.int (bI (decide (0 ≤ y.toInt ∧ y.toInt ≤ (9))))]) rfl ?_
    refine x_ifP_ne (P := 0 ≤ y.toInt ∧ y.toInt ≤ (9)) inferInstance (tgt := 27) dX8_guest_21 (by decide) (fun hv4 => ?_) (fun hv4 => ?_)
    · refine x_aload_n dX8_guest_27 rfl ?_
      refine x_rget (v := .int (nI n)) f_X8_82 hR (rg c13) dX8_guest_28 ?_
      refine x_bipush (v := nI 7) dX8_guest_31 (by decide) ?_
      refine x_icmpN_ne (tgt := 39) dX8_guest_33 (by decide) (by omega) (by omega) (fun hv5 => ?_) (fun hv5 => ?_)
      · exact absurd hn hv5
      · refine x_bipush (v := (-4)) dX8_guest_36 (by decide) ?_
        exact x_iret ⟨Nat.le_refl _, Nat.le_refl _⟩ rfl dX8_guest_38 ⟨rfl, rfl⟩
    · exact absurd hy hv4
set_option maxHeartbeats 4000000 in
theorem r_guest_b {σ0 σ : ZS} {a : Nat → Int32} {tw : Int64} {b : Nat → List Int32} {rr n : Nat} {K N : List Nat} {W : List Int32} {D : List Nat} (hR : RM σ0 σ a tw b) (hC : RC a b rr n K N W D (-1)) {x y : Int32} (hb : ¬ (0 ≤ x.toInt ∧ x.toInt ≤ 5) ∨ ¬ (0 ≤ y.toInt ∧ y.toInt ≤ 9)) : Cn 2 M_X8_guest 0 0 [.ref 1000, .int x, .int y] σ (fun r9 σ' => r9 = some (.int (-2)) ∧ σ' = σ) := by
  obtain ⟨c7, hrr, c13, hn7, c14, cK, cN, cW, cD, hN7, hW7, hD49, hK5, hN9, hD999⟩ := id hC
  refine Cn.intro (lv0 := [some (.ref 1000), some (.int x), some (.int y), none]) rfl (Nat.le_of_ble_eq_true rfl) rfl (fun d hd => ?_)
  refine x_iload_n dX8_guest_0 rfl ?_
  refine x_i2l dX8_guest_1 ?_
  refine x_lconst (v := 0) dX8_guest_2 (by decide) ?_
  refine x_ldc2 (v := (5)) cl_X8_114 dX8_guest_3 ?_
  refine x_callS m_X8_in l_X8_85 (r_in (p := x.toInt) (q := 0) (r := (5)) (tL rfl) (by decide) (by decide)) (by omega) rfl rfl (Nat.le_of_ble_eq_true rfl) ⟨Nat.le_refl _, Nat.le_refl _⟩ dX8_guest_6 (fun r1 s1 q1 => ?_)
  obtain ⟨rfl, eq1⟩ := q1
  obtain rfl := eq1.symm
  refine x_stk (st' := [.int (bI (decide (0 ≤ x.toInt ∧ x.toInt ≤ (5))))]) rfl ?_
  refine x_ifP_eq (P := 0 ≤ x.toInt ∧ x.toInt ≤ (5)) inferInstance (tgt := 24) dX8_guest_9 (by decide) (fun hv2 => ?_) (fun hv2 => ?_)
  · refine x_bipush (v := (-2)) dX8_guest_24 (by decide) ?_
    exact x_iret ⟨Nat.le_refl _, Nat.le_refl _⟩ rfl dX8_guest_26 ⟨rfl, rfl⟩
  · refine x_iload_n dX8_guest_12 rfl ?_
    refine x_i2l dX8_guest_13 ?_
    refine x_lconst (v := 0) dX8_guest_14 (by decide) ?_
    refine x_ldc2 (v := (9)) cl_X8_95 dX8_guest_15 ?_
    refine x_callS m_X8_in l_X8_85 (r_in (p := y.toInt) (q := 0) (r := (9)) (tL rfl) (by decide) (by decide)) (by omega) rfl rfl (Nat.le_of_ble_eq_true rfl) ⟨Nat.le_refl _, Nat.le_refl _⟩ dX8_guest_18 (fun r3 s3 q3 => ?_)
    obtain ⟨rfl, eq3⟩ := q3
    obtain rfl := eq3.symm
    refine x_stk (st' := [.int (bI (decide (0 ≤ y.toInt ∧ y.toInt ≤ (9))))]) rfl ?_
    refine x_ifP_ne (P := 0 ≤ y.toInt ∧ y.toInt ≤ (9)) inferInstance (tgt := 27) dX8_guest_21 (by decide) (fun hv4 => ?_) (fun hv4 => ?_)
    · exfalso; omega
    · refine x_bipush (v := (-2)) dX8_guest_24 (by decide) ?_
      exact x_iret ⟨Nat.le_refl _, Nat.le_refl _⟩ rfl dX8_guest_26 ⟨rfl, rfl⟩
set_option maxHeartbeats 4000000 in
theorem lr_image1 {Q : Option Value → ZS → Prop} {σ0 : ZS} {a : Nat → Int32} {tw : Int64} {b0 : Nat → List Int32} {d : Nat} (hd : 0 ≤ d) (hout : ∀ (b : Nat → List Int32) (σ : ZS), RM σ0 σ a tw b → (∀ j, j ≠ 10 → j ≠ 11 → b j = b0 j) → b 10 = b0 4 → b 11 = b0 5 → X M_X8_image d 0 0 Q 0 0 38 [some (.ref 1000), some (.int (nI 7))] [] σ) : ∀ (q k : Nat) (b : Nat → List Int32) (σ : ZS) (hR : RM σ0 σ a tw b) (hB : ∀ j, j ≠ 10 → j ≠ 11 → b j = b0 j) (hc10 : Cp k (b 10) (b0 4)) (hc11 : Cp k (b 11) (b0 5)), k + q = 7 → X M_X8_image d 0 0 (Q) 0 0 2 [some (.ref 1000), some (.int (nI k))] [] σ := by
  intro q
  induction q with
  | zero =>
    intro k b σ hR hB hc10 hc11 hk
    refine x_iload_n dX8_image_2 rfl ?_
    refine x_bipush (v := nI 7) dX8_image_3 (by decide) ?_
    refine x_icmpN_ge (tgt := 38) dX8_image_5 (by decide) (by omega) (by omega) (fun hv1 => ?_) (fun hv1 => ?_)
    · obtain rfl : k = 7 := by omega
      exact hout b σ hR hB (hc10.all ((hR.rlen (j := 10) (by decide) (m := 7) rfl).trans (by omega)) (by rw [← hB 4 (by decide) (by decide)]; exact (hR.rlen (j := 4) (by decide) (m := 7) rfl).trans (by omega))) (hc11.all ((hR.rlen (j := 11) (by decide) (m := 7) rfl).trans (by omega)) (by rw [← hB 5 (by decide) (by decide)]; exact (hR.rlen (j := 5) (by decide) (m := 7) rfl).trans (by omega)))
    · exact absurd hv1 (by omega)
  | succ q ih =>
    intro k b σ hR hB hc10 hc11 hk
    refine x_iload_n dX8_image_2 rfl ?_
    refine x_bipush (v := nI 7) dX8_image_3 (by decide) ?_
    refine x_icmpN_ge (tgt := 38) dX8_image_5 (by decide) (by omega) (by omega) (fun hv1 => ?_) (fun hv1 => ?_)
    · exact absurd hv1 (by omega)
    · refine x_aload_n dX8_image_8 rfl ?_
      refine x_rget f_X8_50 hR rfl dX8_image_9 ?_
      refine x_iload_n dX8_image_12 rfl ?_
      refine x_aload_n dX8_image_13 rfl ?_
      refine x_rget f_X8_29 hR rfl dX8_image_14 ?_
      refine x_iload_n dX8_image_17 rfl ?_
      refine x_rald (j := 4) (n := k) hR rfl (by decide) rfl rfl (rlt hR (m := 7) (by decide) rfl (by omega)) dX8_image_18 ?_
      refine x_rast (j := 10) (n := k) hR rfl (by decide) rfl rfl (rlt hR (m := 7) (by decide) rfl (by omega)) dX8_image_19 (fun sw2 Rw2 => ?_)
      refine x_aload_n dX8_image_20 rfl ?_
      refine x_rget f_X8_53 Rw2 rfl dX8_image_21 ?_
      refine x_iload_n dX8_image_24 rfl ?_
      refine x_aload_n dX8_image_25 rfl ?_
      refine x_rget f_X8_32 Rw2 rfl dX8_image_26 ?_
      refine x_iload_n dX8_image_29 rfl ?_
      refine x_rald (j := 5) (n := k) Rw2 rfl (by decide) rfl rfl (rlt Rw2 (m := 7) (by decide) rfl (by omega)) dX8_image_30 ?_
      refine x_rast (j := 11) (n := k) Rw2 rfl (by decide) rfl rfl (rlt Rw2 (m := 7) (by decide) rfl (by omega)) dX8_image_31 (fun sw3 Rw3 => ?_)
      refine x_iincN dX8_image_32 rfl (by decide) rfl ?_
      refine x_lv (lv' := [some (.ref 1000), some (.int (nI (k + 1)))]) rfl ?_
      refine x_goto (tgt := 2) dX8_image_35 (by decide) ?_
      exact ih (k + 1) (up (up b 10 ((b 10).set k (((b 4).getD k 0)))) 11 (((up b 10 ((b 10).set k (((b 4).getD k 0)))) 11).set k ((((up b 10 ((b 10).set k (((b 4).getD k 0)))) 5).getD k 0)))) sw3 Rw3 (fun j h10 h11 => (up_ne _ _ h11).trans ((up_ne _ _ h10).trans (hB j h10 h11))) (by have z := hc10.s (l' := b0 4) (rlt hR (j := 10) (m := 7) (by decide) rfl (by omega)); rw [← hB 4 (by decide) (by decide)] at z ⊢; exact z) (by have z := hc11.s (l' := b0 5) (rlt hR (j := 11) (m := 7) (by decide) rfl (by omega)); rw [← hB 5 (by decide) (by decide)] at z ⊢; exact z) (by omega)
set_option maxHeartbeats 4000000 in
theorem lr_image2 {Q : Option Value → ZS → Prop} {σ0 : ZS} {a : Nat → Int32} {tw : Int64} {b0 : Nat → List Int32} {d : Nat} (hd : 0 ≤ d) (hout : ∀ (b : Nat → List Int32) (σ : ZS), RM σ0 σ a tw b → (∀ j, j ≠ 12 → b j = b0 j) → b 12 = b0 6 → X M_X8_image d 0 0 Q 0 0 64 [some (.ref 1000), some (.int (nI 49))] [] σ) : ∀ (q k : Nat) (b : Nat → List Int32) (σ : ZS) (hR : RM σ0 σ a tw b) (hB : ∀ j, j ≠ 12 → b j = b0 j) (hc12 : Cp k (b 12) (b0 6)), k + q = 49 → X M_X8_image d 0 0 (Q) 0 0 40 [some (.ref 1000), some (.int (nI k))] [] σ := by
  intro q
  induction q with
  | zero =>
    intro k b σ hR hB hc12 hk
    refine x_iload_n dX8_image_40 rfl ?_
    refine x_bipush (v := nI 49) dX8_image_41 (by decide) ?_
    refine x_icmpN_ge (tgt := 64) dX8_image_43 (by decide) (by omega) (by omega) (fun hv1 => ?_) (fun hv1 => ?_)
    · obtain rfl : k = 49 := by omega
      exact hout b σ hR hB (hc12.all ((hR.rlen (j := 12) (by decide) (m := 49) rfl).trans (by omega)) (by rw [← hB 6 (by decide)]; exact (hR.rlen (j := 6) (by decide) (m := 49) rfl).trans (by omega)))
    · exact absurd hv1 (by omega)
  | succ q ih =>
    intro k b σ hR hB hc12 hk
    refine x_iload_n dX8_image_40 rfl ?_
    refine x_bipush (v := nI 49) dX8_image_41 (by decide) ?_
    refine x_icmpN_ge (tgt := 64) dX8_image_43 (by decide) (by omega) (by omega) (fun hv1 => ?_) (fun hv1 => ?_)
    · exact absurd hv1 (by omega)
    · refine x_aload_n dX8_image_46 rfl ?_
      refine x_rget f_X8_56 hR rfl dX8_image_47 ?_
      refine x_iload_n dX8_image_50 rfl ?_
      refine x_aload_n dX8_image_51 rfl ?_
      refine x_rget f_X8_35 hR rfl dX8_image_52 ?_
      refine x_iload_n dX8_image_55 rfl ?_
      refine x_rald (j := 6) (n := k) hR rfl (by decide) rfl rfl (rlt hR (m := 49) (by decide) rfl (by omega)) dX8_image_56 ?_
      refine x_rast (j := 12) (n := k) hR rfl (by decide) rfl rfl (rlt hR (m := 49) (by decide) rfl (by omega)) dX8_image_57 (fun sw2 Rw2 => ?_)
      refine x_iincN dX8_image_58 rfl (by decide) rfl ?_
      refine x_lv (lv' := [some (.ref 1000), some (.int (nI (k + 1)))]) rfl ?_
      refine x_goto (tgt := 40) dX8_image_61 (by decide) ?_
      exact ih (k + 1) (up b 12 ((b 12).set k (((b 6).getD k 0)))) sw2 Rw2 (fun j h12 => (up_ne _ _ h12).trans (hB j h12)) (by have z := hc12.s (l' := b0 6) (rlt hR (j := 12) (m := 49) (by decide) rfl (by omega)); rw [← hB 6 (by decide)] at z ⊢; exact z) (by omega)
set_option maxHeartbeats 4000000 in
theorem lr_back1 {Q : Option Value → ZS → Prop} {σ0 : ZS} {a : Nat → Int32} {tw : Int64} {b0 : Nat → List Int32} {d : Nat} (hd : 0 ≤ d) (hout : ∀ (b : Nat → List Int32) (σ : ZS), RM σ0 σ a tw b → (∀ j, j ≠ 4 → j ≠ 5 → b j = b0 j) → b 4 = b0 10 → b 5 = b0 11 → X M_X8_back d 0 0 Q 0 0 49 [some (.ref 1000), some (.int (nI 7))] [] σ) : ∀ (q k : Nat) (b : Nat → List Int32) (σ : ZS) (hR : RM σ0 σ a tw b) (hB : ∀ j, j ≠ 4 → j ≠ 5 → b j = b0 j) (hc4 : Cp k (b 4) (b0 10)) (hc5 : Cp k (b 5) (b0 11)), k + q = 7 → X M_X8_back d 0 0 (Q) 0 0 13 [some (.ref 1000), some (.int (nI k))] [] σ := by
  intro q
  induction q with
  | zero =>
    intro k b σ hR hB hc4 hc5 hk
    refine x_iload_n dX8_back_13 rfl ?_
    refine x_bipush (v := nI 7) dX8_back_14 (by decide) ?_
    refine x_icmpN_ge (tgt := 49) dX8_back_16 (by decide) (by omega) (by omega) (fun hv1 => ?_) (fun hv1 => ?_)
    · obtain rfl : k = 7 := by omega
      exact hout b σ hR hB (hc4.all ((hR.rlen (j := 4) (by decide) (m := 7) rfl).trans (by omega)) (by rw [← hB 10 (by decide) (by decide)]; exact (hR.rlen (j := 10) (by decide) (m := 7) rfl).trans (by omega))) (hc5.all ((hR.rlen (j := 5) (by decide) (m := 7) rfl).trans (by omega)) (by rw [← hB 11 (by decide) (by decide)]; exact (hR.rlen (j := 11) (by decide) (m := 7) rfl).trans (by omega)))
    · exact absurd hv1 (by omega)
  | succ q ih =>
    intro k b σ hR hB hc4 hc5 hk
    refine x_iload_n dX8_back_13 rfl ?_
    refine x_bipush (v := nI 7) dX8_back_14 (by decide) ?_
    refine x_icmpN_ge (tgt := 49) dX8_back_16 (by decide) (by omega) (by omega) (fun hv1 => ?_) (fun hv1 => ?_)
    · exact absurd hv1 (by omega)
    · refine x_aload_n dX8_back_19 rfl ?_
      refine x_rget f_X8_29 hR rfl dX8_back_20 ?_
      refine x_iload_n dX8_back_23 rfl ?_
      refine x_aload_n dX8_back_24 rfl ?_
      refine x_rget f_X8_50 hR rfl dX8_back_25 ?_
      refine x_iload_n dX8_back_28 rfl ?_
      refine x_rald (j := 10) (n := k) hR rfl (by decide) rfl rfl (rlt hR (m := 7) (by decide) rfl (by omega)) dX8_back_29 ?_
      refine x_rast (j := 4) (n := k) hR rfl (by decide) rfl rfl (rlt hR (m := 7) (by decide) rfl (by omega)) dX8_back_30 (fun sw2 Rw2 => ?_)
      refine x_aload_n dX8_back_31 rfl ?_
      refine x_rget f_X8_32 Rw2 rfl dX8_back_32 ?_
      refine x_iload_n dX8_back_35 rfl ?_
      refine x_aload_n dX8_back_36 rfl ?_
      refine x_rget f_X8_53 Rw2 rfl dX8_back_37 ?_
      refine x_iload_n dX8_back_40 rfl ?_
      refine x_rald (j := 11) (n := k) Rw2 rfl (by decide) rfl rfl (rlt Rw2 (m := 7) (by decide) rfl (by omega)) dX8_back_41 ?_
      refine x_rast (j := 5) (n := k) Rw2 rfl (by decide) rfl rfl (rlt Rw2 (m := 7) (by decide) rfl (by omega)) dX8_back_42 (fun sw3 Rw3 => ?_)
      refine x_iincN dX8_back_43 rfl (by decide) rfl ?_
      refine x_lv (lv' := [some (.ref 1000), some (.int (nI (k + 1)))]) rfl ?_
      refine x_goto (tgt := 13) dX8_back_46 (by decide) ?_
      exact ih (k + 1) (up (up b 4 ((b 4).set k (((b 10).getD k 0)))) 5 (((up b 4 ((b 4).set k (((b 10).getD k 0)))) 5).set k ((((up b 4 ((b 4).set k (((b 10).getD k 0)))) 11).getD k 0)))) sw3 Rw3 (fun j h4 h5 => (up_ne _ _ h5).trans ((up_ne _ _ h4).trans (hB j h4 h5))) (by have z := hc4.s (l' := b0 10) (rlt hR (j := 4) (m := 7) (by decide) rfl (by omega)); rw [← hB 10 (by decide) (by decide)] at z ⊢; exact z) (by have z := hc5.s (l' := b0 11) (rlt hR (j := 5) (m := 7) (by decide) rfl (by omega)); rw [← hB 11 (by decide) (by decide)] at z ⊢; exact z) (by omega)
set_option maxHeartbeats 4000000 in
theorem lr_back2 {Q : Option Value → ZS → Prop} {σ0 : ZS} {a : Nat → Int32} {tw : Int64} {b0 : Nat → List Int32} {d : Nat} (hd : 0 ≤ d) (hout : ∀ (b : Nat → List Int32) (σ : ZS), RM σ0 σ a tw b → (∀ j, j ≠ 6 → b j = b0 j) → b 6 = b0 12 → X M_X8_back d 0 0 Q 0 0 75 [some (.ref 1000), some (.int (nI 49))] [] σ) : ∀ (q k : Nat) (b : Nat → List Int32) (σ : ZS) (hR : RM σ0 σ a tw b) (hB : ∀ j, j ≠ 6 → b j = b0 j) (hc6 : Cp k (b 6) (b0 12)), k + q = 49 → X M_X8_back d 0 0 (Q) 0 0 51 [some (.ref 1000), some (.int (nI k))] [] σ := by
  intro q
  induction q with
  | zero =>
    intro k b σ hR hB hc6 hk
    refine x_iload_n dX8_back_51 rfl ?_
    refine x_bipush (v := nI 49) dX8_back_52 (by decide) ?_
    refine x_icmpN_ge (tgt := 75) dX8_back_54 (by decide) (by omega) (by omega) (fun hv1 => ?_) (fun hv1 => ?_)
    · obtain rfl : k = 49 := by omega
      exact hout b σ hR hB (hc6.all ((hR.rlen (j := 6) (by decide) (m := 49) rfl).trans (by omega)) (by rw [← hB 12 (by decide)]; exact (hR.rlen (j := 12) (by decide) (m := 49) rfl).trans (by omega)))
    · exact absurd hv1 (by omega)
  | succ q ih =>
    intro k b σ hR hB hc6 hk
    refine x_iload_n dX8_back_51 rfl ?_
    refine x_bipush (v := nI 49) dX8_back_52 (by decide) ?_
    refine x_icmpN_ge (tgt := 75) dX8_back_54 (by decide) (by omega) (by omega) (fun hv1 => ?_) (fun hv1 => ?_)
    · exact absurd hv1 (by omega)
    · refine x_aload_n dX8_back_57 rfl ?_
      refine x_rget f_X8_35 hR rfl dX8_back_58 ?_
      refine x_iload_n dX8_back_61 rfl ?_
      refine x_aload_n dX8_back_62 rfl ?_
      refine x_rget f_X8_56 hR rfl dX8_back_63 ?_
      refine x_iload_n dX8_back_66 rfl ?_
      refine x_rald (j := 12) (n := k) hR rfl (by decide) rfl rfl (rlt hR (m := 49) (by decide) rfl (by omega)) dX8_back_67 ?_
      refine x_rast (j := 6) (n := k) hR rfl (by decide) rfl rfl (rlt hR (m := 49) (by decide) rfl (by omega)) dX8_back_68 (fun sw2 Rw2 => ?_)
      refine x_iincN dX8_back_69 rfl (by decide) rfl ?_
      refine x_lv (lv' := [some (.ref 1000), some (.int (nI (k + 1)))]) rfl ?_
      refine x_goto (tgt := 51) dX8_back_72 (by decide) ?_
      exact ih (k + 1) (up b 6 ((b 6).set k (((b 12).getD k 0)))) sw2 Rw2 (fun j h6 => (up_ne _ _ h6).trans (hB j h6)) (by have z := hc6.s (l' := b0 12) (rlt hR (j := 6) (m := 49) (by decide) rfl (by omega)); rw [← hB 12 (by decide)] at z ⊢; exact z) (by omega)
set_option maxHeartbeats 4000000 in
theorem r_image {σ0 σ : ZS} {a : Nat → Int32} {tw : Int64} {b : Nat → List Int32} (hR : RM σ0 σ a tw b) {n rr dn ru : Nat} (c13 : a 13 = nI n) (c7 : a 7 = nI rr) (c8 : a 8 = nI dn) (c4 : a 4 = nI ru) : Cn 0 M_X8_image 0 0 [.ref 1000] σ (fun r9 σ' => r9 = some (.int (nI n)) ∧ ∃ b' : Nat → List Int32, RM σ0 σ' (up (up (up (up a 44 (nI n)) 45 (nI rr)) 46 (nI dn)) 47 (nI ru)) tw b' ∧ (∀ j, j ≠ 10 → j ≠ 11 → j ≠ 12 → b' j = b j) ∧ b' 10 = b 4 ∧ b' 11 = b 5 ∧ b' 12 = b 6) := by
  refine Cn.intro (lv0 := [some (.ref 1000), none]) rfl (Nat.le_of_ble_eq_true rfl) rfl (fun d hd => ?_)
  refine x_iconst (v := nI 0) dX8_image_0 (by decide) ?_
  refine x_istore_n dX8_image_1 (by decide) rfl ?_
  refine x_lv (lv' := [some (.ref 1000), some (.int (nI 0))]) rfl ?_
  refine lr_image1 (Nat.zero_le d) ?_ 7 0 b σ hR (fun _ _ _ => rfl) Cp.z Cp.z (by omega)
  intro b1 σ1 R1 hB1 e1 e2
  refine x_iconst (v := nI 0) dX8_image_38 (by decide) ?_
  refine x_istore_n dX8_image_39 (by decide) rfl ?_
  refine x_lv (lv' := [some (.ref 1000), some (.int (nI 0))]) rfl ?_
  refine lr_image2 (Nat.zero_le d) ?_ 49 0 b1 σ1 R1 (fun _ _ => rfl) Cp.z (by omega)
  intro b2 σ2 R2 hB2 e3
  refine x_aload_n dX8_image_64 rfl ?_
  refine x_aload_n dX8_image_65 rfl ?_
  refine x_rget (v := .int (nI n)) f_X8_82 R2 (rg c13) dX8_image_66 ?_
  refine x_rput (up a 44 (nI n)) tw f_X8_59 R2 (by decide) rfl (fun c => ⟨rfl, rfl⟩) dX8_image_69 (fun sw51 Rw51 => ?_)
  refine x_aload_n dX8_image_72 rfl ?_
  refine x_aload_n dX8_image_73 rfl ?_
  refine x_rget (v := .int (nI rr)) f_X8_23 Rw51 (rg c7) dX8_image_74 ?_
  refine x_rput (up (up a 44 (nI n)) 45 (nI rr)) tw f_X8_396 Rw51 (by decide) rfl (fun c => ⟨rfl, rfl⟩) dX8_image_77 (fun sw52 Rw52 => ?_)
  refine x_aload_n dX8_image_80 rfl ?_
  refine x_aload_n dX8_image_81 rfl ?_
  refine x_rget (v := .int (nI dn)) f_X8_111 Rw52 (rg c8) dX8_image_82 ?_
  refine x_rput (up (up (up a 44 (nI n)) 45 (nI rr)) 46 (nI dn)) tw f_X8_399 Rw52 (by decide) rfl (fun c => ⟨rfl, rfl⟩) dX8_image_85 (fun sw53 Rw53 => ?_)
  refine x_aload_n dX8_image_88 rfl ?_
  refine x_aload_n dX8_image_89 rfl ?_
  refine x_rget (v := .int (nI ru)) f_X8_252 Rw53 (rg c4) dX8_image_90 ?_
  refine x_rput (up (up (up (up a 44 (nI n)) 45 (nI rr)) 46 (nI dn)) 47 (nI ru)) tw f_X8_402 Rw53 (by decide) rfl (fun c => ⟨rfl, rfl⟩) dX8_image_93 (fun sw54 Rw54 => ?_)
  refine x_aload_n dX8_image_96 rfl ?_
  refine x_rget (v := .int (nI n)) f_X8_82 Rw54 (rg c13) dX8_image_97 ?_
  exact x_iret ⟨Nat.le_refl _, Nat.le_refl _⟩ rfl dX8_image_100 ⟨rfl, b2, Rw54, fun j h10 h11 h12 => (hB2 j h12).trans (hB1 j h10 h11), (hB2 10 (by decide)).trans e1, (hB2 11 (by decide)).trans e2, e3.trans (hB1 6 (by decide) (by decide))⟩
set_option maxHeartbeats 4000000 in
theorem r_back {σ0 σ : ZS} {a : Nat → Int32} {tw : Int64} {b : Nat → List Int32} (hR : RM σ0 σ a tw b) {n rr dn ru : Nat} (c44 : a 44 = nI n) (hn7 : n ≤ 7) (c45 : a 45 = nI rr) (c46 : a 46 = nI dn) (c47 : a 47 = nI ru) : Cn 0 M_X8_back 0 0 [.ref 1000] σ (fun r9 σ' => r9 = some (.int (nI n)) ∧ ∃ b' : Nat → List Int32, RM σ0 σ' (up (up (up (up a 13 (nI n)) 7 (nI rr)) 8 (nI dn)) 4 (nI ru)) tw b' ∧ (∀ j, j ≠ 4 → j ≠ 5 → j ≠ 6 → b' j = b j) ∧ b' 4 = b 10 ∧ b' 5 = b 11 ∧ b' 6 = b 12) := by
  refine Cn.intro (lv0 := [some (.ref 1000), none]) rfl (Nat.le_of_ble_eq_true rfl) rfl (fun d hd => ?_)
  refine x_aload_n dX8_back_0 rfl ?_
  refine x_rget (v := .int (nI n)) f_X8_59 hR (rg c44) dX8_back_1 ?_
  refine x_iconst (v := (-1)) dX8_back_4 (by decide) ?_
  refine x_icmpT_ne (p := ((n : Nat) : Int)) (q := (-1)) (tgt := 11) (nI_toInt (by omega)) (by decide) dX8_back_5 (by decide) (fun hv1 => ?_) (fun hv1 => ?_)
  · refine x_iconst (v := nI 0) dX8_back_11 (by decide) ?_
    refine x_istore_n dX8_back_12 (by decide) rfl ?_
    refine x_lv (lv' := [some (.ref 1000), some (.int (nI 0))]) rfl ?_
    refine lr_back1 (Nat.zero_le d) ?_ 7 0 b σ hR (fun _ _ _ => rfl) Cp.z Cp.z (by omega)
    intro b1 σ1 R1 hB1 e1 e2
    refine x_iconst (v := nI 0) dX8_back_49 (by decide) ?_
    refine x_istore_n dX8_back_50 (by decide) rfl ?_
    refine x_lv (lv' := [some (.ref 1000), some (.int (nI 0))]) rfl ?_
    refine lr_back2 (Nat.zero_le d) ?_ 49 0 b1 σ1 R1 (fun _ _ => rfl) Cp.z (by omega)
    intro b2 σ2 R2 hB2 e3
    refine x_aload_n dX8_back_75 rfl ?_
    refine x_aload_n dX8_back_76 rfl ?_
    refine x_rget (v := .int (nI n)) f_X8_59 R2 (rg c44) dX8_back_77 ?_
    refine x_rput (up a 13 (nI n)) tw f_X8_82 R2 (by decide) rfl (fun c => ⟨rfl, rfl⟩) dX8_back_80 (fun sw51 Rw51 => ?_)
    refine x_aload_n dX8_back_83 rfl ?_
    refine x_aload_n dX8_back_84 rfl ?_
    refine x_rget (v := .int (nI rr)) f_X8_396 Rw51 (rg c45) dX8_back_85 ?_
    refine x_rput (up (up a 13 (nI n)) 7 (nI rr)) tw f_X8_23 Rw51 (by decide) rfl (fun c => ⟨rfl, rfl⟩) dX8_back_88 (fun sw52 Rw52 => ?_)
    refine x_aload_n dX8_back_91 rfl ?_
    refine x_aload_n dX8_back_92 rfl ?_
    refine x_rget (v := .int (nI dn)) f_X8_399 Rw52 (rg c46) dX8_back_93 ?_
    refine x_rput (up (up (up a 13 (nI n)) 7 (nI rr)) 8 (nI dn)) tw f_X8_111 Rw52 (by decide) rfl (fun c => ⟨rfl, rfl⟩) dX8_back_96 (fun sw53 Rw53 => ?_)
    refine x_aload_n dX8_back_99 rfl ?_
    refine x_aload_n dX8_back_100 rfl ?_
    refine x_rget (v := .int (nI ru)) f_X8_402 Rw53 (rg c47) dX8_back_101 ?_
    refine x_rput (up (up (up (up a 13 (nI n)) 7 (nI rr)) 8 (nI dn)) 4 (nI ru)) tw f_X8_252 Rw53 (by decide) rfl (fun c => ⟨rfl, rfl⟩) dX8_back_104 (fun sw54 Rw54 => ?_)
    refine x_aload_n dX8_back_107 rfl ?_
    refine x_rget (v := .int (nI n)) f_X8_82 Rw54 (rg rfl) dX8_back_108 ?_
    exact x_iret ⟨Nat.le_refl _, Nat.le_refl _⟩ rfl dX8_back_111 ⟨rfl, b2, Rw54, fun j h10 h11 h12 => (hB2 j h12).trans (hB1 j h10 h11), (hB2 4 (by decide)).trans e1, (hB2 5 (by decide)).trans e2, e3.trans (hB1 12 (by decide) (by decide))⟩
  · exact absurd hv1 (by omega)
set_option maxHeartbeats 4000000 in
theorem r_back_b {σ0 σ : ZS} {a : Nat → Int32} {tw : Int64} {b : Nat → List Int32} (hR : RM σ0 σ a tw b) (c44 : a 44 = -1) : Cn 0 M_X8_back 0 0 [.ref 1000] σ (fun r9 σ' => r9 = some (.int (-3)) ∧ σ' = σ) := by
  refine Cn.intro (lv0 := [some (.ref 1000), none]) rfl (Nat.le_of_ble_eq_true rfl) rfl (fun d hd => ?_)
  refine x_aload_n dX8_back_0 rfl ?_
  refine x_rget (v := .int ((-1))) f_X8_59 hR (rg c44) dX8_back_1 ?_
  refine x_iconst (v := (-1)) dX8_back_4 (by decide) ?_
  refine x_icmpT_ne (p := (-1)) (q := (-1)) (tgt := 11) (by decide) (by decide) dX8_back_5 (by decide) (fun hv1 => ?_) (fun hv1 => ?_)
  · exact absurd rfl hv1
  · refine x_bipush (v := (-3)) dX8_back_8 (by decide) ?_
    exact x_iret ⟨Nat.le_refl _, Nat.le_refl _⟩ rfl dX8_back_10 ⟨rfl, rfl⟩
def ovS (k : Nat) : Int32 := if k = 0 then -1 else if k = 3 then nI 1 else if k = 4 then nI 2 else nI 0
set_option maxHeartbeats 4000000 in
theorem r_over {σ : ZS} {k : Nat} (hk : k ≤ 5) : Cn 0 M_X8_over 0 0 [.int (nI k)] σ (fun r9 σ' => r9 = some (.int (ovS k)) ∧ σ' = σ) := by
  refine Cn.intro (lv0 := [some (.int (nI k))]) rfl (Nat.le_of_ble_eq_true rfl) rfl (fun d hd => ?_)
  refine x_iload_n dX8_over_0 rfl ?_
  refine x_ifN_ne (tgt := 8) dX8_over_1 (by decide) (by omega) (fun hv1 => ?_) (fun hv1 => ?_)
  · refine x_iload_n dX8_over_8 rfl ?_
    refine x_iconst (v := nI 3) dX8_over_9 (by decide) ?_
    refine x_icmpN_ne (tgt := 17) dX8_over_10 (by decide) (by omega) (by omega) (fun hv2 => ?_) (fun hv2 => ?_)
    · refine x_iload_n dX8_over_17 rfl ?_
      refine x_iconst (v := nI 4) dX8_over_18 (by decide) ?_
      refine x_icmpN_ne (tgt := 26) dX8_over_19 (by decide) (by omega) (by omega) (fun hv3 => ?_) (fun hv3 => ?_)
      · refine x_iconst (v := nI 0) dX8_over_26 (by decide) ?_
        exact x_iret ⟨Nat.le_refl _, Nat.le_refl _⟩ rfl dX8_over_27 ⟨by rw [ovS, if_neg (by omega), if_neg (by omega), if_neg (by omega)], rfl⟩
      · refine x_iconst (v := nI 2) dX8_over_22 (by decide) ?_
        refine x_goto (tgt := 27) dX8_over_23 (by decide) ?_
        exact x_iret ⟨Nat.le_refl _, Nat.le_refl _⟩ rfl dX8_over_27 ⟨by rw [ovS, if_neg (by omega), if_neg (by omega), if_pos (by omega)], rfl⟩
    · refine x_iconst (v := nI 1) dX8_over_13 (by decide) ?_
      refine x_goto (tgt := 27) dX8_over_14 (by decide) ?_
      exact x_iret ⟨Nat.le_refl _, Nat.le_refl _⟩ rfl dX8_over_27 ⟨by rw [ovS, if_neg (by omega), if_pos (by omega)], rfl⟩
  · refine x_iconst (v := (-1)) dX8_over_4 (by decide) ?_
    refine x_goto (tgt := 27) dX8_over_5 (by decide) ?_
    exact x_iret ⟨Nat.le_refl _, Nat.le_refl _⟩ rfl dX8_over_27 ⟨by rw [ovS, if_pos (by omega)], rfl⟩
