/-! the reference's taken, copy, guests, film, runs, draws, texts -/
def undB (x k : Nat) : Bool := decide (x = k ∨ k = 0 ∨ (x = 3 ∧ k = 1) ∨ (x = 4 ∧ k = 2))
def takV (N : List Nat) (x k g : Nat) : Int32 := if undB x k = true then nI (N.getD g 0) else -13
set_option maxHeartbeats 4000000 in
theorem r_taken0 {σ0 σ : ZS} {a : Nat → Int32} {tw : Int64} {b : Nat → List Int32} {rr n : Nat} {K N : List Nat} {W : List Int32} {D : List Nat} (hR : RM σ0 σ a tw b) (hC : RC a b rr n K N W D (-1)) {g k : Nat} (hg : g < n) (hk : k ≤ 5) (hk9 : K.getD g 0 = 0) : Cn 3 M_X8_taken 0 0 [.ref 1000, .int (nI g), .int (nI k)] σ (fun r9 σ' => r9 = some (.int (takV N 0 k g)) ∧ σ' = σ) := by
  obtain ⟨c7, hrr, c13, hn7, c14, cK, cN, cW, cD, hN7, hW7, hD49, hK5, hN9, hD999⟩ := id hC
  refine Cn.intro (lv0 := [some (.ref 1000), some (.int (nI g)), some (.int (nI k)), none]) rfl (Nat.le_of_ble_eq_true rfl) rfl (fun d hd => ?_)
  refine x_iload_n dX8_taken_0 rfl ?_
  refine x_i2l dX8_taken_1 ?_
  refine x_lconst (v := 0) dX8_taken_2 (by decide) ?_
  refine x_ldc2 (v := (5)) cl_X8_114 dX8_taken_3 ?_
  refine x_callS m_X8_in l_X8_85 (r_in (p := ((k : Nat) : Int)) (q := 0) (r := (5)) (tL (nI_toInt (by omega))) (by decide) (by decide)) (by omega) rfl rfl (Nat.le_of_ble_eq_true rfl) ⟨Nat.le_refl _, Nat.le_refl _⟩ dX8_taken_6 (fun r1 s1 q1 => ?_)
  obtain ⟨rfl, eq1⟩ := q1
  obtain rfl := eq1.symm
  refine x_stk (st' := [.int (bI (decide (0 ≤ ((k : Nat) : Int) ∧ ((k : Nat) : Int) ≤ (5))))]) rfl ?_
  refine x_ifP_ne (P := 0 ≤ ((k : Nat) : Int) ∧ ((k : Nat) : Int) ≤ (5)) inferInstance (tgt := 15) dX8_taken_9 (by decide) (fun hv2 => ?_) (fun hv2 => ?_)
  · refine x_aload_n dX8_taken_15 rfl ?_
    refine x_iload_n dX8_taken_16 rfl ?_
    refine x_callV m_X8_isOne l_X8_89 (r_isOne hR hC (nI_toInt (by omega))) rfl hR.2.1 (by omega) rfl rfl (Nat.le_of_ble_eq_true rfl) ⟨Nat.le_refl _, Nat.le_refl _⟩ dX8_taken_17 (fun r3 s3 q3 => ?_)
    obtain ⟨rfl, eq3⟩ := q3
    obtain rfl := eq3.symm
    refine x_stk (st' := [.int (bI (decide (0 ≤ ((g : Nat) : Int) ∧ ((g : Nat) : Int) < ((n : Nat) : Int))))]) rfl ?_
    refine x_ifP_ne (P := 0 ≤ ((g : Nat) : Int) ∧ ((g : Nat) : Int) < ((n : Nat) : Int)) inferInstance (tgt := 26) dX8_taken_20 (by decide) (fun hv4 => ?_) (fun hv4 => ?_)
    · refine x_aload_n dX8_taken_26 rfl ?_
      refine x_rget f_X8_26 hR rfl dX8_taken_27 ?_
      refine x_iload_n dX8_taken_30 rfl ?_
      refine x_rald (j := 3) (n := g) hR rfl (by decide) rfl rfl (rlt hR (m := 7) (by decide) rfl (by omega)) dX8_taken_31 ?_
      refine x_topi (y := nI 0) ((cK _ (by omega)).trans (by rw [hk9])) ?_
      refine x_istore_n dX8_taken_32 (by decide) rfl ?_
      refine x_lv (lv' := [some (.ref 1000), some (.int (nI g)), some (.int (nI k)), some (.int (nI 0))]) rfl ?_
      refine x_iload_n dX8_taken_33 rfl ?_
      refine x_iconst (v := (-1)) dX8_taken_34 (by decide) ?_
      refine x_icmpT_eq (p := ((0 : Nat) : Int)) (q := (-1)) (tgt := 51) (nI_toInt (by omega)) (by decide) dX8_taken_35 (by decide) (fun hv5 => ?_) (fun hv5 => ?_)
      · exact absurd hv5 (by decide)
      · refine x_iload_n dX8_taken_38 rfl ?_
        refine x_iload_n dX8_taken_39 rfl ?_
        refine x_icmpN_eq (tgt := 51) dX8_taken_40 (by decide) (by omega) (by omega) (fun hv6 => ?_) (fun hv6 => ?_)
        · refine x_iload_n dX8_taken_51 rfl ?_
          refine x_iload_n dX8_taken_52 rfl ?_
          refine x_icmpN_ne (tgt := 65) dX8_taken_53 (by decide) (by omega) (by omega) (fun hv7 => ?_) (fun hv7 => ?_)
          · refine x_bipush (v := (-13)) dX8_taken_65 (by decide) ?_
            exact x_iret ⟨Nat.le_refl _, Nat.le_refl _⟩ rfl dX8_taken_67 ⟨by rw [takV, if_neg (by unfold undB; rw [decide_eq_true_iff]; omega)], rfl⟩
          · refine x_aload_n dX8_taken_56 rfl ?_
            refine x_rget f_X8_29 hR rfl dX8_taken_57 ?_
            refine x_iload_n dX8_taken_60 rfl ?_
            refine x_rald (j := 4) (n := g) hR rfl (by decide) rfl rfl (rlt hR (m := 7) (by decide) rfl (by omega)) dX8_taken_61 ?_
            refine x_topi (y := nI ((N.getD g 0))) (rgN cN) ?_
            refine x_goto (tgt := 67) dX8_taken_62 (by decide) ?_
            exact x_iret ⟨Nat.le_refl _, Nat.le_refl _⟩ rfl dX8_taken_67 ⟨by rw [takV, if_pos (by unfold undB; rw [decide_eq_true_iff]; omega)], rfl⟩
        · refine x_iload_n dX8_taken_43 rfl ?_
          refine x_callS m_X8_over l_X8_412 ((r_over (k := 0) (by decide)).mono (fun r9 σ' h => (⟨h.1, h.2⟩ : r9 = some (.int ((-1))) ∧ σ' = σ))) (by omega) rfl rfl (Nat.le_of_ble_eq_true rfl) ⟨Nat.le_refl _, Nat.le_refl _⟩ dX8_taken_44 (fun r8 s8 q8 => ?_)
          obtain ⟨rfl, eq8⟩ := q8
          obtain rfl := eq8.symm
          refine x_stk (st' := [.int ((-1))]) rfl ?_
          refine x_istore_n dX8_taken_47 (by decide) rfl ?_
          refine x_lv (lv' := [some (.ref 1000), some (.int (nI g)), some (.int (nI k)), some (.int ((-1)))]) rfl ?_
          refine x_goto (tgt := 33) dX8_taken_48 (by decide) ?_
          refine x_iload_n dX8_taken_33 rfl ?_
          refine x_iconst (v := (-1)) dX8_taken_34 (by decide) ?_
          refine x_icmpT_eq (p := (-1)) (q := (-1)) (tgt := 51) (by decide) (by decide) dX8_taken_35 (by decide) (fun hv9 => ?_) (fun hv9 => ?_)
          · refine x_iload_n dX8_taken_51 rfl ?_
            refine x_iload_n dX8_taken_52 rfl ?_
            refine x_icmpT_ne (p := (-1)) (q := ((k : Nat) : Int)) (tgt := 65) (by decide) (nI_toInt (by omega)) dX8_taken_53 (by decide) (fun hv10 => ?_) (fun hv10 => ?_)
            · refine x_bipush (v := (-13)) dX8_taken_65 (by decide) ?_
              exact x_iret ⟨Nat.le_refl _, Nat.le_refl _⟩ rfl dX8_taken_67 ⟨by rw [takV, if_neg (by unfold undB; rw [decide_eq_true_iff]; omega)], rfl⟩
            · refine x_aload_n dX8_taken_56 rfl ?_
              refine x_rget f_X8_29 hR rfl dX8_taken_57 ?_
              refine x_iload_n dX8_taken_60 rfl ?_
              refine x_rald (j := 4) (n := g) hR rfl (by decide) rfl rfl (rlt hR (m := 7) (by decide) rfl (by omega)) dX8_taken_61 ?_
              refine x_topi (y := nI ((N.getD g 0))) (rgN cN) ?_
              refine x_goto (tgt := 67) dX8_taken_62 (by decide) ?_
              exact x_iret ⟨Nat.le_refl _, Nat.le_refl _⟩ rfl dX8_taken_67 ⟨by rw [takV, if_pos (by unfold undB; rw [decide_eq_true_iff]; omega)], rfl⟩
          · exact absurd rfl hv9
    · exact absurd (by omega) hv4
  · exact absurd (by omega) hv2
set_option maxHeartbeats 4000000 in
theorem r_taken1 {σ0 σ : ZS} {a : Nat → Int32} {tw : Int64} {b : Nat → List Int32} {rr n : Nat} {K N : List Nat} {W : List Int32} {D : List Nat} (hR : RM σ0 σ a tw b) (hC : RC a b rr n K N W D (-1)) {g k : Nat} (hg : g < n) (hk : k ≤ 5) (hk9 : K.getD g 0 = 1) : Cn 3 M_X8_taken 0 0 [.ref 1000, .int (nI g), .int (nI k)] σ (fun r9 σ' => r9 = some (.int (takV N 1 k g)) ∧ σ' = σ) := by
  obtain ⟨c7, hrr, c13, hn7, c14, cK, cN, cW, cD, hN7, hW7, hD49, hK5, hN9, hD999⟩ := id hC
  refine Cn.intro (lv0 := [some (.ref 1000), some (.int (nI g)), some (.int (nI k)), none]) rfl (Nat.le_of_ble_eq_true rfl) rfl (fun d hd => ?_)
  refine x_iload_n dX8_taken_0 rfl ?_
  refine x_i2l dX8_taken_1 ?_
  refine x_lconst (v := 0) dX8_taken_2 (by decide) ?_
  refine x_ldc2 (v := (5)) cl_X8_114 dX8_taken_3 ?_
  refine x_callS m_X8_in l_X8_85 (r_in (p := ((k : Nat) : Int)) (q := 0) (r := (5)) (tL (nI_toInt (by omega))) (by decide) (by decide)) (by omega) rfl rfl (Nat.le_of_ble_eq_true rfl) ⟨Nat.le_refl _, Nat.le_refl _⟩ dX8_taken_6 (fun r1 s1 q1 => ?_)
  obtain ⟨rfl, eq1⟩ := q1
  obtain rfl := eq1.symm
  refine x_stk (st' := [.int (bI (decide (0 ≤ ((k : Nat) : Int) ∧ ((k : Nat) : Int) ≤ (5))))]) rfl ?_
  refine x_ifP_ne (P := 0 ≤ ((k : Nat) : Int) ∧ ((k : Nat) : Int) ≤ (5)) inferInstance (tgt := 15) dX8_taken_9 (by decide) (fun hv2 => ?_) (fun hv2 => ?_)
  · refine x_aload_n dX8_taken_15 rfl ?_
    refine x_iload_n dX8_taken_16 rfl ?_
    refine x_callV m_X8_isOne l_X8_89 (r_isOne hR hC (nI_toInt (by omega))) rfl hR.2.1 (by omega) rfl rfl (Nat.le_of_ble_eq_true rfl) ⟨Nat.le_refl _, Nat.le_refl _⟩ dX8_taken_17 (fun r3 s3 q3 => ?_)
    obtain ⟨rfl, eq3⟩ := q3
    obtain rfl := eq3.symm
    refine x_stk (st' := [.int (bI (decide (0 ≤ ((g : Nat) : Int) ∧ ((g : Nat) : Int) < ((n : Nat) : Int))))]) rfl ?_
    refine x_ifP_ne (P := 0 ≤ ((g : Nat) : Int) ∧ ((g : Nat) : Int) < ((n : Nat) : Int)) inferInstance (tgt := 26) dX8_taken_20 (by decide) (fun hv4 => ?_) (fun hv4 => ?_)
    · refine x_aload_n dX8_taken_26 rfl ?_
      refine x_rget f_X8_26 hR rfl dX8_taken_27 ?_
      refine x_iload_n dX8_taken_30 rfl ?_
      refine x_rald (j := 3) (n := g) hR rfl (by decide) rfl rfl (rlt hR (m := 7) (by decide) rfl (by omega)) dX8_taken_31 ?_
      refine x_topi (y := nI 1) ((cK _ (by omega)).trans (by rw [hk9])) ?_
      refine x_istore_n dX8_taken_32 (by decide) rfl ?_
      refine x_lv (lv' := [some (.ref 1000), some (.int (nI g)), some (.int (nI k)), some (.int (nI 1))]) rfl ?_
      refine x_iload_n dX8_taken_33 rfl ?_
      refine x_iconst (v := (-1)) dX8_taken_34 (by decide) ?_
      refine x_icmpT_eq (p := ((1 : Nat) : Int)) (q := (-1)) (tgt := 51) (nI_toInt (by omega)) (by decide) dX8_taken_35 (by decide) (fun hv5 => ?_) (fun hv5 => ?_)
      · exact absurd hv5 (by decide)
      · refine x_iload_n dX8_taken_38 rfl ?_
        refine x_iload_n dX8_taken_39 rfl ?_
        refine x_icmpN_eq (tgt := 51) dX8_taken_40 (by decide) (by omega) (by omega) (fun hv6 => ?_) (fun hv6 => ?_)
        · refine x_iload_n dX8_taken_51 rfl ?_
          refine x_iload_n dX8_taken_52 rfl ?_
          refine x_icmpN_ne (tgt := 65) dX8_taken_53 (by decide) (by omega) (by omega) (fun hv7 => ?_) (fun hv7 => ?_)
          · refine x_bipush (v := (-13)) dX8_taken_65 (by decide) ?_
            exact x_iret ⟨Nat.le_refl _, Nat.le_refl _⟩ rfl dX8_taken_67 ⟨by rw [takV, if_neg (by unfold undB; rw [decide_eq_true_iff]; omega)], rfl⟩
          · refine x_aload_n dX8_taken_56 rfl ?_
            refine x_rget f_X8_29 hR rfl dX8_taken_57 ?_
            refine x_iload_n dX8_taken_60 rfl ?_
            refine x_rald (j := 4) (n := g) hR rfl (by decide) rfl rfl (rlt hR (m := 7) (by decide) rfl (by omega)) dX8_taken_61 ?_
            refine x_topi (y := nI ((N.getD g 0))) (rgN cN) ?_
            refine x_goto (tgt := 67) dX8_taken_62 (by decide) ?_
            exact x_iret ⟨Nat.le_refl _, Nat.le_refl _⟩ rfl dX8_taken_67 ⟨by rw [takV, if_pos (by unfold undB; rw [decide_eq_true_iff]; omega)], rfl⟩
        · refine x_iload_n dX8_taken_43 rfl ?_
          refine x_callS m_X8_over l_X8_412 ((r_over (k := 1) (by decide)).mono (fun r9 σ' h => (⟨h.1, h.2⟩ : r9 = some (.int (nI 0)) ∧ σ' = σ))) (by omega) rfl rfl (Nat.le_of_ble_eq_true rfl) ⟨Nat.le_refl _, Nat.le_refl _⟩ dX8_taken_44 (fun r8 s8 q8 => ?_)
          obtain ⟨rfl, eq8⟩ := q8
          obtain rfl := eq8.symm
          refine x_stk (st' := [.int (nI 0)]) rfl ?_
          refine x_istore_n dX8_taken_47 (by decide) rfl ?_
          refine x_lv (lv' := [some (.ref 1000), some (.int (nI g)), some (.int (nI k)), some (.int (nI 0))]) rfl ?_
          refine x_goto (tgt := 33) dX8_taken_48 (by decide) ?_
          refine x_iload_n dX8_taken_33 rfl ?_
          refine x_iconst (v := (-1)) dX8_taken_34 (by decide) ?_
          refine x_icmpT_eq (p := ((0 : Nat) : Int)) (q := (-1)) (tgt := 51) (nI_toInt (by omega)) (by decide) dX8_taken_35 (by decide) (fun hv9 => ?_) (fun hv9 => ?_)
          · exact absurd hv9 (by decide)
          · refine x_iload_n dX8_taken_38 rfl ?_
            refine x_iload_n dX8_taken_39 rfl ?_
            refine x_icmpN_eq (tgt := 51) dX8_taken_40 (by decide) (by omega) (by omega) (fun hv10 => ?_) (fun hv10 => ?_)
            · refine x_iload_n dX8_taken_51 rfl ?_
              refine x_iload_n dX8_taken_52 rfl ?_
              refine x_icmpN_ne (tgt := 65) dX8_taken_53 (by decide) (by omega) (by omega) (fun hv11 => ?_) (fun hv11 => ?_)
              · refine x_bipush (v := (-13)) dX8_taken_65 (by decide) ?_
                exact x_iret ⟨Nat.le_refl _, Nat.le_refl _⟩ rfl dX8_taken_67 ⟨by rw [takV, if_neg (by unfold undB; rw [decide_eq_true_iff]; omega)], rfl⟩
              · refine x_aload_n dX8_taken_56 rfl ?_
                refine x_rget f_X8_29 hR rfl dX8_taken_57 ?_
                refine x_iload_n dX8_taken_60 rfl ?_
                refine x_rald (j := 4) (n := g) hR rfl (by decide) rfl rfl (rlt hR (m := 7) (by decide) rfl (by omega)) dX8_taken_61 ?_
                refine x_topi (y := nI ((N.getD g 0))) (rgN cN) ?_
                refine x_goto (tgt := 67) dX8_taken_62 (by decide) ?_
                exact x_iret ⟨Nat.le_refl _, Nat.le_refl _⟩ rfl dX8_taken_67 ⟨by rw [takV, if_pos (by unfold undB; rw [decide_eq_true_iff]; omega)], rfl⟩
            · refine x_iload_n dX8_taken_43 rfl ?_
              refine x_callS m_X8_over l_X8_412 ((r_over (k := 0) (by decide)).mono (fun r9 σ' h => (⟨h.1, h.2⟩ : r9 = some (.int ((-1))) ∧ σ' = σ))) (by omega) rfl rfl (Nat.le_of_ble_eq_true rfl) ⟨Nat.le_refl _, Nat.le_refl _⟩ dX8_taken_44 (fun r12 s12 q12 => ?_)
              obtain ⟨rfl, eq12⟩ := q12
              obtain rfl := eq12.symm
              refine x_stk (st' := [.int ((-1))]) rfl ?_
              refine x_istore_n dX8_taken_47 (by decide) rfl ?_
              refine x_lv (lv' := [some (.ref 1000), some (.int (nI g)), some (.int (nI k)), some (.int ((-1)))]) rfl ?_
              refine x_goto (tgt := 33) dX8_taken_48 (by decide) ?_
              refine x_iload_n dX8_taken_33 rfl ?_
              refine x_iconst (v := (-1)) dX8_taken_34 (by decide) ?_
              refine x_icmpT_eq (p := (-1)) (q := (-1)) (tgt := 51) (by decide) (by decide) dX8_taken_35 (by decide) (fun hv13 => ?_) (fun hv13 => ?_)
              · refine x_iload_n dX8_taken_51 rfl ?_
                refine x_iload_n dX8_taken_52 rfl ?_
                refine x_icmpT_ne (p := (-1)) (q := ((k : Nat) : Int)) (tgt := 65) (by decide) (nI_toInt (by omega)) dX8_taken_53 (by decide) (fun hv14 => ?_) (fun hv14 => ?_)
                · refine x_bipush (v := (-13)) dX8_taken_65 (by decide) ?_
                  exact x_iret ⟨Nat.le_refl _, Nat.le_refl _⟩ rfl dX8_taken_67 ⟨by rw [takV, if_neg (by unfold undB; rw [decide_eq_true_iff]; omega)], rfl⟩
                · refine x_aload_n dX8_taken_56 rfl ?_
                  refine x_rget f_X8_29 hR rfl dX8_taken_57 ?_
                  refine x_iload_n dX8_taken_60 rfl ?_
                  refine x_rald (j := 4) (n := g) hR rfl (by decide) rfl rfl (rlt hR (m := 7) (by decide) rfl (by omega)) dX8_taken_61 ?_
                  refine x_topi (y := nI ((N.getD g 0))) (rgN cN) ?_
                  refine x_goto (tgt := 67) dX8_taken_62 (by decide) ?_
                  exact x_iret ⟨Nat.le_refl _, Nat.le_refl _⟩ rfl dX8_taken_67 ⟨by rw [takV, if_pos (by unfold undB; rw [decide_eq_true_iff]; omega)], rfl⟩
              · exact absurd rfl hv13
    · exact absurd (by omega) hv4
  · exact absurd (by omega) hv2
set_option maxHeartbeats 4000000 in
theorem r_taken2 {σ0 σ : ZS} {a : Nat → Int32} {tw : Int64} {b : Nat → List Int32} {rr n : Nat} {K N : List Nat} {W : List Int32} {D : List Nat} (hR : RM σ0 σ a tw b) (hC : RC a b rr n K N W D (-1)) {g k : Nat} (hg : g < n) (hk : k ≤ 5) (hk9 : K.getD g 0 = 2) : Cn 3 M_X8_taken 0 0 [.ref 1000, .int (nI g), .int (nI k)] σ (fun r9 σ' => r9 = some (.int (takV N 2 k g)) ∧ σ' = σ) := by
  obtain ⟨c7, hrr, c13, hn7, c14, cK, cN, cW, cD, hN7, hW7, hD49, hK5, hN9, hD999⟩ := id hC
  refine Cn.intro (lv0 := [some (.ref 1000), some (.int (nI g)), some (.int (nI k)), none]) rfl (Nat.le_of_ble_eq_true rfl) rfl (fun d hd => ?_)
  refine x_iload_n dX8_taken_0 rfl ?_
  refine x_i2l dX8_taken_1 ?_
  refine x_lconst (v := 0) dX8_taken_2 (by decide) ?_
  refine x_ldc2 (v := (5)) cl_X8_114 dX8_taken_3 ?_
  refine x_callS m_X8_in l_X8_85 (r_in (p := ((k : Nat) : Int)) (q := 0) (r := (5)) (tL (nI_toInt (by omega))) (by decide) (by decide)) (by omega) rfl rfl (Nat.le_of_ble_eq_true rfl) ⟨Nat.le_refl _, Nat.le_refl _⟩ dX8_taken_6 (fun r1 s1 q1 => ?_)
  obtain ⟨rfl, eq1⟩ := q1
  obtain rfl := eq1.symm
  refine x_stk (st' := [.int (bI (decide (0 ≤ ((k : Nat) : Int) ∧ ((k : Nat) : Int) ≤ (5))))]) rfl ?_
  refine x_ifP_ne (P := 0 ≤ ((k : Nat) : Int) ∧ ((k : Nat) : Int) ≤ (5)) inferInstance (tgt := 15) dX8_taken_9 (by decide) (fun hv2 => ?_) (fun hv2 => ?_)
  · refine x_aload_n dX8_taken_15 rfl ?_
    refine x_iload_n dX8_taken_16 rfl ?_
    refine x_callV m_X8_isOne l_X8_89 (r_isOne hR hC (nI_toInt (by omega))) rfl hR.2.1 (by omega) rfl rfl (Nat.le_of_ble_eq_true rfl) ⟨Nat.le_refl _, Nat.le_refl _⟩ dX8_taken_17 (fun r3 s3 q3 => ?_)
    obtain ⟨rfl, eq3⟩ := q3
    obtain rfl := eq3.symm
    refine x_stk (st' := [.int (bI (decide (0 ≤ ((g : Nat) : Int) ∧ ((g : Nat) : Int) < ((n : Nat) : Int))))]) rfl ?_
    refine x_ifP_ne (P := 0 ≤ ((g : Nat) : Int) ∧ ((g : Nat) : Int) < ((n : Nat) : Int)) inferInstance (tgt := 26) dX8_taken_20 (by decide) (fun hv4 => ?_) (fun hv4 => ?_)
    · refine x_aload_n dX8_taken_26 rfl ?_
      refine x_rget f_X8_26 hR rfl dX8_taken_27 ?_
      refine x_iload_n dX8_taken_30 rfl ?_
      refine x_rald (j := 3) (n := g) hR rfl (by decide) rfl rfl (rlt hR (m := 7) (by decide) rfl (by omega)) dX8_taken_31 ?_
      refine x_topi (y := nI 2) ((cK _ (by omega)).trans (by rw [hk9])) ?_
      refine x_istore_n dX8_taken_32 (by decide) rfl ?_
      refine x_lv (lv' := [some (.ref 1000), some (.int (nI g)), some (.int (nI k)), some (.int (nI 2))]) rfl ?_
      refine x_iload_n dX8_taken_33 rfl ?_
      refine x_iconst (v := (-1)) dX8_taken_34 (by decide) ?_
      refine x_icmpT_eq (p := ((2 : Nat) : Int)) (q := (-1)) (tgt := 51) (nI_toInt (by omega)) (by decide) dX8_taken_35 (by decide) (fun hv5 => ?_) (fun hv5 => ?_)
      · exact absurd hv5 (by decide)
      · refine x_iload_n dX8_taken_38 rfl ?_
        refine x_iload_n dX8_taken_39 rfl ?_
        refine x_icmpN_eq (tgt := 51) dX8_taken_40 (by decide) (by omega) (by omega) (fun hv6 => ?_) (fun hv6 => ?_)
        · refine x_iload_n dX8_taken_51 rfl ?_
          refine x_iload_n dX8_taken_52 rfl ?_
          refine x_icmpN_ne (tgt := 65) dX8_taken_53 (by decide) (by omega) (by omega) (fun hv7 => ?_) (fun hv7 => ?_)
          · refine x_bipush (v := (-13)) dX8_taken_65 (by decide) ?_
            exact x_iret ⟨Nat.le_refl _, Nat.le_refl _⟩ rfl dX8_taken_67 ⟨by rw [takV, if_neg (by unfold undB; rw [decide_eq_true_iff]; omega)], rfl⟩
          · refine x_aload_n dX8_taken_56 rfl ?_
            refine x_rget f_X8_29 hR rfl dX8_taken_57 ?_
            refine x_iload_n dX8_taken_60 rfl ?_
            refine x_rald (j := 4) (n := g) hR rfl (by decide) rfl rfl (rlt hR (m := 7) (by decide) rfl (by omega)) dX8_taken_61 ?_
            refine x_topi (y := nI ((N.getD g 0))) (rgN cN) ?_
            refine x_goto (tgt := 67) dX8_taken_62 (by decide) ?_
            exact x_iret ⟨Nat.le_refl _, Nat.le_refl _⟩ rfl dX8_taken_67 ⟨by rw [takV, if_pos (by unfold undB; rw [decide_eq_true_iff]; omega)], rfl⟩
        · refine x_iload_n dX8_taken_43 rfl ?_
          refine x_callS m_X8_over l_X8_412 ((r_over (k := 2) (by decide)).mono (fun r9 σ' h => (⟨h.1, h.2⟩ : r9 = some (.int (nI 0)) ∧ σ' = σ))) (by omega) rfl rfl (Nat.le_of_ble_eq_true rfl) ⟨Nat.le_refl _, Nat.le_refl _⟩ dX8_taken_44 (fun r8 s8 q8 => ?_)
          obtain ⟨rfl, eq8⟩ := q8
          obtain rfl := eq8.symm
          refine x_stk (st' := [.int (nI 0)]) rfl ?_
          refine x_istore_n dX8_taken_47 (by decide) rfl ?_
          refine x_lv (lv' := [some (.ref 1000), some (.int (nI g)), some (.int (nI k)), some (.int (nI 0))]) rfl ?_
          refine x_goto (tgt := 33) dX8_taken_48 (by decide) ?_
          refine x_iload_n dX8_taken_33 rfl ?_
          refine x_iconst (v := (-1)) dX8_taken_34 (by decide) ?_
          refine x_icmpT_eq (p := ((0 : Nat) : Int)) (q := (-1)) (tgt := 51) (nI_toInt (by omega)) (by decide) dX8_taken_35 (by decide) (fun hv9 => ?_) (fun hv9 => ?_)
          · exact absurd hv9 (by decide)
          · refine x_iload_n dX8_taken_38 rfl ?_
            refine x_iload_n dX8_taken_39 rfl ?_
            refine x_icmpN_eq (tgt := 51) dX8_taken_40 (by decide) (by omega) (by omega) (fun hv10 => ?_) (fun hv10 => ?_)
            · refine x_iload_n dX8_taken_51 rfl ?_
              refine x_iload_n dX8_taken_52 rfl ?_
              refine x_icmpN_ne (tgt := 65) dX8_taken_53 (by decide) (by omega) (by omega) (fun hv11 => ?_) (fun hv11 => ?_)
              · refine x_bipush (v := (-13)) dX8_taken_65 (by decide) ?_
                exact x_iret ⟨Nat.le_refl _, Nat.le_refl _⟩ rfl dX8_taken_67 ⟨by rw [takV, if_neg (by unfold undB; rw [decide_eq_true_iff]; omega)], rfl⟩
              · refine x_aload_n dX8_taken_56 rfl ?_
                refine x_rget f_X8_29 hR rfl dX8_taken_57 ?_
                refine x_iload_n dX8_taken_60 rfl ?_
                refine x_rald (j := 4) (n := g) hR rfl (by decide) rfl rfl (rlt hR (m := 7) (by decide) rfl (by omega)) dX8_taken_61 ?_
                refine x_topi (y := nI ((N.getD g 0))) (rgN cN) ?_
                refine x_goto (tgt := 67) dX8_taken_62 (by decide) ?_
                exact x_iret ⟨Nat.le_refl _, Nat.le_refl _⟩ rfl dX8_taken_67 ⟨by rw [takV, if_pos (by unfold undB; rw [decide_eq_true_iff]; omega)], rfl⟩
            · refine x_iload_n dX8_taken_43 rfl ?_
              refine x_callS m_X8_over l_X8_412 ((r_over (k := 0) (by decide)).mono (fun r9 σ' h => (⟨h.1, h.2⟩ : r9 = some (.int ((-1))) ∧ σ' = σ))) (by omega) rfl rfl (Nat.le_of_ble_eq_true rfl) ⟨Nat.le_refl _, Nat.le_refl _⟩ dX8_taken_44 (fun r12 s12 q12 => ?_)
              obtain ⟨rfl, eq12⟩ := q12
              obtain rfl := eq12.symm
              refine x_stk (st' := [.int ((-1))]) rfl ?_
              refine x_istore_n dX8_taken_47 (by decide) rfl ?_
              refine x_lv (lv' := [some (.ref 1000), some (.int (nI g)), some (.int (nI k)), some (.int ((-1)))]) rfl ?_
              refine x_goto (tgt := 33) dX8_taken_48 (by decide) ?_
              refine x_iload_n dX8_taken_33 rfl ?_
              refine x_iconst (v := (-1)) dX8_taken_34 (by decide) ?_
              refine x_icmpT_eq (p := (-1)) (q := (-1)) (tgt := 51) (by decide) (by decide) dX8_taken_35 (by decide) (fun hv13 => ?_) (fun hv13 => ?_)
              · refine x_iload_n dX8_taken_51 rfl ?_
                refine x_iload_n dX8_taken_52 rfl ?_
                refine x_icmpT_ne (p := (-1)) (q := ((k : Nat) : Int)) (tgt := 65) (by decide) (nI_toInt (by omega)) dX8_taken_53 (by decide) (fun hv14 => ?_) (fun hv14 => ?_)
                · refine x_bipush (v := (-13)) dX8_taken_65 (by decide) ?_
                  exact x_iret ⟨Nat.le_refl _, Nat.le_refl _⟩ rfl dX8_taken_67 ⟨by rw [takV, if_neg (by unfold undB; rw [decide_eq_true_iff]; omega)], rfl⟩
                · refine x_aload_n dX8_taken_56 rfl ?_
                  refine x_rget f_X8_29 hR rfl dX8_taken_57 ?_
                  refine x_iload_n dX8_taken_60 rfl ?_
                  refine x_rald (j := 4) (n := g) hR rfl (by decide) rfl rfl (rlt hR (m := 7) (by decide) rfl (by omega)) dX8_taken_61 ?_
                  refine x_topi (y := nI ((N.getD g 0))) (rgN cN) ?_
                  refine x_goto (tgt := 67) dX8_taken_62 (by decide) ?_
                  exact x_iret ⟨Nat.le_refl _, Nat.le_refl _⟩ rfl dX8_taken_67 ⟨by rw [takV, if_pos (by unfold undB; rw [decide_eq_true_iff]; omega)], rfl⟩
              · exact absurd rfl hv13
    · exact absurd (by omega) hv4
  · exact absurd (by omega) hv2
set_option maxHeartbeats 4000000 in
theorem r_taken3 {σ0 σ : ZS} {a : Nat → Int32} {tw : Int64} {b : Nat → List Int32} {rr n : Nat} {K N : List Nat} {W : List Int32} {D : List Nat} (hR : RM σ0 σ a tw b) (hC : RC a b rr n K N W D (-1)) {g k : Nat} (hg : g < n) (hk : k ≤ 5) (hk9 : K.getD g 0 = 3) : Cn 3 M_X8_taken 0 0 [.ref 1000, .int (nI g), .int (nI k)] σ (fun r9 σ' => r9 = some (.int (takV N 3 k g)) ∧ σ' = σ) := by
  obtain ⟨c7, hrr, c13, hn7, c14, cK, cN, cW, cD, hN7, hW7, hD49, hK5, hN9, hD999⟩ := id hC
  refine Cn.intro (lv0 := [some (.ref 1000), some (.int (nI g)), some (.int (nI k)), none]) rfl (Nat.le_of_ble_eq_true rfl) rfl (fun d hd => ?_)
  refine x_iload_n dX8_taken_0 rfl ?_
  refine x_i2l dX8_taken_1 ?_
  refine x_lconst (v := 0) dX8_taken_2 (by decide) ?_
  refine x_ldc2 (v := (5)) cl_X8_114 dX8_taken_3 ?_
  refine x_callS m_X8_in l_X8_85 (r_in (p := ((k : Nat) : Int)) (q := 0) (r := (5)) (tL (nI_toInt (by omega))) (by decide) (by decide)) (by omega) rfl rfl (Nat.le_of_ble_eq_true rfl) ⟨Nat.le_refl _, Nat.le_refl _⟩ dX8_taken_6 (fun r1 s1 q1 => ?_)
  obtain ⟨rfl, eq1⟩ := q1
  obtain rfl := eq1.symm
  refine x_stk (st' := [.int (bI (decide (0 ≤ ((k : Nat) : Int) ∧ ((k : Nat) : Int) ≤ (5))))]) rfl ?_
  refine x_ifP_ne (P := 0 ≤ ((k : Nat) : Int) ∧ ((k : Nat) : Int) ≤ (5)) inferInstance (tgt := 15) dX8_taken_9 (by decide) (fun hv2 => ?_) (fun hv2 => ?_)
  · refine x_aload_n dX8_taken_15 rfl ?_
    refine x_iload_n dX8_taken_16 rfl ?_
    refine x_callV m_X8_isOne l_X8_89 (r_isOne hR hC (nI_toInt (by omega))) rfl hR.2.1 (by omega) rfl rfl (Nat.le_of_ble_eq_true rfl) ⟨Nat.le_refl _, Nat.le_refl _⟩ dX8_taken_17 (fun r3 s3 q3 => ?_)
    obtain ⟨rfl, eq3⟩ := q3
    obtain rfl := eq3.symm
    refine x_stk (st' := [.int (bI (decide (0 ≤ ((g : Nat) : Int) ∧ ((g : Nat) : Int) < ((n : Nat) : Int))))]) rfl ?_
    refine x_ifP_ne (P := 0 ≤ ((g : Nat) : Int) ∧ ((g : Nat) : Int) < ((n : Nat) : Int)) inferInstance (tgt := 26) dX8_taken_20 (by decide) (fun hv4 => ?_) (fun hv4 => ?_)
    · refine x_aload_n dX8_taken_26 rfl ?_
      refine x_rget f_X8_26 hR rfl dX8_taken_27 ?_
      refine x_iload_n dX8_taken_30 rfl ?_
      refine x_rald (j := 3) (n := g) hR rfl (by decide) rfl rfl (rlt hR (m := 7) (by decide) rfl (by omega)) dX8_taken_31 ?_
      refine x_topi (y := nI 3) ((cK _ (by omega)).trans (by rw [hk9])) ?_
      refine x_istore_n dX8_taken_32 (by decide) rfl ?_
      refine x_lv (lv' := [some (.ref 1000), some (.int (nI g)), some (.int (nI k)), some (.int (nI 3))]) rfl ?_
      refine x_iload_n dX8_taken_33 rfl ?_
      refine x_iconst (v := (-1)) dX8_taken_34 (by decide) ?_
      refine x_icmpT_eq (p := ((3 : Nat) : Int)) (q := (-1)) (tgt := 51) (nI_toInt (by omega)) (by decide) dX8_taken_35 (by decide) (fun hv5 => ?_) (fun hv5 => ?_)
      · exact absurd hv5 (by decide)
      · refine x_iload_n dX8_taken_38 rfl ?_
        refine x_iload_n dX8_taken_39 rfl ?_
        refine x_icmpN_eq (tgt := 51) dX8_taken_40 (by decide) (by omega) (by omega) (fun hv6 => ?_) (fun hv6 => ?_)
        · refine x_iload_n dX8_taken_51 rfl ?_
          refine x_iload_n dX8_taken_52 rfl ?_
          refine x_icmpN_ne (tgt := 65) dX8_taken_53 (by decide) (by omega) (by omega) (fun hv7 => ?_) (fun hv7 => ?_)
          · refine x_bipush (v := (-13)) dX8_taken_65 (by decide) ?_
            exact x_iret ⟨Nat.le_refl _, Nat.le_refl _⟩ rfl dX8_taken_67 ⟨by rw [takV, if_neg (by unfold undB; rw [decide_eq_true_iff]; omega)], rfl⟩
          · refine x_aload_n dX8_taken_56 rfl ?_
            refine x_rget f_X8_29 hR rfl dX8_taken_57 ?_
            refine x_iload_n dX8_taken_60 rfl ?_
            refine x_rald (j := 4) (n := g) hR rfl (by decide) rfl rfl (rlt hR (m := 7) (by decide) rfl (by omega)) dX8_taken_61 ?_
            refine x_topi (y := nI ((N.getD g 0))) (rgN cN) ?_
            refine x_goto (tgt := 67) dX8_taken_62 (by decide) ?_
            exact x_iret ⟨Nat.le_refl _, Nat.le_refl _⟩ rfl dX8_taken_67 ⟨by rw [takV, if_pos (by unfold undB; rw [decide_eq_true_iff]; omega)], rfl⟩
        · refine x_iload_n dX8_taken_43 rfl ?_
          refine x_callS m_X8_over l_X8_412 ((r_over (k := 3) (by decide)).mono (fun r9 σ' h => (⟨h.1, h.2⟩ : r9 = some (.int (nI 1)) ∧ σ' = σ))) (by omega) rfl rfl (Nat.le_of_ble_eq_true rfl) ⟨Nat.le_refl _, Nat.le_refl _⟩ dX8_taken_44 (fun r8 s8 q8 => ?_)
          obtain ⟨rfl, eq8⟩ := q8
          obtain rfl := eq8.symm
          refine x_stk (st' := [.int (nI 1)]) rfl ?_
          refine x_istore_n dX8_taken_47 (by decide) rfl ?_
          refine x_lv (lv' := [some (.ref 1000), some (.int (nI g)), some (.int (nI k)), some (.int (nI 1))]) rfl ?_
          refine x_goto (tgt := 33) dX8_taken_48 (by decide) ?_
          refine x_iload_n dX8_taken_33 rfl ?_
          refine x_iconst (v := (-1)) dX8_taken_34 (by decide) ?_
          refine x_icmpT_eq (p := ((1 : Nat) : Int)) (q := (-1)) (tgt := 51) (nI_toInt (by omega)) (by decide) dX8_taken_35 (by decide) (fun hv9 => ?_) (fun hv9 => ?_)
          · exact absurd hv9 (by decide)
          · refine x_iload_n dX8_taken_38 rfl ?_
            refine x_iload_n dX8_taken_39 rfl ?_
            refine x_icmpN_eq (tgt := 51) dX8_taken_40 (by decide) (by omega) (by omega) (fun hv10 => ?_) (fun hv10 => ?_)
            · refine x_iload_n dX8_taken_51 rfl ?_
              refine x_iload_n dX8_taken_52 rfl ?_
              refine x_icmpN_ne (tgt := 65) dX8_taken_53 (by decide) (by omega) (by omega) (fun hv11 => ?_) (fun hv11 => ?_)
              · refine x_bipush (v := (-13)) dX8_taken_65 (by decide) ?_
                exact x_iret ⟨Nat.le_refl _, Nat.le_refl _⟩ rfl dX8_taken_67 ⟨by rw [takV, if_neg (by unfold undB; rw [decide_eq_true_iff]; omega)], rfl⟩
              · refine x_aload_n dX8_taken_56 rfl ?_
                refine x_rget f_X8_29 hR rfl dX8_taken_57 ?_
                refine x_iload_n dX8_taken_60 rfl ?_
                refine x_rald (j := 4) (n := g) hR rfl (by decide) rfl rfl (rlt hR (m := 7) (by decide) rfl (by omega)) dX8_taken_61 ?_
                refine x_topi (y := nI ((N.getD g 0))) (rgN cN) ?_
                refine x_goto (tgt := 67) dX8_taken_62 (by decide) ?_
                exact x_iret ⟨Nat.le_refl _, Nat.le_refl _⟩ rfl dX8_taken_67 ⟨by rw [takV, if_pos (by unfold undB; rw [decide_eq_true_iff]; omega)], rfl⟩
            · refine x_iload_n dX8_taken_43 rfl ?_
              refine x_callS m_X8_over l_X8_412 ((r_over (k := 1) (by decide)).mono (fun r9 σ' h => (⟨h.1, h.2⟩ : r9 = some (.int (nI 0)) ∧ σ' = σ))) (by omega) rfl rfl (Nat.le_of_ble_eq_true rfl) ⟨Nat.le_refl _, Nat.le_refl _⟩ dX8_taken_44 (fun r12 s12 q12 => ?_)
              obtain ⟨rfl, eq12⟩ := q12
              obtain rfl := eq12.symm
              refine x_stk (st' := [.int (nI 0)]) rfl ?_
              refine x_istore_n dX8_taken_47 (by decide) rfl ?_
              refine x_lv (lv' := [some (.ref 1000), some (.int (nI g)), some (.int (nI k)), some (.int (nI 0))]) rfl ?_
              refine x_goto (tgt := 33) dX8_taken_48 (by decide) ?_
              refine x_iload_n dX8_taken_33 rfl ?_
              refine x_iconst (v := (-1)) dX8_taken_34 (by decide) ?_
              refine x_icmpT_eq (p := ((0 : Nat) : Int)) (q := (-1)) (tgt := 51) (nI_toInt (by omega)) (by decide) dX8_taken_35 (by decide) (fun hv13 => ?_) (fun hv13 => ?_)
              · exact absurd hv13 (by decide)
              · refine x_iload_n dX8_taken_38 rfl ?_
                refine x_iload_n dX8_taken_39 rfl ?_
                refine x_icmpN_eq (tgt := 51) dX8_taken_40 (by decide) (by omega) (by omega) (fun hv14 => ?_) (fun hv14 => ?_)
                · refine x_iload_n dX8_taken_51 rfl ?_
                  refine x_iload_n dX8_taken_52 rfl ?_
                  refine x_icmpN_ne (tgt := 65) dX8_taken_53 (by decide) (by omega) (by omega) (fun hv15 => ?_) (fun hv15 => ?_)
                  · refine x_bipush (v := (-13)) dX8_taken_65 (by decide) ?_
                    exact x_iret ⟨Nat.le_refl _, Nat.le_refl _⟩ rfl dX8_taken_67 ⟨by rw [takV, if_neg (by unfold undB; rw [decide_eq_true_iff]; omega)], rfl⟩
                  · refine x_aload_n dX8_taken_56 rfl ?_
                    refine x_rget f_X8_29 hR rfl dX8_taken_57 ?_
                    refine x_iload_n dX8_taken_60 rfl ?_
                    refine x_rald (j := 4) (n := g) hR rfl (by decide) rfl rfl (rlt hR (m := 7) (by decide) rfl (by omega)) dX8_taken_61 ?_
                    refine x_topi (y := nI ((N.getD g 0))) (rgN cN) ?_
                    refine x_goto (tgt := 67) dX8_taken_62 (by decide) ?_
                    exact x_iret ⟨Nat.le_refl _, Nat.le_refl _⟩ rfl dX8_taken_67 ⟨by rw [takV, if_pos (by unfold undB; rw [decide_eq_true_iff]; omega)], rfl⟩
                · refine x_iload_n dX8_taken_43 rfl ?_
                  refine x_callS m_X8_over l_X8_412 ((r_over (k := 0) (by decide)).mono (fun r9 σ' h => (⟨h.1, h.2⟩ : r9 = some (.int ((-1))) ∧ σ' = σ))) (by omega) rfl rfl (Nat.le_of_ble_eq_true rfl) ⟨Nat.le_refl _, Nat.le_refl _⟩ dX8_taken_44 (fun r16 s16 q16 => ?_)
                  obtain ⟨rfl, eq16⟩ := q16
                  obtain rfl := eq16.symm
                  refine x_stk (st' := [.int ((-1))]) rfl ?_
                  refine x_istore_n dX8_taken_47 (by decide) rfl ?_
                  refine x_lv (lv' := [some (.ref 1000), some (.int (nI g)), some (.int (nI k)), some (.int ((-1)))]) rfl ?_
                  refine x_goto (tgt := 33) dX8_taken_48 (by decide) ?_
                  refine x_iload_n dX8_taken_33 rfl ?_
                  refine x_iconst (v := (-1)) dX8_taken_34 (by decide) ?_
                  refine x_icmpT_eq (p := (-1)) (q := (-1)) (tgt := 51) (by decide) (by decide) dX8_taken_35 (by decide) (fun hv17 => ?_) (fun hv17 => ?_)
                  · refine x_iload_n dX8_taken_51 rfl ?_
                    refine x_iload_n dX8_taken_52 rfl ?_
                    refine x_icmpT_ne (p := (-1)) (q := ((k : Nat) : Int)) (tgt := 65) (by decide) (nI_toInt (by omega)) dX8_taken_53 (by decide) (fun hv18 => ?_) (fun hv18 => ?_)
                    · refine x_bipush (v := (-13)) dX8_taken_65 (by decide) ?_
                      exact x_iret ⟨Nat.le_refl _, Nat.le_refl _⟩ rfl dX8_taken_67 ⟨by rw [takV, if_neg (by unfold undB; rw [decide_eq_true_iff]; omega)], rfl⟩
                    · refine x_aload_n dX8_taken_56 rfl ?_
                      refine x_rget f_X8_29 hR rfl dX8_taken_57 ?_
                      refine x_iload_n dX8_taken_60 rfl ?_
                      refine x_rald (j := 4) (n := g) hR rfl (by decide) rfl rfl (rlt hR (m := 7) (by decide) rfl (by omega)) dX8_taken_61 ?_
                      refine x_topi (y := nI ((N.getD g 0))) (rgN cN) ?_
                      refine x_goto (tgt := 67) dX8_taken_62 (by decide) ?_
                      exact x_iret ⟨Nat.le_refl _, Nat.le_refl _⟩ rfl dX8_taken_67 ⟨by rw [takV, if_pos (by unfold undB; rw [decide_eq_true_iff]; omega)], rfl⟩
                  · exact absurd rfl hv17
    · exact absurd (by omega) hv4
  · exact absurd (by omega) hv2
set_option maxHeartbeats 4000000 in
theorem r_taken4 {σ0 σ : ZS} {a : Nat → Int32} {tw : Int64} {b : Nat → List Int32} {rr n : Nat} {K N : List Nat} {W : List Int32} {D : List Nat} (hR : RM σ0 σ a tw b) (hC : RC a b rr n K N W D (-1)) {g k : Nat} (hg : g < n) (hk : k ≤ 5) (hk9 : K.getD g 0 = 4) : Cn 3 M_X8_taken 0 0 [.ref 1000, .int (nI g), .int (nI k)] σ (fun r9 σ' => r9 = some (.int (takV N 4 k g)) ∧ σ' = σ) := by
  obtain ⟨c7, hrr, c13, hn7, c14, cK, cN, cW, cD, hN7, hW7, hD49, hK5, hN9, hD999⟩ := id hC
  refine Cn.intro (lv0 := [some (.ref 1000), some (.int (nI g)), some (.int (nI k)), none]) rfl (Nat.le_of_ble_eq_true rfl) rfl (fun d hd => ?_)
  refine x_iload_n dX8_taken_0 rfl ?_
  refine x_i2l dX8_taken_1 ?_
  refine x_lconst (v := 0) dX8_taken_2 (by decide) ?_
  refine x_ldc2 (v := (5)) cl_X8_114 dX8_taken_3 ?_
  refine x_callS m_X8_in l_X8_85 (r_in (p := ((k : Nat) : Int)) (q := 0) (r := (5)) (tL (nI_toInt (by omega))) (by decide) (by decide)) (by omega) rfl rfl (Nat.le_of_ble_eq_true rfl) ⟨Nat.le_refl _, Nat.le_refl _⟩ dX8_taken_6 (fun r1 s1 q1 => ?_)
  obtain ⟨rfl, eq1⟩ := q1
  obtain rfl := eq1.symm
  refine x_stk (st' := [.int (bI (decide (0 ≤ ((k : Nat) : Int) ∧ ((k : Nat) : Int) ≤ (5))))]) rfl ?_
  refine x_ifP_ne (P := 0 ≤ ((k : Nat) : Int) ∧ ((k : Nat) : Int) ≤ (5)) inferInstance (tgt := 15) dX8_taken_9 (by decide) (fun hv2 => ?_) (fun hv2 => ?_)
  · refine x_aload_n dX8_taken_15 rfl ?_
    refine x_iload_n dX8_taken_16 rfl ?_
    refine x_callV m_X8_isOne l_X8_89 (r_isOne hR hC (nI_toInt (by omega))) rfl hR.2.1 (by omega) rfl rfl (Nat.le_of_ble_eq_true rfl) ⟨Nat.le_refl _, Nat.le_refl _⟩ dX8_taken_17 (fun r3 s3 q3 => ?_)
    obtain ⟨rfl, eq3⟩ := q3
    obtain rfl := eq3.symm
    refine x_stk (st' := [.int (bI (decide (0 ≤ ((g : Nat) : Int) ∧ ((g : Nat) : Int) < ((n : Nat) : Int))))]) rfl ?_
    refine x_ifP_ne (P := 0 ≤ ((g : Nat) : Int) ∧ ((g : Nat) : Int) < ((n : Nat) : Int)) inferInstance (tgt := 26) dX8_taken_20 (by decide) (fun hv4 => ?_) (fun hv4 => ?_)
    · refine x_aload_n dX8_taken_26 rfl ?_
      refine x_rget f_X8_26 hR rfl dX8_taken_27 ?_
      refine x_iload_n dX8_taken_30 rfl ?_
      refine x_rald (j := 3) (n := g) hR rfl (by decide) rfl rfl (rlt hR (m := 7) (by decide) rfl (by omega)) dX8_taken_31 ?_
      refine x_topi (y := nI 4) ((cK _ (by omega)).trans (by rw [hk9])) ?_
      refine x_istore_n dX8_taken_32 (by decide) rfl ?_
      refine x_lv (lv' := [some (.ref 1000), some (.int (nI g)), some (.int (nI k)), some (.int (nI 4))]) rfl ?_
      refine x_iload_n dX8_taken_33 rfl ?_
      refine x_iconst (v := (-1)) dX8_taken_34 (by decide) ?_
      refine x_icmpT_eq (p := ((4 : Nat) : Int)) (q := (-1)) (tgt := 51) (nI_toInt (by omega)) (by decide) dX8_taken_35 (by decide) (fun hv5 => ?_) (fun hv5 => ?_)
      · exact absurd hv5 (by decide)
      · refine x_iload_n dX8_taken_38 rfl ?_
        refine x_iload_n dX8_taken_39 rfl ?_
        refine x_icmpN_eq (tgt := 51) dX8_taken_40 (by decide) (by omega) (by omega) (fun hv6 => ?_) (fun hv6 => ?_)
        · refine x_iload_n dX8_taken_51 rfl ?_
          refine x_iload_n dX8_taken_52 rfl ?_
          refine x_icmpN_ne (tgt := 65) dX8_taken_53 (by decide) (by omega) (by omega) (fun hv7 => ?_) (fun hv7 => ?_)
          · refine x_bipush (v := (-13)) dX8_taken_65 (by decide) ?_
            exact x_iret ⟨Nat.le_refl _, Nat.le_refl _⟩ rfl dX8_taken_67 ⟨by rw [takV, if_neg (by unfold undB; rw [decide_eq_true_iff]; omega)], rfl⟩
          · refine x_aload_n dX8_taken_56 rfl ?_
            refine x_rget f_X8_29 hR rfl dX8_taken_57 ?_
            refine x_iload_n dX8_taken_60 rfl ?_
            refine x_rald (j := 4) (n := g) hR rfl (by decide) rfl rfl (rlt hR (m := 7) (by decide) rfl (by omega)) dX8_taken_61 ?_
            refine x_topi (y := nI ((N.getD g 0))) (rgN cN) ?_
            refine x_goto (tgt := 67) dX8_taken_62 (by decide) ?_
            exact x_iret ⟨Nat.le_refl _, Nat.le_refl _⟩ rfl dX8_taken_67 ⟨by rw [takV, if_pos (by unfold undB; rw [decide_eq_true_iff]; omega)], rfl⟩
        · refine x_iload_n dX8_taken_43 rfl ?_
          refine x_callS m_X8_over l_X8_412 ((r_over (k := 4) (by decide)).mono (fun r9 σ' h => (⟨h.1, h.2⟩ : r9 = some (.int (nI 2)) ∧ σ' = σ))) (by omega) rfl rfl (Nat.le_of_ble_eq_true rfl) ⟨Nat.le_refl _, Nat.le_refl _⟩ dX8_taken_44 (fun r8 s8 q8 => ?_)
          obtain ⟨rfl, eq8⟩ := q8
          obtain rfl := eq8.symm
          refine x_stk (st' := [.int (nI 2)]) rfl ?_
          refine x_istore_n dX8_taken_47 (by decide) rfl ?_
          refine x_lv (lv' := [some (.ref 1000), some (.int (nI g)), some (.int (nI k)), some (.int (nI 2))]) rfl ?_
          refine x_goto (tgt := 33) dX8_taken_48 (by decide) ?_
          refine x_iload_n dX8_taken_33 rfl ?_
          refine x_iconst (v := (-1)) dX8_taken_34 (by decide) ?_
          refine x_icmpT_eq (p := ((2 : Nat) : Int)) (q := (-1)) (tgt := 51) (nI_toInt (by omega)) (by decide) dX8_taken_35 (by decide) (fun hv9 => ?_) (fun hv9 => ?_)
          · exact absurd hv9 (by decide)
          · refine x_iload_n dX8_taken_38 rfl ?_
            refine x_iload_n dX8_taken_39 rfl ?_
            refine x_icmpN_eq (tgt := 51) dX8_taken_40 (by decide) (by omega) (by omega) (fun hv10 => ?_) (fun hv10 => ?_)
            · refine x_iload_n dX8_taken_51 rfl ?_
              refine x_iload_n dX8_taken_52 rfl ?_
              refine x_icmpN_ne (tgt := 65) dX8_taken_53 (by decide) (by omega) (by omega) (fun hv11 => ?_) (fun hv11 => ?_)
              · refine x_bipush (v := (-13)) dX8_taken_65 (by decide) ?_
                exact x_iret ⟨Nat.le_refl _, Nat.le_refl _⟩ rfl dX8_taken_67 ⟨by rw [takV, if_neg (by unfold undB; rw [decide_eq_true_iff]; omega)], rfl⟩
              · refine x_aload_n dX8_taken_56 rfl ?_
                refine x_rget f_X8_29 hR rfl dX8_taken_57 ?_
                refine x_iload_n dX8_taken_60 rfl ?_
                refine x_rald (j := 4) (n := g) hR rfl (by decide) rfl rfl (rlt hR (m := 7) (by decide) rfl (by omega)) dX8_taken_61 ?_
                refine x_topi (y := nI ((N.getD g 0))) (rgN cN) ?_
                refine x_goto (tgt := 67) dX8_taken_62 (by decide) ?_
                exact x_iret ⟨Nat.le_refl _, Nat.le_refl _⟩ rfl dX8_taken_67 ⟨by rw [takV, if_pos (by unfold undB; rw [decide_eq_true_iff]; omega)], rfl⟩
            · refine x_iload_n dX8_taken_43 rfl ?_
              refine x_callS m_X8_over l_X8_412 ((r_over (k := 2) (by decide)).mono (fun r9 σ' h => (⟨h.1, h.2⟩ : r9 = some (.int (nI 0)) ∧ σ' = σ))) (by omega) rfl rfl (Nat.le_of_ble_eq_true rfl) ⟨Nat.le_refl _, Nat.le_refl _⟩ dX8_taken_44 (fun r12 s12 q12 => ?_)
              obtain ⟨rfl, eq12⟩ := q12
              obtain rfl := eq12.symm
              refine x_stk (st' := [.int (nI 0)]) rfl ?_
              refine x_istore_n dX8_taken_47 (by decide) rfl ?_
              refine x_lv (lv' := [some (.ref 1000), some (.int (nI g)), some (.int (nI k)), some (.int (nI 0))]) rfl ?_
              refine x_goto (tgt := 33) dX8_taken_48 (by decide) ?_
              refine x_iload_n dX8_taken_33 rfl ?_
              refine x_iconst (v := (-1)) dX8_taken_34 (by decide) ?_
              refine x_icmpT_eq (p := ((0 : Nat) : Int)) (q := (-1)) (tgt := 51) (nI_toInt (by omega)) (by decide) dX8_taken_35 (by decide) (fun hv13 => ?_) (fun hv13 => ?_)
              · exact absurd hv13 (by decide)
              · refine x_iload_n dX8_taken_38 rfl ?_
                refine x_iload_n dX8_taken_39 rfl ?_
                refine x_icmpN_eq (tgt := 51) dX8_taken_40 (by decide) (by omega) (by omega) (fun hv14 => ?_) (fun hv14 => ?_)
                · refine x_iload_n dX8_taken_51 rfl ?_
                  refine x_iload_n dX8_taken_52 rfl ?_
                  refine x_icmpN_ne (tgt := 65) dX8_taken_53 (by decide) (by omega) (by omega) (fun hv15 => ?_) (fun hv15 => ?_)
                  · refine x_bipush (v := (-13)) dX8_taken_65 (by decide) ?_
                    exact x_iret ⟨Nat.le_refl _, Nat.le_refl _⟩ rfl dX8_taken_67 ⟨by rw [takV, if_neg (by unfold undB; rw [decide_eq_true_iff]; omega)], rfl⟩
                  · refine x_aload_n dX8_taken_56 rfl ?_
                    refine x_rget f_X8_29 hR rfl dX8_taken_57 ?_
                    refine x_iload_n dX8_taken_60 rfl ?_
                    refine x_rald (j := 4) (n := g) hR rfl (by decide) rfl rfl (rlt hR (m := 7) (by decide) rfl (by omega)) dX8_taken_61 ?_
                    refine x_topi (y := nI ((N.getD g 0))) (rgN cN) ?_
                    refine x_goto (tgt := 67) dX8_taken_62 (by decide) ?_
                    exact x_iret ⟨Nat.le_refl _, Nat.le_refl _⟩ rfl dX8_taken_67 ⟨by rw [takV, if_pos (by unfold undB; rw [decide_eq_true_iff]; omega)], rfl⟩
                · refine x_iload_n dX8_taken_43 rfl ?_
                  refine x_callS m_X8_over l_X8_412 ((r_over (k := 0) (by decide)).mono (fun r9 σ' h => (⟨h.1, h.2⟩ : r9 = some (.int ((-1))) ∧ σ' = σ))) (by omega) rfl rfl (Nat.le_of_ble_eq_true rfl) ⟨Nat.le_refl _, Nat.le_refl _⟩ dX8_taken_44 (fun r16 s16 q16 => ?_)
                  obtain ⟨rfl, eq16⟩ := q16
                  obtain rfl := eq16.symm
                  refine x_stk (st' := [.int ((-1))]) rfl ?_
                  refine x_istore_n dX8_taken_47 (by decide) rfl ?_
                  refine x_lv (lv' := [some (.ref 1000), some (.int (nI g)), some (.int (nI k)), some (.int ((-1)))]) rfl ?_
                  refine x_goto (tgt := 33) dX8_taken_48 (by decide) ?_
                  refine x_iload_n dX8_taken_33 rfl ?_
                  refine x_iconst (v := (-1)) dX8_taken_34 (by decide) ?_
                  refine x_icmpT_eq (p := (-1)) (q := (-1)) (tgt := 51) (by decide) (by decide) dX8_taken_35 (by decide) (fun hv17 => ?_) (fun hv17 => ?_)
                  · refine x_iload_n dX8_taken_51 rfl ?_
                    refine x_iload_n dX8_taken_52 rfl ?_
                    refine x_icmpT_ne (p := (-1)) (q := ((k : Nat) : Int)) (tgt := 65) (by decide) (nI_toInt (by omega)) dX8_taken_53 (by decide) (fun hv18 => ?_) (fun hv18 => ?_)
                    · refine x_bipush (v := (-13)) dX8_taken_65 (by decide) ?_
                      exact x_iret ⟨Nat.le_refl _, Nat.le_refl _⟩ rfl dX8_taken_67 ⟨by rw [takV, if_neg (by unfold undB; rw [decide_eq_true_iff]; omega)], rfl⟩
                    · refine x_aload_n dX8_taken_56 rfl ?_
                      refine x_rget f_X8_29 hR rfl dX8_taken_57 ?_
                      refine x_iload_n dX8_taken_60 rfl ?_
                      refine x_rald (j := 4) (n := g) hR rfl (by decide) rfl rfl (rlt hR (m := 7) (by decide) rfl (by omega)) dX8_taken_61 ?_
                      refine x_topi (y := nI ((N.getD g 0))) (rgN cN) ?_
                      refine x_goto (tgt := 67) dX8_taken_62 (by decide) ?_
                      exact x_iret ⟨Nat.le_refl _, Nat.le_refl _⟩ rfl dX8_taken_67 ⟨by rw [takV, if_pos (by unfold undB; rw [decide_eq_true_iff]; omega)], rfl⟩
                  · exact absurd rfl hv17
    · exact absurd (by omega) hv4
  · exact absurd (by omega) hv2
set_option maxHeartbeats 4000000 in
theorem r_taken5 {σ0 σ : ZS} {a : Nat → Int32} {tw : Int64} {b : Nat → List Int32} {rr n : Nat} {K N : List Nat} {W : List Int32} {D : List Nat} (hR : RM σ0 σ a tw b) (hC : RC a b rr n K N W D (-1)) {g k : Nat} (hg : g < n) (hk : k ≤ 5) (hk9 : K.getD g 0 = 5) : Cn 3 M_X8_taken 0 0 [.ref 1000, .int (nI g), .int (nI k)] σ (fun r9 σ' => r9 = some (.int (takV N 5 k g)) ∧ σ' = σ) := by
  obtain ⟨c7, hrr, c13, hn7, c14, cK, cN, cW, cD, hN7, hW7, hD49, hK5, hN9, hD999⟩ := id hC
  refine Cn.intro (lv0 := [some (.ref 1000), some (.int (nI g)), some (.int (nI k)), none]) rfl (Nat.le_of_ble_eq_true rfl) rfl (fun d hd => ?_)
  refine x_iload_n dX8_taken_0 rfl ?_
  refine x_i2l dX8_taken_1 ?_
  refine x_lconst (v := 0) dX8_taken_2 (by decide) ?_
  refine x_ldc2 (v := (5)) cl_X8_114 dX8_taken_3 ?_
  refine x_callS m_X8_in l_X8_85 (r_in (p := ((k : Nat) : Int)) (q := 0) (r := (5)) (tL (nI_toInt (by omega))) (by decide) (by decide)) (by omega) rfl rfl (Nat.le_of_ble_eq_true rfl) ⟨Nat.le_refl _, Nat.le_refl _⟩ dX8_taken_6 (fun r1 s1 q1 => ?_)
  obtain ⟨rfl, eq1⟩ := q1
  obtain rfl := eq1.symm
  refine x_stk (st' := [.int (bI (decide (0 ≤ ((k : Nat) : Int) ∧ ((k : Nat) : Int) ≤ (5))))]) rfl ?_
  refine x_ifP_ne (P := 0 ≤ ((k : Nat) : Int) ∧ ((k : Nat) : Int) ≤ (5)) inferInstance (tgt := 15) dX8_taken_9 (by decide) (fun hv2 => ?_) (fun hv2 => ?_)
  · refine x_aload_n dX8_taken_15 rfl ?_
    refine x_iload_n dX8_taken_16 rfl ?_
    refine x_callV m_X8_isOne l_X8_89 (r_isOne hR hC (nI_toInt (by omega))) rfl hR.2.1 (by omega) rfl rfl (Nat.le_of_ble_eq_true rfl) ⟨Nat.le_refl _, Nat.le_refl _⟩ dX8_taken_17 (fun r3 s3 q3 => ?_)
    obtain ⟨rfl, eq3⟩ := q3
    obtain rfl := eq3.symm
    refine x_stk (st' := [.int (bI (decide (0 ≤ ((g : Nat) : Int) ∧ ((g : Nat) : Int) < ((n : Nat) : Int))))]) rfl ?_
    refine x_ifP_ne (P := 0 ≤ ((g : Nat) : Int) ∧ ((g : Nat) : Int) < ((n : Nat) : Int)) inferInstance (tgt := 26) dX8_taken_20 (by decide) (fun hv4 => ?_) (fun hv4 => ?_)
    · refine x_aload_n dX8_taken_26 rfl ?_
      refine x_rget f_X8_26 hR rfl dX8_taken_27 ?_
      refine x_iload_n dX8_taken_30 rfl ?_
      refine x_rald (j := 3) (n := g) hR rfl (by decide) rfl rfl (rlt hR (m := 7) (by decide) rfl (by omega)) dX8_taken_31 ?_
      refine x_topi (y := nI 5) ((cK _ (by omega)).trans (by rw [hk9])) ?_
      refine x_istore_n dX8_taken_32 (by decide) rfl ?_
      refine x_lv (lv' := [some (.ref 1000), some (.int (nI g)), some (.int (nI k)), some (.int (nI 5))]) rfl ?_
      refine x_iload_n dX8_taken_33 rfl ?_
      refine x_iconst (v := (-1)) dX8_taken_34 (by decide) ?_
      refine x_icmpT_eq (p := ((5 : Nat) : Int)) (q := (-1)) (tgt := 51) (nI_toInt (by omega)) (by decide) dX8_taken_35 (by decide) (fun hv5 => ?_) (fun hv5 => ?_)
      · exact absurd hv5 (by decide)
      · refine x_iload_n dX8_taken_38 rfl ?_
        refine x_iload_n dX8_taken_39 rfl ?_
        refine x_icmpN_eq (tgt := 51) dX8_taken_40 (by decide) (by omega) (by omega) (fun hv6 => ?_) (fun hv6 => ?_)
        · refine x_iload_n dX8_taken_51 rfl ?_
          refine x_iload_n dX8_taken_52 rfl ?_
          refine x_icmpN_ne (tgt := 65) dX8_taken_53 (by decide) (by omega) (by omega) (fun hv7 => ?_) (fun hv7 => ?_)
          · refine x_bipush (v := (-13)) dX8_taken_65 (by decide) ?_
            exact x_iret ⟨Nat.le_refl _, Nat.le_refl _⟩ rfl dX8_taken_67 ⟨by rw [takV, if_neg (by unfold undB; rw [decide_eq_true_iff]; omega)], rfl⟩
          · refine x_aload_n dX8_taken_56 rfl ?_
            refine x_rget f_X8_29 hR rfl dX8_taken_57 ?_
            refine x_iload_n dX8_taken_60 rfl ?_
            refine x_rald (j := 4) (n := g) hR rfl (by decide) rfl rfl (rlt hR (m := 7) (by decide) rfl (by omega)) dX8_taken_61 ?_
            refine x_topi (y := nI ((N.getD g 0))) (rgN cN) ?_
            refine x_goto (tgt := 67) dX8_taken_62 (by decide) ?_
            exact x_iret ⟨Nat.le_refl _, Nat.le_refl _⟩ rfl dX8_taken_67 ⟨by rw [takV, if_pos (by unfold undB; rw [decide_eq_true_iff]; omega)], rfl⟩
        · refine x_iload_n dX8_taken_43 rfl ?_
          refine x_callS m_X8_over l_X8_412 ((r_over (k := 5) (by decide)).mono (fun r9 σ' h => (⟨h.1, h.2⟩ : r9 = some (.int (nI 0)) ∧ σ' = σ))) (by omega) rfl rfl (Nat.le_of_ble_eq_true rfl) ⟨Nat.le_refl _, Nat.le_refl _⟩ dX8_taken_44 (fun r8 s8 q8 => ?_)
          obtain ⟨rfl, eq8⟩ := q8
          obtain rfl := eq8.symm
          refine x_stk (st' := [.int (nI 0)]) rfl ?_
          refine x_istore_n dX8_taken_47 (by decide) rfl ?_
          refine x_lv (lv' := [some (.ref 1000), some (.int (nI g)), some (.int (nI k)), some (.int (nI 0))]) rfl ?_
          refine x_goto (tgt := 33) dX8_taken_48 (by decide) ?_
          refine x_iload_n dX8_taken_33 rfl ?_
          refine x_iconst (v := (-1)) dX8_taken_34 (by decide) ?_
          refine x_icmpT_eq (p := ((0 : Nat) : Int)) (q := (-1)) (tgt := 51) (nI_toInt (by omega)) (by decide) dX8_taken_35 (by decide) (fun hv9 => ?_) (fun hv9 => ?_)
          · exact absurd hv9 (by decide)
          · refine x_iload_n dX8_taken_38 rfl ?_
            refine x_iload_n dX8_taken_39 rfl ?_
            refine x_icmpN_eq (tgt := 51) dX8_taken_40 (by decide) (by omega) (by omega) (fun hv10 => ?_) (fun hv10 => ?_)
            · refine x_iload_n dX8_taken_51 rfl ?_
              refine x_iload_n dX8_taken_52 rfl ?_
              refine x_icmpN_ne (tgt := 65) dX8_taken_53 (by decide) (by omega) (by omega) (fun hv11 => ?_) (fun hv11 => ?_)
              · refine x_bipush (v := (-13)) dX8_taken_65 (by decide) ?_
                exact x_iret ⟨Nat.le_refl _, Nat.le_refl _⟩ rfl dX8_taken_67 ⟨by rw [takV, if_neg (by unfold undB; rw [decide_eq_true_iff]; omega)], rfl⟩
              · refine x_aload_n dX8_taken_56 rfl ?_
                refine x_rget f_X8_29 hR rfl dX8_taken_57 ?_
                refine x_iload_n dX8_taken_60 rfl ?_
                refine x_rald (j := 4) (n := g) hR rfl (by decide) rfl rfl (rlt hR (m := 7) (by decide) rfl (by omega)) dX8_taken_61 ?_
                refine x_topi (y := nI ((N.getD g 0))) (rgN cN) ?_
                refine x_goto (tgt := 67) dX8_taken_62 (by decide) ?_
                exact x_iret ⟨Nat.le_refl _, Nat.le_refl _⟩ rfl dX8_taken_67 ⟨by rw [takV, if_pos (by unfold undB; rw [decide_eq_true_iff]; omega)], rfl⟩
            · refine x_iload_n dX8_taken_43 rfl ?_
              refine x_callS m_X8_over l_X8_412 ((r_over (k := 0) (by decide)).mono (fun r9 σ' h => (⟨h.1, h.2⟩ : r9 = some (.int ((-1))) ∧ σ' = σ))) (by omega) rfl rfl (Nat.le_of_ble_eq_true rfl) ⟨Nat.le_refl _, Nat.le_refl _⟩ dX8_taken_44 (fun r12 s12 q12 => ?_)
              obtain ⟨rfl, eq12⟩ := q12
              obtain rfl := eq12.symm
              refine x_stk (st' := [.int ((-1))]) rfl ?_
              refine x_istore_n dX8_taken_47 (by decide) rfl ?_
              refine x_lv (lv' := [some (.ref 1000), some (.int (nI g)), some (.int (nI k)), some (.int ((-1)))]) rfl ?_
              refine x_goto (tgt := 33) dX8_taken_48 (by decide) ?_
              refine x_iload_n dX8_taken_33 rfl ?_
              refine x_iconst (v := (-1)) dX8_taken_34 (by decide) ?_
              refine x_icmpT_eq (p := (-1)) (q := (-1)) (tgt := 51) (by decide) (by decide) dX8_taken_35 (by decide) (fun hv13 => ?_) (fun hv13 => ?_)
              · refine x_iload_n dX8_taken_51 rfl ?_
                refine x_iload_n dX8_taken_52 rfl ?_
                refine x_icmpT_ne (p := (-1)) (q := ((k : Nat) : Int)) (tgt := 65) (by decide) (nI_toInt (by omega)) dX8_taken_53 (by decide) (fun hv14 => ?_) (fun hv14 => ?_)
                · refine x_bipush (v := (-13)) dX8_taken_65 (by decide) ?_
                  exact x_iret ⟨Nat.le_refl _, Nat.le_refl _⟩ rfl dX8_taken_67 ⟨by rw [takV, if_neg (by unfold undB; rw [decide_eq_true_iff]; omega)], rfl⟩
                · refine x_aload_n dX8_taken_56 rfl ?_
                  refine x_rget f_X8_29 hR rfl dX8_taken_57 ?_
                  refine x_iload_n dX8_taken_60 rfl ?_
                  refine x_rald (j := 4) (n := g) hR rfl (by decide) rfl rfl (rlt hR (m := 7) (by decide) rfl (by omega)) dX8_taken_61 ?_
                  refine x_topi (y := nI ((N.getD g 0))) (rgN cN) ?_
                  refine x_goto (tgt := 67) dX8_taken_62 (by decide) ?_
                  exact x_iret ⟨Nat.le_refl _, Nat.le_refl _⟩ rfl dX8_taken_67 ⟨by rw [takV, if_pos (by unfold undB; rw [decide_eq_true_iff]; omega)], rfl⟩
              · exact absurd rfl hv13
    · exact absurd (by omega) hv4
  · exact absurd (by omega) hv2
set_option maxHeartbeats 4000000 in
theorem r_taken_b1 {σ0 σ : ZS} {a : Nat → Int32} {tw : Int64} {b : Nat → List Int32} {rr n : Nat} {K N : List Nat} {W : List Int32} {D : List Nat} (hR : RM σ0 σ a tw b) (hC : RC a b rr n K N W D (-1)) {x y : Int32} (hy : ¬ (0 ≤ y.toInt ∧ y.toInt ≤ 5)) : Cn 3 M_X8_taken 0 0 [.ref 1000, .int x, .int y] σ (fun r9 σ' => r9 = some (.int (-2)) ∧ σ' = σ) := by
  obtain ⟨c7, hrr, c13, hn7, c14, cK, cN, cW, cD, hN7, hW7, hD49, hK5, hN9, hD999⟩ := id hC
  refine Cn.intro (lv0 := [some (.ref 1000), some (.int x), some (.int y), none]) rfl (Nat.le_of_ble_eq_true rfl) rfl (fun d hd => ?_)
  refine x_iload_n dX8_taken_0 rfl ?_
  refine x_i2l dX8_taken_1 ?_
  refine x_lconst (v := 0) dX8_taken_2 (by decide) ?_
  refine x_ldc2 (v := (5)) cl_X8_114 dX8_taken_3 ?_
  refine x_callS m_X8_in l_X8_85 (r_in (p := y.toInt) (q := 0) (r := (5)) (tL rfl) (by decide) (by decide)) (by omega) rfl rfl (Nat.le_of_ble_eq_true rfl) ⟨Nat.le_refl _, Nat.le_refl _⟩ dX8_taken_6 (fun r1 s1 q1 => ?_)
  obtain ⟨rfl, eq1⟩ := q1
  obtain rfl := eq1.symm
  refine x_stk (st' := [.int (bI (decide (0 ≤ y.toInt ∧ y.toInt ≤ (5))))]) rfl ?_
  refine x_ifP_ne (P := 0 ≤ y.toInt ∧ y.toInt ≤ (5)) inferInstance (tgt := 15) dX8_taken_9 (by decide) (fun hv2 => ?_) (fun hv2 => ?_)
  · exact absurd hv2 hy
  · refine x_bipush (v := (-2)) dX8_taken_12 (by decide) ?_
    exact x_iret ⟨Nat.le_refl _, Nat.le_refl _⟩ rfl dX8_taken_14 ⟨rfl, rfl⟩
set_option maxHeartbeats 4000000 in
theorem r_taken_b2 {σ0 σ : ZS} {a : Nat → Int32} {tw : Int64} {b : Nat → List Int32} {rr n : Nat} {K N : List Nat} {W : List Int32} {D : List Nat} (hR : RM σ0 σ a tw b) (hC : RC a b rr n K N W D (-1)) {x y : Int32} (hy : 0 ≤ y.toInt ∧ y.toInt ≤ 5) (hx : ¬ (0 ≤ x.toInt ∧ x.toInt < (n : Int))) : Cn 3 M_X8_taken 0 0 [.ref 1000, .int x, .int y] σ (fun r9 σ' => r9 = some (.int (-11)) ∧ σ' = σ) := by
  obtain ⟨c7, hrr, c13, hn7, c14, cK, cN, cW, cD, hN7, hW7, hD49, hK5, hN9, hD999⟩ := id hC
  refine Cn.intro (lv0 := [some (.ref 1000), some (.int x), some (.int y), none]) rfl (Nat.le_of_ble_eq_true rfl) rfl (fun d hd => ?_)
  refine x_iload_n dX8_taken_0 rfl ?_
  refine x_i2l dX8_taken_1 ?_
  refine x_lconst (v := 0) dX8_taken_2 (by decide) ?_
  refine x_ldc2 (v := (5)) cl_X8_114 dX8_taken_3 ?_
  refine x_callS m_X8_in l_X8_85 (r_in (p := y.toInt) (q := 0) (r := (5)) (tL rfl) (by decide) (by decide)) (by omega) rfl rfl (Nat.le_of_ble_eq_true rfl) ⟨Nat.le_refl _, Nat.le_refl _⟩ dX8_taken_6 (fun r1 s1 q1 => ?_)
  obtain ⟨rfl, eq1⟩ := q1
  obtain rfl := eq1.symm
  refine x_stk (st' := [.int (bI (decide (0 ≤ y.toInt ∧ y.toInt ≤ (5))))]) rfl ?_
  refine x_ifP_ne (P := 0 ≤ y.toInt ∧ y.toInt ≤ (5)) inferInstance (tgt := 15) dX8_taken_9 (by decide) (fun hv2 => ?_) (fun hv2 => ?_)
  · refine x_aload_n dX8_taken_15 rfl ?_
    refine x_iload_n dX8_taken_16 rfl ?_
    refine x_callV m_X8_isOne l_X8_89 (r_isOne hR hC rfl) rfl hR.2.1 (by omega) rfl rfl (Nat.le_of_ble_eq_true rfl) ⟨Nat.le_refl _, Nat.le_refl _⟩ dX8_taken_17 (fun r3 s3 q3 => ?_)
    obtain ⟨rfl, eq3⟩ := q3
    obtain rfl := eq3.symm
    refine x_stk (st' := [.int (bI (decide (0 ≤ x.toInt ∧ x.toInt < ((n : Nat) : Int))))]) rfl ?_
    refine x_ifP_ne (P := 0 ≤ x.toInt ∧ x.toInt < ((n : Nat) : Int)) inferInstance (tgt := 26) dX8_taken_20 (by decide) (fun hv4 => ?_) (fun hv4 => ?_)
    · exact absurd hv4 hx
    · refine x_bipush (v := (-11)) dX8_taken_23 (by decide) ?_
      exact x_iret ⟨Nat.le_refl _, Nat.le_refl _⟩ rfl dX8_taken_25 ⟨rfl, rfl⟩
  · exact absurd hy hv2
theorem zcpy_at {a b : List Int32} {sp dp n j : Nat} (hj : j < b.length) : (zcpy a b sp dp n).getD j 0 = if dp ≤ j ∧ j < dp + n then a.getD (sp + (j - dp)) 0 else b.getD j 0 := by
  rw [zcpy, List.getD_eq_getElem?_getD, List.getElem?_map, List.getElem?_range hj]
  rfl
set_option maxHeartbeats 4000000 in
theorem lr_copyu {σ0 : ZS} {a : Nat → Int32} {tw : Int64} {b : Nat → List Int32} {sh : Nat → SH} (hS : RSH b sh) (hG : SHG sh) {i : Nat} (hi4 : i < 4) {i2 : Nat} (hi42 : i2 < 4) (hne : ¬ (sh i).1 = -1) (hne2 : ¬ (sh i2).1 = -1) {u v z : Nat} (hu : u + z ≤ (sh i).2.1) (hv : v + z ≤ (sh i2).2.1) (hc : i = i2 ∧ u < v) {d : Nat} (hd : 0 ≤ d) : ∀ (q0 k : Nat) (b1 : Nat → List Int32) (σ : ZS) (hR : RM σ0 σ a tw b1) (hB : Fb 16 b b1) (hD1 : ∀ q, q < z → z - k ≤ q → (b1 16).getD (i2 * 40 + v + q) 0 = (b 16).getD (i * 40 + u + q) 0) (hD2 : ∀ p, (∀ q, q < z → z - k ≤ q → p ≠ i2 * 40 + v + q) → (b1 16).getD p 0 = (b 16).getD p 0), k + q0 = z → X M_X8_copy d 0 0 (fun r9 σ' => r9 = some (.int (nI z)) ∧ ∃ b' : Nat → List Int32, RM σ0 σ' a tw b' ∧ Fb 16 b b' ∧ RSH b' (up sh i2 ((sh i2).1, (sh i2).2.1, zcpy (sh i).2.2 (sh i2).2.2 u v z))) 0 0 121 [some (.ref 1000), some (.int (nI i)), some (.int (nI u)), some (.int (nI i2)), some (.int (nI v)), some (.int (nI z)), some (.int (nI 1)), some (.int (nI k)), none] [] σ := by
  have hz40 := (hG i hi4).2.1
  have hz402 := (hG i2 hi42).2.1
  intro q0
  induction q0 with
  | zero =>
    intro k b1 σ hR hB hD1 hD2 hk
    refine x_iload dX8_copy_121 rfl ?_
    refine x_iload dX8_copy_123 rfl ?_
    refine x_icmpN_ge (tgt := 182) dX8_copy_125 (by decide) (by omega) (by omega) (fun hv1 => ?_) (fun hv1 => ?_)
    · refine x_iload dX8_copy_182 rfl ?_
      exact x_iret ⟨Nat.le_refl _, Nat.le_refl _⟩ rfl dX8_copy_184 ⟨rfl, b1, hR, hB, hS.row hG hi42 (hB 13 (by decide)) (hB 14 (by decide)) (hB 15 (by decide)) (fun p hp => hD2 p (fun q h1 h2 => by omega)) (fun _ j hj => by
  rw [zcpy_at (by rw [(hG i2 hi42).2.2]; omega)]
  by_cases e : v ≤ j ∧ j < v + z
  · rw [if_pos e]
    have h1 := hD1 (j - v) (by omega) (by omega)
    have h2 := ((hS i hi4).2 hne).2.2 (u + (j - v)) (by omega)
    rw [show i2 * 40 + j = i2 * 40 + v + (j - v) by omega, h1, ← h2]
    congr 1
    omega
  · rw [if_neg e, hD2 _ (fun q h1 h2 => by omega)]
    exact ((hS i2 hi42).2 hne2).2.2 j hj)⟩
    · exact absurd hv1 (by omega)
  | succ q0 ih =>
    intro k b1 σ hR hB hD1 hD2 hk
    refine x_iload dX8_copy_121 rfl ?_
    refine x_iload dX8_copy_123 rfl ?_
    refine x_icmpN_ge (tgt := 182) dX8_copy_125 (by decide) (by omega) (by omega) (fun hv1 => ?_) (fun hv1 => ?_)
    · exact absurd hv1 (by omega)
    · refine x_iload dX8_copy_128 rfl ?_
      refine x_ifN_eq (tgt := 143) dX8_copy_130 (by decide) (by omega) (fun hv2 => ?_) (fun hv2 => ?_)
      · exact absurd hv2 (by decide)
      · refine x_iload dX8_copy_133 rfl ?_
        refine x_iconst (v := nI 1) dX8_copy_135 (by decide) ?_
        refine x_isubN (by omega) dX8_copy_136 ?_
        refine x_iload dX8_copy_137 rfl ?_
        refine x_isubN (by omega) dX8_copy_139 ?_
        refine x_goto (tgt := 145) dX8_copy_140 (by decide) ?_
        refine x_istore dX8_copy_145 (by decide) rfl ?_
        refine x_lv (lv' := [some (.ref 1000), some (.int (nI i)), some (.int (nI u)), some (.int (nI i2)), some (.int (nI v)), some (.int (nI z)), some (.int (nI 1)), some (.int (nI k)), some (.int (nI ((z - 1) - k)))]) rfl ?_
        refine x_aload_n dX8_copy_147 rfl ?_
        refine x_rget f_X8_72 hR rfl dX8_copy_148 ?_
        refine x_bipush (v := nI 40) dX8_copy_151 (by decide) ?_
        refine x_iload_n dX8_copy_153 rfl ?_
        refine x_imulN dX8_copy_154 ?_
        refine x_topi (y := nI (i2 * 40)) (by rw [Nat.mul_comm]) ?_
        refine x_iload dX8_copy_155 rfl ?_
        refine x_iaddN dX8_copy_157 ?_
        refine x_iload dX8_copy_158 rfl ?_
        refine x_iaddN dX8_copy_160 ?_
        refine x_aload_n dX8_copy_161 rfl ?_
        refine x_rget f_X8_72 hR rfl dX8_copy_162 ?_
        refine x_bipush (v := nI 40) dX8_copy_165 (by decide) ?_
        refine x_iload_n dX8_copy_167 rfl ?_
        refine x_imulN dX8_copy_168 ?_
        refine x_topi (y := nI (i * 40)) (by rw [Nat.mul_comm]) ?_
        refine x_iload_n dX8_copy_169 rfl ?_
        refine x_iaddN dX8_copy_170 ?_
        refine x_iload dX8_copy_171 rfl ?_
        refine x_iaddN dX8_copy_173 ?_
        refine x_rald (j := 16) (n := ((i * 40) + u) + ((z - 1) - k)) hR rfl (by decide) rfl rfl (rlt hR (m := 160) (by decide) rfl (by omega)) dX8_copy_174 ?_
        refine x_rast (j := 16) (n := ((i2 * 40) + v) + ((z - 1) - k)) hR rfl (by decide) rfl rfl (rlt hR (m := 160) (by decide) rfl (by omega)) dX8_copy_175 (fun sw3 Rw3 => ?_)
        refine x_iincN dX8_copy_176 rfl (by decide) rfl ?_
        refine x_lv (lv' := [some (.ref 1000), some (.int (nI i)), some (.int (nI u)), some (.int (nI i2)), some (.int (nI v)), some (.int (nI z)), some (.int (nI 1)), some (.int (nI (k + 1))), some (.int (nI ((z - 1) - k)))]) rfl ?_
        refine x_goto (tgt := 121) dX8_copy_179 (by decide) ?_
        refine x_drop 8 ?_
        refine ih (k + 1) (up b1 16 ((b1 16).set (((i2 * 40) + v) + ((z - 1) - k)) (((b1 16).getD (((i * 40) + u) + ((z - 1) - k)) 0)))) sw3 Rw3 (hB.tr Fb.ups) (fun q hq hdn => ?_) (fun p hp => ?_) (by omega)
        · rw [up_eq, gset (rlt hR (m := 160) (by decide) rfl (by omega))]
          by_cases e : q = (z - 1 - k)
          · rw [if_pos (by omega), hD2 _ (fun q' h1 h2 => by omega), e]
          · rw [if_neg (by omega)]; exact hD1 q hq (by omega)
        · rw [up_eq, gset (rlt hR (m := 160) (by decide) rfl (by omega)), if_neg (by have := hp (z - 1 - k) (by omega) (by omega); omega)]
          exact hD2 p (fun q h1 h2 => hp q h1 (by omega))
set_option maxHeartbeats 4000000 in
theorem lr_copyd {σ0 : ZS} {a : Nat → Int32} {tw : Int64} {b : Nat → List Int32} {sh : Nat → SH} (hS : RSH b sh) (hG : SHG sh) {i : Nat} (hi4 : i < 4) {i2 : Nat} (hi42 : i2 < 4) (hne : ¬ (sh i).1 = -1) (hne2 : ¬ (sh i2).1 = -1) {u v z : Nat} (hu : u + z ≤ (sh i).2.1) (hv : v + z ≤ (sh i2).2.1) (hc : ¬ (i = i2 ∧ u < v)) {d : Nat} (hd : 0 ≤ d) : ∀ (q0 k : Nat) (b1 : Nat → List Int32) (σ : ZS) (hR : RM σ0 σ a tw b1) (hB : Fb 16 b b1) (hD1 : ∀ q, q < z → q < k → (b1 16).getD (i2 * 40 + v + q) 0 = (b 16).getD (i * 40 + u + q) 0) (hD2 : ∀ p, (∀ q, q < z → q < k → p ≠ i2 * 40 + v + q) → (b1 16).getD p 0 = (b 16).getD p 0), k + q0 = z → X M_X8_copy d 0 0 (fun r9 σ' => r9 = some (.int (nI z)) ∧ ∃ b' : Nat → List Int32, RM σ0 σ' a tw b' ∧ Fb 16 b b' ∧ RSH b' (up sh i2 ((sh i2).1, (sh i2).2.1, zcpy (sh i).2.2 (sh i2).2.2 u v z))) 0 0 121 [some (.ref 1000), some (.int (nI i)), some (.int (nI u)), some (.int (nI i2)), some (.int (nI v)), some (.int (nI z)), some (.int (nI 0)), some (.int (nI k)), none] [] σ := by
  have hz40 := (hG i hi4).2.1
  have hz402 := (hG i2 hi42).2.1
  intro q0
  induction q0 with
  | zero =>
    intro k b1 σ hR hB hD1 hD2 hk
    refine x_iload dX8_copy_121 rfl ?_
    refine x_iload dX8_copy_123 rfl ?_
    refine x_icmpN_ge (tgt := 182) dX8_copy_125 (by decide) (by omega) (by omega) (fun hv1 => ?_) (fun hv1 => ?_)
    · refine x_iload dX8_copy_182 rfl ?_
      exact x_iret ⟨Nat.le_refl _, Nat.le_refl _⟩ rfl dX8_copy_184 ⟨rfl, b1, hR, hB, hS.row hG hi42 (hB 13 (by decide)) (hB 14 (by decide)) (hB 15 (by decide)) (fun p hp => hD2 p (fun q h1 h2 => by omega)) (fun _ j hj => by
  rw [zcpy_at (by rw [(hG i2 hi42).2.2]; omega)]
  by_cases e : v ≤ j ∧ j < v + z
  · rw [if_pos e]
    have h1 := hD1 (j - v) (by omega) (by omega)
    have h2 := ((hS i hi4).2 hne).2.2 (u + (j - v)) (by omega)
    rw [show i2 * 40 + j = i2 * 40 + v + (j - v) by omega, h1, ← h2]
    congr 1
    omega
  · rw [if_neg e, hD2 _ (fun q h1 h2 => by omega)]
    exact ((hS i2 hi42).2 hne2).2.2 j hj)⟩
    · exact absurd hv1 (by omega)
  | succ q0 ih =>
    intro k b1 σ hR hB hD1 hD2 hk
    refine x_iload dX8_copy_121 rfl ?_
    refine x_iload dX8_copy_123 rfl ?_
    refine x_icmpN_ge (tgt := 182) dX8_copy_125 (by decide) (by omega) (by omega) (fun hv1 => ?_) (fun hv1 => ?_)
    · exact absurd hv1 (by omega)
    · refine x_iload dX8_copy_128 rfl ?_
      refine x_ifN_eq (tgt := 143) dX8_copy_130 (by decide) (by omega) (fun hv2 => ?_) (fun hv2 => ?_)
      · refine x_iload dX8_copy_143 rfl ?_
        refine x_istore dX8_copy_145 (by decide) rfl ?_
        refine x_lv (lv' := [some (.ref 1000), some (.int (nI i)), some (.int (nI u)), some (.int (nI i2)), some (.int (nI v)), some (.int (nI z)), some (.int (nI 0)), some (.int (nI k)), some (.int (nI k))]) rfl ?_
        refine x_aload_n dX8_copy_147 rfl ?_
        refine x_rget f_X8_72 hR rfl dX8_copy_148 ?_
        refine x_bipush (v := nI 40) dX8_copy_151 (by decide) ?_
        refine x_iload_n dX8_copy_153 rfl ?_
        refine x_imulN dX8_copy_154 ?_
        refine x_topi (y := nI (i2 * 40)) (by rw [Nat.mul_comm]) ?_
        refine x_iload dX8_copy_155 rfl ?_
        refine x_iaddN dX8_copy_157 ?_
        refine x_iload dX8_copy_158 rfl ?_
        refine x_iaddN dX8_copy_160 ?_
        refine x_aload_n dX8_copy_161 rfl ?_
        refine x_rget f_X8_72 hR rfl dX8_copy_162 ?_
        refine x_bipush (v := nI 40) dX8_copy_165 (by decide) ?_
        refine x_iload_n dX8_copy_167 rfl ?_
        refine x_imulN dX8_copy_168 ?_
        refine x_topi (y := nI (i * 40)) (by rw [Nat.mul_comm]) ?_
        refine x_iload_n dX8_copy_169 rfl ?_
        refine x_iaddN dX8_copy_170 ?_
        refine x_iload dX8_copy_171 rfl ?_
        refine x_iaddN dX8_copy_173 ?_
        refine x_rald (j := 16) (n := ((i * 40) + u) + k) hR rfl (by decide) rfl rfl (rlt hR (m := 160) (by decide) rfl (by omega)) dX8_copy_174 ?_
        refine x_rast (j := 16) (n := ((i2 * 40) + v) + k) hR rfl (by decide) rfl rfl (rlt hR (m := 160) (by decide) rfl (by omega)) dX8_copy_175 (fun sw3 Rw3 => ?_)
        refine x_iincN dX8_copy_176 rfl (by decide) rfl ?_
        refine x_lv (lv' := [some (.ref 1000), some (.int (nI i)), some (.int (nI u)), some (.int (nI i2)), some (.int (nI v)), some (.int (nI z)), some (.int (nI 0)), some (.int (nI (k + 1))), some (.int (nI k))]) rfl ?_
        refine x_goto (tgt := 121) dX8_copy_179 (by decide) ?_
        refine x_drop 8 ?_
        refine ih (k + 1) (up b1 16 ((b1 16).set (((i2 * 40) + v) + k) (((b1 16).getD (((i * 40) + u) + k) 0)))) sw3 Rw3 (hB.tr Fb.ups) (fun q hq hdn => ?_) (fun p hp => ?_) (by omega)
        · rw [up_eq, gset (rlt hR (m := 160) (by decide) rfl (by omega))]
          by_cases e : q = k
          · rw [if_pos (by omega), hD2 _ (fun q' h1 h2 => by omega), e]
          · rw [if_neg (by omega)]; exact hD1 q hq (by omega)
        · rw [up_eq, gset (rlt hR (m := 160) (by decide) rfl (by omega)), if_neg (by have := hp k (by omega) (by omega); omega)]
          exact hD2 p (fun q h1 h2 => hp q h1 (by omega))
      · exact absurd hv2 (by decide)
set_option maxHeartbeats 4000000 in
theorem r_copy {σ0 σ : ZS} {a : Nat → Int32} {tw : Int64} {b : Nat → List Int32} (hR : RM σ0 σ a tw b) {sh : Nat → SH} (hS : RSH b sh) (hG : SHG sh) {i : Nat} (hi4 : i < 4) {i2 : Nat} (hi42 : i2 < 4) (hne : ¬ (sh i).1 = -1) (hne2 : ¬ (sh i2).1 = -1) {u v z : Nat} (hu : u + z ≤ (sh i).2.1) (hv : v + z ≤ (sh i2).2.1) (hso : (sh i).1 = (sh i2).1) : Cn 3 M_X8_copy 0 0 [.ref 1000, .int (nI i), .int (nI u), .int (nI i2), .int (nI v), .int (nI z)] σ (fun r9 σ' => r9 = some (.int (nI z)) ∧ ∃ b' : Nat → List Int32, RM σ0 σ' a tw b' ∧ Fb 16 b b' ∧ RSH b' (up sh i2 ((sh i2).1, (sh i2).2.1, zcpy (sh i).2.2 (sh i2).2.2 u v z))) := by
  have hz40 := (hG i hi4).2.1
  have hz402 := (hG i2 hi42).2.1
  refine Cn.intro (lv0 := [some (.ref 1000), some (.int (nI i)), some (.int (nI u)), some (.int (nI i2)), some (.int (nI v)), some (.int (nI z)), none, none, none]) rfl (Nat.le_of_ble_eq_true rfl) rfl (fun d hd => ?_)
  refine x_iload_n dX8_copy_0 rfl ?_
  refine x_callS m_X8_isSheet l_X8_299 (r_isSheet (nI_toInt (by omega))) (by omega) rfl rfl (Nat.le_of_ble_eq_true rfl) ⟨Nat.le_refl _, Nat.le_refl _⟩ dX8_copy_1 (fun r1 s1 q1 => ?_)
  obtain ⟨rfl, eq1⟩ := q1
  obtain rfl := eq1.symm
  refine x_stk (st' := [.int (bI (decide (0 ≤ ((i : Nat) : Int) ∧ ((i : Nat) : Int) ≤ 3)))]) rfl ?_
  refine x_ifP_eq (P := 0 ≤ ((i : Nat) : Int) ∧ ((i : Nat) : Int) ≤ 3) inferInstance (tgt := 14) dX8_copy_4 (by decide) (fun hv2 => ?_) (fun hv2 => ?_)
  · exact absurd (by omega) hv2
  · refine x_iload_n dX8_copy_7 rfl ?_
    refine x_callS m_X8_isSheet l_X8_299 (r_isSheet (nI_toInt (by omega))) (by omega) rfl rfl (Nat.le_of_ble_eq_true rfl) ⟨Nat.le_refl _, Nat.le_refl _⟩ dX8_copy_8 (fun r3 s3 q3 => ?_)
    obtain ⟨rfl, eq3⟩ := q3
    obtain rfl := eq3.symm
    refine x_stk (st' := [.int (bI (decide (0 ≤ ((i2 : Nat) : Int) ∧ ((i2 : Nat) : Int) ≤ 3)))]) rfl ?_
    refine x_ifP_ne (P := 0 ≤ ((i2 : Nat) : Int) ∧ ((i2 : Nat) : Int) ≤ 3) inferInstance (tgt := 17) dX8_copy_11 (by decide) (fun hv4 => ?_) (fun hv4 => ?_)
    · refine x_aload_n dX8_copy_17 rfl ?_
      refine x_rget f_X8_62 hR rfl dX8_copy_18 ?_
      refine x_iload_n dX8_copy_21 rfl ?_
      refine x_rzld (j := 13) (n := i) hR rfl (by decide) rfl rfl (rlt hR (m := 4) (by decide) rfl (by omega)) dX8_copy_22 ?_
      refine x_topi (y := bI (decide (¬ (sh i).1 = -1))) (hS i (by omega)).1 ?_
      refine x_ifP_eq (P := ¬ (sh i).1 = -1) inferInstance (tgt := 35) dX8_copy_23 (by decide) (fun hv5 => ?_) (fun hv5 => ?_)
      · exact absurd hne hv5
      · refine x_aload_n dX8_copy_26 rfl ?_
        refine x_rget f_X8_62 hR rfl dX8_copy_27 ?_
        refine x_iload_n dX8_copy_30 rfl ?_
        refine x_rzld (j := 13) (n := i2) hR rfl (by decide) rfl rfl (rlt hR (m := 4) (by decide) rfl (by omega)) dX8_copy_31 ?_
        refine x_topi (y := bI (decide (¬ (sh i2).1 = -1))) (hS i2 (by omega)).1 ?_
        refine x_ifP_ne (P := ¬ (sh i2).1 = -1) inferInstance (tgt := 38) dX8_copy_32 (by decide) (fun hv6 => ?_) (fun hv6 => ?_)
        · refine x_aload_n dX8_copy_38 rfl ?_
          refine x_rget f_X8_66 hR rfl dX8_copy_39 ?_
          refine x_iload_n dX8_copy_42 rfl ?_
          refine x_rald (j := 14) (n := i) hR rfl (by decide) rfl rfl (rlt hR (m := 4) (by decide) rfl (by omega)) dX8_copy_43 ?_
          refine x_topi (y := (sh i).1) ((hS i (by omega)).2 (by assumption)).1 ?_
          refine x_aload_n dX8_copy_44 rfl ?_
          refine x_rget f_X8_66 hR rfl dX8_copy_45 ?_
          refine x_iload_n dX8_copy_48 rfl ?_
          refine x_rald (j := 14) (n := i2) hR rfl (by decide) rfl rfl (rlt hR (m := 4) (by decide) rfl (by omega)) dX8_copy_49 ?_
          refine x_topi (y := (sh i2).1) ((hS i2 (by omega)).2 (by assumption)).1 ?_
          refine x_icmpT_eq (p := ((sh i).1).toInt) (q := ((sh i2).1).toInt) (tgt := 56) rfl rfl dX8_copy_50 (by decide) (fun hv7 => ?_) (fun hv7 => ?_)
          · refine x_iload dX8_copy_56 rfl ?_
            refine x_ifN_lt (tgt := 97) dX8_copy_58 (by omega) ?_ (by decide)
            refine x_iload_n dX8_copy_61 rfl ?_
            refine x_ifN_lt (tgt := 97) dX8_copy_62 (by omega) ?_ (by decide)
            refine x_iload dX8_copy_65 rfl ?_
            refine x_ifN_lt (tgt := 97) dX8_copy_67 (by omega) ?_ (by decide)
            refine x_iload_n dX8_copy_70 rfl ?_
            refine x_aload_n dX8_copy_71 rfl ?_
            refine x_rget f_X8_69 hR rfl dX8_copy_72 ?_
            refine x_iload_n dX8_copy_75 rfl ?_
            refine x_rald (j := 15) (n := i) hR rfl (by decide) rfl rfl (rlt hR (m := 4) (by decide) rfl (by omega)) dX8_copy_76 ?_
            refine x_topi (y := nI ((sh i).2.1)) ((hS i (by omega)).2 (by assumption)).2.1 ?_
            refine x_iload dX8_copy_77 rfl ?_
            refine x_isubN (by omega) dX8_copy_79 ?_
            refine x_icmpN_gt (tgt := 97) dX8_copy_80 (by decide) (by omega) (by omega) (fun hv11 => ?_) (fun hv11 => ?_)
            · exact absurd hv11 (by omega)
            · refine x_iload dX8_copy_83 rfl ?_
              refine x_aload_n dX8_copy_85 rfl ?_
              refine x_rget f_X8_69 hR rfl dX8_copy_86 ?_
              refine x_iload_n dX8_copy_89 rfl ?_
              refine x_rald (j := 15) (n := i2) hR rfl (by decide) rfl rfl (rlt hR (m := 4) (by decide) rfl (by omega)) dX8_copy_90 ?_
              refine x_topi (y := nI ((sh i2).2.1)) ((hS i2 (by omega)).2 (by assumption)).2.1 ?_
              refine x_iload dX8_copy_91 rfl ?_
              refine x_isubN (by omega) dX8_copy_93 ?_
              refine x_icmpN_le (tgt := 100) dX8_copy_94 (by decide) (by omega) (by omega) (fun hv12 => ?_) (fun hv12 => ?_)
              · refine x_iload_n dX8_copy_100 rfl ?_
                refine x_iload_n dX8_copy_101 rfl ?_
                refine x_icmpN_ne (tgt := 115) dX8_copy_102 (by decide) (by omega) (by omega) (fun hv13 => ?_) (fun hv13 => ?_)
                · refine x_iconst (v := nI 0) dX8_copy_115 (by decide) ?_
                  refine x_istore dX8_copy_116 (by decide) rfl ?_
                  refine x_lv (lv' := [some (.ref 1000), some (.int (nI i)), some (.int (nI u)), some (.int (nI i2)), some (.int (nI v)), some (.int (nI z)), some (.int (nI 0)), none, none]) rfl ?_
                  refine x_iconst (v := nI 0) dX8_copy_118 (by decide) ?_
                  refine x_istore dX8_copy_119 (by decide) rfl ?_
                  refine x_lv (lv' := [some (.ref 1000), some (.int (nI i)), some (.int (nI u)), some (.int (nI i2)), some (.int (nI v)), some (.int (nI z)), some (.int (nI 0)), some (.int (nI 0)), none]) rfl ?_
                  exact lr_copyd hS hG hi4 hi42 hne hne2 hu hv (by omega) (Nat.zero_le d) z 0 b σ hR Fb.rf (fun q h1 h2 => absurd h2 (by omega)) (fun p hp => rfl) (by omega)
                · refine x_iload_n dX8_copy_105 rfl ?_
                  refine x_iload dX8_copy_106 rfl ?_
                  refine x_icmpN_ge (tgt := 115) dX8_copy_108 (by decide) (by omega) (by omega) (fun hv14 => ?_) (fun hv14 => ?_)
                  · refine x_iconst (v := nI 0) dX8_copy_115 (by decide) ?_
                    refine x_istore dX8_copy_116 (by decide) rfl ?_
                    refine x_lv (lv' := [some (.ref 1000), some (.int (nI i)), some (.int (nI u)), some (.int (nI i2)), some (.int (nI v)), some (.int (nI z)), some (.int (nI 0)), none, none]) rfl ?_
                    refine x_iconst (v := nI 0) dX8_copy_118 (by decide) ?_
                    refine x_istore dX8_copy_119 (by decide) rfl ?_
                    refine x_lv (lv' := [some (.ref 1000), some (.int (nI i)), some (.int (nI u)), some (.int (nI i2)), some (.int (nI v)), some (.int (nI z)), some (.int (nI 0)), some (.int (nI 0)), none]) rfl ?_
                    exact lr_copyd hS hG hi4 hi42 hne hne2 hu hv (by omega) (Nat.zero_le d) z 0 b σ hR Fb.rf (fun q h1 h2 => absurd h2 (by omega)) (fun p hp => rfl) (by omega)
                  · refine x_iconst (v := nI 1) dX8_copy_111 (by decide) ?_
                    refine x_goto (tgt := 116) dX8_copy_112 (by decide) ?_
                    refine x_istore dX8_copy_116 (by decide) rfl ?_
                    refine x_lv (lv' := [some (.ref 1000), some (.int (nI i)), some (.int (nI u)), some (.int (nI i2)), some (.int (nI v)), some (.int (nI z)), some (.int (nI 1)), none, none]) rfl ?_
                    refine x_iconst (v := nI 0) dX8_copy_118 (by decide) ?_
                    refine x_istore dX8_copy_119 (by decide) rfl ?_
                    refine x_lv (lv' := [some (.ref 1000), some (.int (nI i)), some (.int (nI u)), some (.int (nI i2)), some (.int (nI v)), some (.int (nI z)), some (.int (nI 1)), some (.int (nI 0)), none]) rfl ?_
                    exact lr_copyu hS hG hi4 hi42 hne hne2 hu hv (by omega) (Nat.zero_le d) z 0 b σ hR Fb.rf (fun q h1 h2 => absurd h2 (by omega)) (fun p hp => rfl) (by omega)
              · exact absurd hv12 (by omega)
          · exact absurd (by rw [hso]) hv7
        · exact absurd hne2 hv6
    · exact absurd (by omega) hv4
set_option maxHeartbeats 4000000 in
theorem r_copy_b0 {σ0 σ : ZS} {a : Nat → Int32} {tw : Int64} {b : Nat → List Int32} (hR : RM σ0 σ a tw b) {x y p q z : Int32} (hb : ¬ (0 ≤ x.toInt ∧ x.toInt ≤ 3) ∨ ¬ (0 ≤ y.toInt ∧ y.toInt ≤ 3)) : Cn 3 M_X8_copy 0 0 [.ref 1000, .int x, .int p, .int y, .int q, .int z] σ (fun r9 σ' => r9 = some (.int (-2)) ∧ σ' = σ) := by
  refine Cn.intro (lv0 := [some (.ref 1000), some (.int x), some (.int p), some (.int y), some (.int q), some (.int z), none, none, none]) rfl (Nat.le_of_ble_eq_true rfl) rfl (fun d hd => ?_)
  refine x_iload_n dX8_copy_0 rfl ?_
  refine x_callS m_X8_isSheet l_X8_299 (r_isSheet rfl) (by omega) rfl rfl (Nat.le_of_ble_eq_true rfl) ⟨Nat.le_refl _, Nat.le_refl _⟩ dX8_copy_1 (fun r1 s1 q1 => ?_)
  obtain ⟨rfl, eq1⟩ := q1
  obtain rfl := eq1.symm
  refine x_stk (st' := [.int (bI (decide (0 ≤ x.toInt ∧ x.toInt ≤ 3)))]) rfl ?_
  refine x_ifP_eq (P := 0 ≤ x.toInt ∧ x.toInt ≤ 3) inferInstance (tgt := 14) dX8_copy_4 (by decide) (fun hv2 => ?_) (fun hv2 => ?_)
  · refine x_bipush (v := (-2)) dX8_copy_14 (by decide) ?_
    exact x_iret ⟨Nat.le_refl _, Nat.le_refl _⟩ rfl dX8_copy_16 ⟨rfl, rfl⟩
  · refine x_iload_n dX8_copy_7 rfl ?_
    refine x_callS m_X8_isSheet l_X8_299 (r_isSheet rfl) (by omega) rfl rfl (Nat.le_of_ble_eq_true rfl) ⟨Nat.le_refl _, Nat.le_refl _⟩ dX8_copy_8 (fun r3 s3 q3 => ?_)
    obtain ⟨rfl, eq3⟩ := q3
    obtain rfl := eq3.symm
    refine x_stk (st' := [.int (bI (decide (0 ≤ y.toInt ∧ y.toInt ≤ 3)))]) rfl ?_
    refine x_ifP_ne (P := 0 ≤ y.toInt ∧ y.toInt ≤ 3) inferInstance (tgt := 17) dX8_copy_11 (by decide) (fun hv4 => ?_) (fun hv4 => ?_)
    · exfalso; omega
    · refine x_bipush (v := (-2)) dX8_copy_14 (by decide) ?_
      exact x_iret ⟨Nat.le_refl _, Nat.le_refl _⟩ rfl dX8_copy_16 ⟨rfl, rfl⟩
set_option maxHeartbeats 4000000 in
theorem r_copy_b1 {σ0 σ : ZS} {a : Nat → Int32} {tw : Int64} {b : Nat → List Int32} (hR : RM σ0 σ a tw b) {sh : Nat → SH} (hS : RSH b sh) (hG : SHG sh) {i i2 : Nat} (hi4 : i < 4) (hi42 : i2 < 4) (hb : (sh i).1 = -1 ∨ (sh i2).1 = -1) {p q z : Int32} : Cn 3 M_X8_copy 0 0 [.ref 1000, .int (nI i), .int p, .int (nI i2), .int q, .int z] σ (fun r9 σ' => r9 = some (.int (-11)) ∧ σ' = σ) := by
  refine Cn.intro (lv0 := [some (.ref 1000), some (.int (nI i)), some (.int p), some (.int (nI i2)), some (.int q), some (.int z), none, none, none]) rfl (Nat.le_of_ble_eq_true rfl) rfl (fun d hd => ?_)
  refine x_iload_n dX8_copy_0 rfl ?_
  refine x_callS m_X8_isSheet l_X8_299 (r_isSheet (nI_toInt (by omega))) (by omega) rfl rfl (Nat.le_of_ble_eq_true rfl) ⟨Nat.le_refl _, Nat.le_refl _⟩ dX8_copy_1 (fun r1 s1 q1 => ?_)
  obtain ⟨rfl, eq1⟩ := q1
  obtain rfl := eq1.symm
  refine x_stk (st' := [.int (bI (decide (0 ≤ ((i : Nat) : Int) ∧ ((i : Nat) : Int) ≤ 3)))]) rfl ?_
  refine x_ifP_eq (P := 0 ≤ ((i : Nat) : Int) ∧ ((i : Nat) : Int) ≤ 3) inferInstance (tgt := 14) dX8_copy_4 (by decide) (fun hv2 => ?_) (fun hv2 => ?_)
  · exact absurd (by omega) hv2
  · refine x_iload_n dX8_copy_7 rfl ?_
    refine x_callS m_X8_isSheet l_X8_299 (r_isSheet (nI_toInt (by omega))) (by omega) rfl rfl (Nat.le_of_ble_eq_true rfl) ⟨Nat.le_refl _, Nat.le_refl _⟩ dX8_copy_8 (fun r3 s3 q3 => ?_)
    obtain ⟨rfl, eq3⟩ := q3
    obtain rfl := eq3.symm
    refine x_stk (st' := [.int (bI (decide (0 ≤ ((i2 : Nat) : Int) ∧ ((i2 : Nat) : Int) ≤ 3)))]) rfl ?_
    refine x_ifP_ne (P := 0 ≤ ((i2 : Nat) : Int) ∧ ((i2 : Nat) : Int) ≤ 3) inferInstance (tgt := 17) dX8_copy_11 (by decide) (fun hv4 => ?_) (fun hv4 => ?_)
    · refine x_aload_n dX8_copy_17 rfl ?_
      refine x_rget f_X8_62 hR rfl dX8_copy_18 ?_
      refine x_iload_n dX8_copy_21 rfl ?_
      refine x_rzld (j := 13) (n := i) hR rfl (by decide) rfl rfl (rlt hR (m := 4) (by decide) rfl (by omega)) dX8_copy_22 ?_
      refine x_topi (y := bI (decide (¬ (sh i).1 = -1))) (hS i (by omega)).1 ?_
      refine x_ifP_eq (P := ¬ (sh i).1 = -1) inferInstance (tgt := 35) dX8_copy_23 (by decide) (fun hv5 => ?_) (fun hv5 => ?_)
      · refine x_bipush (v := (-11)) dX8_copy_35 (by decide) ?_
        exact x_iret ⟨Nat.le_refl _, Nat.le_refl _⟩ rfl dX8_copy_37 ⟨rfl, rfl⟩
      · refine x_aload_n dX8_copy_26 rfl ?_
        refine x_rget f_X8_62 hR rfl dX8_copy_27 ?_
        refine x_iload_n dX8_copy_30 rfl ?_
        refine x_rzld (j := 13) (n := i2) hR rfl (by decide) rfl rfl (rlt hR (m := 4) (by decide) rfl (by omega)) dX8_copy_31 ?_
        refine x_topi (y := bI (decide (¬ (sh i2).1 = -1))) (hS i2 (by omega)).1 ?_
        refine x_ifP_ne (P := ¬ (sh i2).1 = -1) inferInstance (tgt := 38) dX8_copy_32 (by decide) (fun hv6 => ?_) (fun hv6 => ?_)
        · exact absurd hb (fun z9 => z9.elim hv5 hv6)
        · refine x_bipush (v := (-11)) dX8_copy_35 (by decide) ?_
          exact x_iret ⟨Nat.le_refl _, Nat.le_refl _⟩ rfl dX8_copy_37 ⟨rfl, rfl⟩
    · exact absurd (by omega) hv4
set_option maxHeartbeats 4000000 in
theorem r_copy_b2 {σ0 σ : ZS} {a : Nat → Int32} {tw : Int64} {b : Nat → List Int32} (hR : RM σ0 σ a tw b) {sh : Nat → SH} (hS : RSH b sh) (hG : SHG sh) {i i2 : Nat} (hi4 : i < 4) (hi42 : i2 < 4) (hne : ¬ (sh i).1 = -1) (hne2 : ¬ (sh i2).1 = -1) (hb : ¬ (sh i).1 = (sh i2).1) {p q z : Int32} : Cn 3 M_X8_copy 0 0 [.ref 1000, .int (nI i), .int p, .int (nI i2), .int q, .int z] σ (fun r9 σ' => r9 = some (.int (-13)) ∧ σ' = σ) := by
  refine Cn.intro (lv0 := [some (.ref 1000), some (.int (nI i)), some (.int p), some (.int (nI i2)), some (.int q), some (.int z), none, none, none]) rfl (Nat.le_of_ble_eq_true rfl) rfl (fun d hd => ?_)
  refine x_iload_n dX8_copy_0 rfl ?_
  refine x_callS m_X8_isSheet l_X8_299 (r_isSheet (nI_toInt (by omega))) (by omega) rfl rfl (Nat.le_of_ble_eq_true rfl) ⟨Nat.le_refl _, Nat.le_refl _⟩ dX8_copy_1 (fun r1 s1 q1 => ?_)
  obtain ⟨rfl, eq1⟩ := q1
  obtain rfl := eq1.symm
  refine x_stk (st' := [.int (bI (decide (0 ≤ ((i : Nat) : Int) ∧ ((i : Nat) : Int) ≤ 3)))]) rfl ?_
  refine x_ifP_eq (P := 0 ≤ ((i : Nat) : Int) ∧ ((i : Nat) : Int) ≤ 3) inferInstance (tgt := 14) dX8_copy_4 (by decide) (fun hv2 => ?_) (fun hv2 => ?_)
  · exact absurd (by omega) hv2
  · refine x_iload_n dX8_copy_7 rfl ?_
    refine x_callS m_X8_isSheet l_X8_299 (r_isSheet (nI_toInt (by omega))) (by omega) rfl rfl (Nat.le_of_ble_eq_true rfl) ⟨Nat.le_refl _, Nat.le_refl _⟩ dX8_copy_8 (fun r3 s3 q3 => ?_)
    obtain ⟨rfl, eq3⟩ := q3
    obtain rfl := eq3.symm
    refine x_stk (st' := [.int (bI (decide (0 ≤ ((i2 : Nat) : Int) ∧ ((i2 : Nat) : Int) ≤ 3)))]) rfl ?_
    refine x_ifP_ne (P := 0 ≤ ((i2 : Nat) : Int) ∧ ((i2 : Nat) : Int) ≤ 3) inferInstance (tgt := 17) dX8_copy_11 (by decide) (fun hv4 => ?_) (fun hv4 => ?_)
    · refine x_aload_n dX8_copy_17 rfl ?_
      refine x_rget f_X8_62 hR rfl dX8_copy_18 ?_
      refine x_iload_n dX8_copy_21 rfl ?_
      refine x_rzld (j := 13) (n := i) hR rfl (by decide) rfl rfl (rlt hR (m := 4) (by decide) rfl (by omega)) dX8_copy_22 ?_
      refine x_topi (y := bI (decide (¬ (sh i).1 = -1))) (hS i (by omega)).1 ?_
      refine x_ifP_eq (P := ¬ (sh i).1 = -1) inferInstance (tgt := 35) dX8_copy_23 (by decide) (fun hv5 => ?_) (fun hv5 => ?_)
      · exact absurd hne hv5
      · refine x_aload_n dX8_copy_26 rfl ?_
        refine x_rget f_X8_62 hR rfl dX8_copy_27 ?_
        refine x_iload_n dX8_copy_30 rfl ?_
        refine x_rzld (j := 13) (n := i2) hR rfl (by decide) rfl rfl (rlt hR (m := 4) (by decide) rfl (by omega)) dX8_copy_31 ?_
        refine x_topi (y := bI (decide (¬ (sh i2).1 = -1))) (hS i2 (by omega)).1 ?_
        refine x_ifP_ne (P := ¬ (sh i2).1 = -1) inferInstance (tgt := 38) dX8_copy_32 (by decide) (fun hv6 => ?_) (fun hv6 => ?_)
        · refine x_aload_n dX8_copy_38 rfl ?_
          refine x_rget f_X8_66 hR rfl dX8_copy_39 ?_
          refine x_iload_n dX8_copy_42 rfl ?_
          refine x_rald (j := 14) (n := i) hR rfl (by decide) rfl rfl (rlt hR (m := 4) (by decide) rfl (by omega)) dX8_copy_43 ?_
          refine x_topi (y := (sh i).1) ((hS i (by omega)).2 (by assumption)).1 ?_
          refine x_aload_n dX8_copy_44 rfl ?_
          refine x_rget f_X8_66 hR rfl dX8_copy_45 ?_
          refine x_iload_n dX8_copy_48 rfl ?_
          refine x_rald (j := 14) (n := i2) hR rfl (by decide) rfl rfl (rlt hR (m := 4) (by decide) rfl (by omega)) dX8_copy_49 ?_
          refine x_topi (y := (sh i2).1) ((hS i2 (by omega)).2 (by assumption)).1 ?_
          refine x_icmpT_eq (p := ((sh i).1).toInt) (q := ((sh i2).1).toInt) (tgt := 56) rfl rfl dX8_copy_50 (by decide) (fun hv7 => ?_) (fun hv7 => ?_)
          · exact absurd (Int32.toInt_inj.mp hv7) hb
          · refine x_bipush (v := (-13)) dX8_copy_53 (by decide) ?_
            exact x_iret ⟨Nat.le_refl _, Nat.le_refl _⟩ rfl dX8_copy_55 ⟨rfl, rfl⟩
        · exact absurd hne2 hv6
    · exact absurd (by omega) hv4
theorem subz {s : Nat} {z : Int32} (hs : s ≤ 40) (hz : 0 ≤ z.toInt) : (nI s - z).toInt = (s : Int) - z.toInt := by
  have h2 := tI_hi z
  rw [Int32.toInt_sub, tI_nI (by omega), bm32 (by omega) (by omega)]
set_option maxHeartbeats 4000000 in
theorem r_copy_b3 {σ0 σ : ZS} {a : Nat → Int32} {tw : Int64} {b : Nat → List Int32} (hR : RM σ0 σ a tw b) {sh : Nat → SH} (hS : RSH b sh) (hG : SHG sh) {i i2 : Nat} (hi4 : i < 4) (hi42 : i2 < 4) (hne : ¬ (sh i).1 = -1) (hne2 : ¬ (sh i2).1 = -1) (hso : (sh i).1 = (sh i2).1) {p q z : Int32} (hb : ¬ (0 ≤ z.toInt ∧ 0 ≤ p.toInt ∧ 0 ≤ q.toInt ∧ p.toInt + z.toInt ≤ (((sh i).2.1 : Nat) : Int) ∧ q.toInt + z.toInt ≤ (((sh i2).2.1 : Nat) : Int))) : Cn 3 M_X8_copy 0 0 [.ref 1000, .int (nI i), .int p, .int (nI i2), .int q, .int z] σ (fun r9 σ' => r9 = some (.int (-12)) ∧ σ' = σ) := by
  have hz40 := (hG i hi4).2.1
  have hz402 := (hG i2 hi42).2.1
  refine Cn.intro (lv0 := [some (.ref 1000), some (.int (nI i)), some (.int p), some (.int (nI i2)), some (.int q), some (.int z), none, none, none]) rfl (Nat.le_of_ble_eq_true rfl) rfl (fun d hd => ?_)
  refine x_iload_n dX8_copy_0 rfl ?_
  refine x_callS m_X8_isSheet l_X8_299 (r_isSheet (nI_toInt (by omega))) (by omega) rfl rfl (Nat.le_of_ble_eq_true rfl) ⟨Nat.le_refl _, Nat.le_refl _⟩ dX8_copy_1 (fun r1 s1 q1 => ?_)
  obtain ⟨rfl, eq1⟩ := q1
  obtain rfl := eq1.symm
  refine x_stk (st' := [.int (bI (decide (0 ≤ ((i : Nat) : Int) ∧ ((i : Nat) : Int) ≤ 3)))]) rfl ?_
  refine x_ifP_eq (P := 0 ≤ ((i : Nat) : Int) ∧ ((i : Nat) : Int) ≤ 3) inferInstance (tgt := 14) dX8_copy_4 (by decide) (fun hv2 => ?_) (fun hv2 => ?_)
  · exact absurd (by omega) hv2
  · refine x_iload_n dX8_copy_7 rfl ?_
    refine x_callS m_X8_isSheet l_X8_299 (r_isSheet (nI_toInt (by omega))) (by omega) rfl rfl (Nat.le_of_ble_eq_true rfl) ⟨Nat.le_refl _, Nat.le_refl _⟩ dX8_copy_8 (fun r3 s3 q3 => ?_)
    obtain ⟨rfl, eq3⟩ := q3
    obtain rfl := eq3.symm
    refine x_stk (st' := [.int (bI (decide (0 ≤ ((i2 : Nat) : Int) ∧ ((i2 : Nat) : Int) ≤ 3)))]) rfl ?_
    refine x_ifP_ne (P := 0 ≤ ((i2 : Nat) : Int) ∧ ((i2 : Nat) : Int) ≤ 3) inferInstance (tgt := 17) dX8_copy_11 (by decide) (fun hv4 => ?_) (fun hv4 => ?_)
    · refine x_aload_n dX8_copy_17 rfl ?_
      refine x_rget f_X8_62 hR rfl dX8_copy_18 ?_
      refine x_iload_n dX8_copy_21 rfl ?_
      refine x_rzld (j := 13) (n := i) hR rfl (by decide) rfl rfl (rlt hR (m := 4) (by decide) rfl (by omega)) dX8_copy_22 ?_
      refine x_topi (y := bI (decide (¬ (sh i).1 = -1))) (hS i (by omega)).1 ?_
      refine x_ifP_eq (P := ¬ (sh i).1 = -1) inferInstance (tgt := 35) dX8_copy_23 (by decide) (fun hv5 => ?_) (fun hv5 => ?_)
      · exact absurd hne hv5
      · refine x_aload_n dX8_copy_26 rfl ?_
        refine x_rget f_X8_62 hR rfl dX8_copy_27 ?_
        refine x_iload_n dX8_copy_30 rfl ?_
        refine x_rzld (j := 13) (n := i2) hR rfl (by decide) rfl rfl (rlt hR (m := 4) (by decide) rfl (by omega)) dX8_copy_31 ?_
        refine x_topi (y := bI (decide (¬ (sh i2).1 = -1))) (hS i2 (by omega)).1 ?_
        refine x_ifP_ne (P := ¬ (sh i2).1 = -1) inferInstance (tgt := 38) dX8_copy_32 (by decide) (fun hv6 => ?_) (fun hv6 => ?_)
        · refine x_aload_n dX8_copy_38 rfl ?_
          refine x_rget f_X8_66 hR rfl dX8_copy_39 ?_
          refine x_iload_n dX8_copy_42 rfl ?_
          refine x_rald (j := 14) (n := i) hR rfl (by decide) rfl rfl (rlt hR (m := 4) (by decide) rfl (by omega)) dX8_copy_43 ?_
          refine x_topi (y := (sh i).1) ((hS i (by omega)).2 (by assumption)).1 ?_
          refine x_aload_n dX8_copy_44 rfl ?_
          refine x_rget f_X8_66 hR rfl dX8_copy_45 ?_
          refine x_iload_n dX8_copy_48 rfl ?_
          refine x_rald (j := 14) (n := i2) hR rfl (by decide) rfl rfl (rlt hR (m := 4) (by decide) rfl (by omega)) dX8_copy_49 ?_
          refine x_topi (y := (sh i2).1) ((hS i2 (by omega)).2 (by assumption)).1 ?_
          refine x_icmpT_eq (p := ((sh i).1).toInt) (q := ((sh i2).1).toInt) (tgt := 56) rfl rfl dX8_copy_50 (by decide) (fun hv7 => ?_) (fun hv7 => ?_)
          · refine x_iload dX8_copy_56 rfl ?_
            refine x_ifT_lt (p := z.toInt) (tgt := 97) rfl dX8_copy_58 (by decide) (fun hv8 => ?_) (fun hv8 => ?_)
            · refine x_bipush (v := (-12)) dX8_copy_97 (by decide) ?_
              exact x_iret ⟨Nat.le_refl _, Nat.le_refl _⟩ rfl dX8_copy_99 ⟨rfl, rfl⟩
            · refine x_iload_n dX8_copy_61 rfl ?_
              refine x_ifT_lt (p := p.toInt) (tgt := 97) rfl dX8_copy_62 (by decide) (fun hv9 => ?_) (fun hv9 => ?_)
              · refine x_bipush (v := (-12)) dX8_copy_97 (by decide) ?_
                exact x_iret ⟨Nat.le_refl _, Nat.le_refl _⟩ rfl dX8_copy_99 ⟨rfl, rfl⟩
              · refine x_iload dX8_copy_65 rfl ?_
                refine x_ifT_lt (p := q.toInt) (tgt := 97) rfl dX8_copy_67 (by decide) (fun hv10 => ?_) (fun hv10 => ?_)
                · refine x_bipush (v := (-12)) dX8_copy_97 (by decide) ?_
                  exact x_iret ⟨Nat.le_refl _, Nat.le_refl _⟩ rfl dX8_copy_99 ⟨rfl, rfl⟩
                · refine x_iload_n dX8_copy_70 rfl ?_
                  refine x_aload_n dX8_copy_71 rfl ?_
                  refine x_rget f_X8_69 hR rfl dX8_copy_72 ?_
                  refine x_iload_n dX8_copy_75 rfl ?_
                  refine x_rald (j := 15) (n := i) hR rfl (by decide) rfl rfl (rlt hR (m := 4) (by decide) rfl (by omega)) dX8_copy_76 ?_
                  refine x_topi (y := nI ((sh i).2.1)) ((hS i (by omega)).2 (by assumption)).2.1 ?_
                  refine x_iload dX8_copy_77 rfl ?_
                  refine x_isub dX8_copy_79 ?_
                  refine x_icmpT_gt (p := p.toInt) (q := (((sh i).2.1 : Nat) : Int) - z.toInt) (tgt := 97) rfl (subz (by omega) hv8) dX8_copy_80 (by decide) (fun hv11 => ?_) (fun hv11 => ?_)
                  · refine x_bipush (v := (-12)) dX8_copy_97 (by decide) ?_
                    exact x_iret ⟨Nat.le_refl _, Nat.le_refl _⟩ rfl dX8_copy_99 ⟨rfl, rfl⟩
                  · refine x_iload dX8_copy_83 rfl ?_
                    refine x_aload_n dX8_copy_85 rfl ?_
                    refine x_rget f_X8_69 hR rfl dX8_copy_86 ?_
                    refine x_iload_n dX8_copy_89 rfl ?_
                    refine x_rald (j := 15) (n := i2) hR rfl (by decide) rfl rfl (rlt hR (m := 4) (by decide) rfl (by omega)) dX8_copy_90 ?_
                    refine x_topi (y := nI ((sh i2).2.1)) ((hS i2 (by omega)).2 (by assumption)).2.1 ?_
                    refine x_iload dX8_copy_91 rfl ?_
                    refine x_isub dX8_copy_93 ?_
                    refine x_icmpT_le (p := q.toInt) (q := (((sh i2).2.1 : Nat) : Int) - z.toInt) (tgt := 100) rfl (subz (by omega) hv8) dX8_copy_94 (by decide) (fun hv12 => ?_) (fun hv12 => ?_)
                    · exfalso; omega
                    · refine x_bipush (v := (-12)) dX8_copy_97 (by decide) ?_
                      exact x_iret ⟨Nat.le_refl _, Nat.le_refl _⟩ rfl dX8_copy_99 ⟨rfl, rfl⟩
          · exact absurd (by rw [hso]) hv7
        · exact absurd hne2 hv6
    · exact absurd (by omega) hv4
