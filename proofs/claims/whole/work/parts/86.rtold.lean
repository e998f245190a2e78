/-! what one is told -/
def toldV (rr dn n : Nat) (K N : List Nat) (W : List Int32) (D : List Nat) (o w : Nat) : Int32 :=
  if w = 0 then nI rr else if w = 1 then nI dn else if w = 2 then nI (N.getD o 0) else if w = 3 then W.getD o 0 else if w = 4 then nI (K.getD o 0) else if w = 5 then oI (cred D n o (2 ^ n - 1)) else if w = 6 then (if wishO K N D n o (2 ^ n - 1) = none then nI 0 else nI 1) else if w = 7 then nI (rowS D o n) else nI (D.getD (o * 7 + (w - 10)) 0)
set_option maxHeartbeats 4000000 in
theorem r_told0 {σ0 σ : ZS} {a : Nat → Int32} {tw : Int64} {b : Nat → List Int32} {rr n : Nat} {K N : List Nat} {W : List Int32} {D : List Nat} (hR : RM σ0 σ a tw b) (hC : RC a b rr n K N W D (-1)) {dn : Nat} (c8 : a 8 = nI dn) {x : Int32} : Cn 3 M_X8_told 0 0 [.ref 1000, .int x, .int (nI 0)] σ (fun r9 σ' => r9 = some (.int (nI rr)) ∧ σ' = σ) := by
  obtain ⟨c7, hrr, c13, hn7, c14, cK, cN, cW, cD, hN7, hW7, hD49, hK5, hN9, hD999⟩ := id hC
  refine Cn.intro (lv0 := [some (.ref 1000), some (.int x), some (.int (nI 0)), none, none]) rfl (Nat.le_of_ble_eq_true rfl) rfl (fun d hd => ?_)
  refine x_iload_n dX8_told_0 rfl ?_
  refine x_i2l dX8_told_1 ?_
  refine x_ldc2 (v := (10)) cl_X8_120 dX8_told_2 ?_
  refine x_ldc2 (v := (16)) cl_X8_122 dX8_told_5 ?_
  refine x_callS m_X8_in l_X8_85 (r_in (p := ((0 : Nat) : Int)) (q := (10)) (r := (16)) (tL (nI_toInt (by omega))) (by decide) (by decide)) (by omega) rfl rfl (Nat.le_of_ble_eq_true rfl) ⟨Nat.le_refl _, Nat.le_refl _⟩ dX8_told_8 (fun r1 s1 q1 => ?_)
  obtain ⟨rfl, eq1⟩ := q1
  obtain rfl := eq1.symm
  refine x_stk (st' := [.int (bI (decide ((10) ≤ ((0 : Nat) : Int) ∧ ((0 : Nat) : Int) ≤ (16))))]) rfl ?_
  refine x_ifP_eq (P := (10) ≤ ((0 : Nat) : Int) ∧ ((0 : Nat) : Int) ≤ (16)) inferInstance (tgt := 29) dX8_told_11 (by decide) (fun hv2 => ?_) (fun hv2 => ?_)
  · refine x_iconst (v := nI 0) dX8_told_29 (by decide) ?_
    refine x_istore_n dX8_told_30 (by decide) rfl ?_
    refine x_lv (lv' := [some (.ref 1000), some (.int x), some (.int (nI 0)), some (.int (nI 0)), none]) rfl ?_
    refine x_iload_n dX8_told_31 rfl ?_
    refine x_i2l dX8_told_32 ?_
    refine x_lconst (v := 0) dX8_told_33 (by decide) ?_
    refine x_ldc2 (v := (7)) cl_X8_124 dX8_told_34 ?_
    refine x_callS m_X8_in l_X8_85 (r_in (p := ((0 : Nat) : Int)) (q := 0) (r := (7)) (tL (nI_toInt (by omega))) (by decide) (by decide)) (by omega) rfl rfl (Nat.le_of_ble_eq_true rfl) ⟨Nat.le_refl _, Nat.le_refl _⟩ dX8_told_37 (fun r3 s3 q3 => ?_)
    obtain ⟨rfl, eq3⟩ := q3
    obtain rfl := eq3.symm
    refine x_stk (st' := [.int (bI (decide (0 ≤ ((0 : Nat) : Int) ∧ ((0 : Nat) : Int) ≤ (7))))]) rfl ?_
    refine x_ifP_ne (P := 0 ≤ ((0 : Nat) : Int) ∧ ((0 : Nat) : Int) ≤ (7)) inferInstance (tgt := 47) dX8_told_40 (by decide) (fun hv4 => ?_) (fun hv4 => ?_)
    · refine x_iload_n dX8_told_47 rfl ?_
      refine x_iconst (v := nI 1) dX8_told_48 (by decide) ?_
      refine x_icmpN_le (tgt := 63) dX8_told_49 (by decide) (by omega) (by omega) (fun hv5 => ?_) (fun hv5 => ?_)
      · refine x_iload_n dX8_told_63 rfl ?_
        refine x_ifN_eq (tgt := 82) dX8_told_64 (by decide) (by omega) (fun hv6 => ?_) (fun hv6 => ?_)
        · refine x_iload_n dX8_told_82 rfl ?_
          refine x_iconst (v := nI 5) dX8_told_83 (by decide) ?_
          refine x_icmpN_ge (tgt := 145) dX8_told_84 (by decide) (by omega) (by omega) (fun hv7 => ?_) (fun hv7 => ?_)
          · exact absurd hv7 (by decide)
          · refine x_iload_n dX8_told_87 rfl ?_
            refine x_ifN_ne (tgt := 98) dX8_told_88 (by decide) (by omega) (fun hv8 => ?_) (fun hv8 => ?_)
            · exact absurd hv8 (by decide)
            · refine x_aload_n dX8_told_91 rfl ?_
              refine x_rget (v := .int (nI rr)) f_X8_23 hR (rg c7) dX8_told_92 ?_
              refine x_goto (tgt := 144) dX8_told_95 (by decide) ?_
              exact x_iret ⟨Nat.le_refl _, Nat.le_refl _⟩ rfl dX8_told_144 ⟨rfl, rfl⟩
        · exact absurd hv6 (by decide)
      · exact absurd hv5 (by decide)
    · exact absurd (by omega) hv4
  · exact absurd hv2 (by omega)
set_option maxHeartbeats 4000000 in
theorem r_told1 {σ0 σ : ZS} {a : Nat → Int32} {tw : Int64} {b : Nat → List Int32} {rr n : Nat} {K N : List Nat} {W : List Int32} {D : List Nat} (hR : RM σ0 σ a tw b) (hC : RC a b rr n K N W D (-1)) {dn : Nat} (c8 : a 8 = nI dn) {x : Int32} : Cn 3 M_X8_told 0 0 [.ref 1000, .int x, .int (nI 1)] σ (fun r9 σ' => r9 = some (.int (nI dn)) ∧ σ' = σ) := by
  obtain ⟨c7, hrr, c13, hn7, c14, cK, cN, cW, cD, hN7, hW7, hD49, hK5, hN9, hD999⟩ := id hC
  refine Cn.intro (lv0 := [some (.ref 1000), some (.int x), some (.int (nI 1)), none, none]) rfl (Nat.le_of_ble_eq_true rfl) rfl (fun d hd => ?_)
  refine x_iload_n dX8_told_0 rfl ?_
  refine x_i2l dX8_told_1 ?_
  refine x_ldc2 (v := (10)) cl_X8_120 dX8_told_2 ?_
  refine x_ldc2 (v := (16)) cl_X8_122 dX8_told_5 ?_
  refine x_callS m_X8_in l_X8_85 (r_in (p := ((1 : Nat) : Int)) (q := (10)) (r := (16)) (tL (nI_toInt (by omega))) (by decide) (by decide)) (by omega) rfl rfl (Nat.le_of_ble_eq_true rfl) ⟨Nat.le_refl _, Nat.le_refl _⟩ dX8_told_8 (fun r1 s1 q1 => ?_)
  obtain ⟨rfl, eq1⟩ := q1
  obtain rfl := eq1.symm
  refine x_stk (st' := [.int (bI (decide ((10) ≤ ((1 : Nat) : Int) ∧ ((1 : Nat) : Int) ≤ (16))))]) rfl ?_
  refine x_ifP_eq (P := (10) ≤ ((1 : Nat) : Int) ∧ ((1 : Nat) : Int) ≤ (16)) inferInstance (tgt := 29) dX8_told_11 (by decide) (fun hv2 => ?_) (fun hv2 => ?_)
  · refine x_iconst (v := nI 0) dX8_told_29 (by decide) ?_
    refine x_istore_n dX8_told_30 (by decide) rfl ?_
    refine x_lv (lv' := [some (.ref 1000), some (.int x), some (.int (nI 1)), some (.int (nI 0)), none]) rfl ?_
    refine x_iload_n dX8_told_31 rfl ?_
    refine x_i2l dX8_told_32 ?_
    refine x_lconst (v := 0) dX8_told_33 (by decide) ?_
    refine x_ldc2 (v := (7)) cl_X8_124 dX8_told_34 ?_
    refine x_callS m_X8_in l_X8_85 (r_in (p := ((1 : Nat) : Int)) (q := 0) (r := (7)) (tL (nI_toInt (by omega))) (by decide) (by decide)) (by omega) rfl rfl (Nat.le_of_ble_eq_true rfl) ⟨Nat.le_refl _, Nat.le_refl _⟩ dX8_told_37 (fun r3 s3 q3 => ?_)
    obtain ⟨rfl, eq3⟩ := q3
    obtain rfl := eq3.symm
    refine x_stk (st' := [.int (bI (decide (0 ≤ ((1 : Nat) : Int) ∧ ((1 : Nat) : Int) ≤ (7))))]) rfl ?_
    refine x_ifP_ne (P := 0 ≤ ((1 : Nat) : Int) ∧ ((1 : Nat) : Int) ≤ (7)) inferInstance (tgt := 47) dX8_told_40 (by decide) (fun hv4 => ?_) (fun hv4 => ?_)
    · refine x_iload_n dX8_told_47 rfl ?_
      refine x_iconst (v := nI 1) dX8_told_48 (by decide) ?_
      refine x_icmpN_le (tgt := 63) dX8_told_49 (by decide) (by omega) (by omega) (fun hv5 => ?_) (fun hv5 => ?_)
      · refine x_iload_n dX8_told_63 rfl ?_
        refine x_ifN_eq (tgt := 82) dX8_told_64 (by decide) (by omega) (fun hv6 => ?_) (fun hv6 => ?_)
        · refine x_iload_n dX8_told_82 rfl ?_
          refine x_iconst (v := nI 5) dX8_told_83 (by decide) ?_
          refine x_icmpN_ge (tgt := 145) dX8_told_84 (by decide) (by omega) (by omega) (fun hv7 => ?_) (fun hv7 => ?_)
          · exact absurd hv7 (by decide)
          · refine x_iload_n dX8_told_87 rfl ?_
            refine x_ifN_ne (tgt := 98) dX8_told_88 (by decide) (by omega) (fun hv8 => ?_) (fun hv8 => ?_)
            · refine x_iload_n dX8_told_98 rfl ?_
              refine x_iconst (v := nI 1) dX8_told_99 (by decide) ?_
              refine x_icmpN_ne (tgt := 110) dX8_told_100 (by decide) (by omega) (by omega) (fun hv9 => ?_) (fun hv9 => ?_)
              · exact absurd hv9 (by decide)
              · refine x_aload_n dX8_told_103 rfl ?_
                refine x_rget (v := .int (nI dn)) f_X8_111 hR (rg c8) dX8_told_104 ?_
                refine x_goto (tgt := 144) dX8_told_107 (by decide) ?_
                exact x_iret ⟨Nat.le_refl _, Nat.le_refl _⟩ rfl dX8_told_144 ⟨rfl, rfl⟩
            · exact absurd hv8 (by decide)
        · exact absurd hv6 (by decide)
      · exact absurd hv5 (by decide)
    · exact absurd (by omega) hv4
  · exact absurd hv2 (by omega)
set_option maxHeartbeats 4000000 in
theorem r_told2 {σ0 σ : ZS} {a : Nat → Int32} {tw : Int64} {b : Nat → List Int32} {rr n : Nat} {K N : List Nat} {W : List Int32} {D : List Nat} (hR : RM σ0 σ a tw b) (hC : RC a b rr n K N W D (-1)) {dn : Nat} (c8 : a 8 = nI dn) {o : Nat} (ho : o < n) : Cn 3 M_X8_told 0 0 [.ref 1000, .int (nI o), .int (nI 2)] σ (fun r9 σ' => r9 = some (.int (toldV rr dn n K N W D o 2)) ∧ σ' = σ) := by
  obtain ⟨c7, hrr, c13, hn7, c14, cK, cN, cW, cD, hN7, hW7, hD49, hK5, hN9, hD999⟩ := id hC
  have h2p := Nat.two_pow_pos n
  have h2n := two_le hn7
  refine Cn.intro (lv0 := [some (.ref 1000), some (.int (nI o)), some (.int (nI 2)), none, none]) rfl (Nat.le_of_ble_eq_true rfl) rfl (fun d hd => ?_)
  refine x_iload_n dX8_told_0 rfl ?_
  refine x_i2l dX8_told_1 ?_
  refine x_ldc2 (v := (10)) cl_X8_120 dX8_told_2 ?_
  refine x_ldc2 (v := (16)) cl_X8_122 dX8_told_5 ?_
  refine x_callS m_X8_in l_X8_85 (r_in (p := ((2 : Nat) : Int)) (q := (10)) (r := (16)) (tL (nI_toInt (by omega))) (by decide) (by decide)) (by omega) rfl rfl (Nat.le_of_ble_eq_true rfl) ⟨Nat.le_refl _, Nat.le_refl _⟩ dX8_told_8 (fun r1 s1 q1 => ?_)
  obtain ⟨rfl, eq1⟩ := q1
  obtain rfl := eq1.symm
  refine x_stk (st' := [.int (bI (decide ((10) ≤ ((2 : Nat) : Int) ∧ ((2 : Nat) : Int) ≤ (16))))]) rfl ?_
  refine x_ifP_eq (P := (10) ≤ ((2 : Nat) : Int) ∧ ((2 : Nat) : Int) ≤ (16)) inferInstance (tgt := 29) dX8_told_11 (by decide) (fun hv2 => ?_) (fun hv2 => ?_)
  · refine x_iconst (v := nI 0) dX8_told_29 (by decide) ?_
    refine x_istore_n dX8_told_30 (by decide) rfl ?_
    refine x_lv (lv' := [some (.ref 1000), some (.int (nI o)), some (.int (nI 2)), some (.int (nI 0)), none]) rfl ?_
    refine x_iload_n dX8_told_31 rfl ?_
    refine x_i2l dX8_told_32 ?_
    refine x_lconst (v := 0) dX8_told_33 (by decide) ?_
    refine x_ldc2 (v := (7)) cl_X8_124 dX8_told_34 ?_
    refine x_callS m_X8_in l_X8_85 (r_in (p := ((2 : Nat) : Int)) (q := 0) (r := (7)) (tL (nI_toInt (by omega))) (by decide) (by decide)) (by omega) rfl rfl (Nat.le_of_ble_eq_true rfl) ⟨Nat.le_refl _, Nat.le_refl _⟩ dX8_told_37 (fun r3 s3 q3 => ?_)
    obtain ⟨rfl, eq3⟩ := q3
    obtain rfl := eq3.symm
    refine x_stk (st' := [.int (bI (decide (0 ≤ ((2 : Nat) : Int) ∧ ((2 : Nat) : Int) ≤ (7))))]) rfl ?_
    refine x_ifP_ne (P := 0 ≤ ((2 : Nat) : Int) ∧ ((2 : Nat) : Int) ≤ (7)) inferInstance (tgt := 47) dX8_told_40 (by decide) (fun hv4 => ?_) (fun hv4 => ?_)
    · refine x_iload_n dX8_told_47 rfl ?_
      refine x_iconst (v := nI 1) dX8_told_48 (by decide) ?_
      refine x_icmpN_le (tgt := 63) dX8_told_49 (by decide) (by omega) (by omega) (fun hv5 => ?_) (fun hv5 => ?_)
      · exact absurd hv5 (by decide)
      · refine x_aload_n dX8_told_52 rfl ?_
        refine x_iload_n dX8_told_53 rfl ?_
        refine x_callV m_X8_isOne l_X8_89 (r_isOne hR hC (nI_toInt (by omega))) rfl hR.2.1 (by omega) rfl rfl (Nat.le_of_ble_eq_true rfl) ⟨Nat.le_refl _, Nat.le_refl _⟩ dX8_told_54 (fun r6 s6 q6 => ?_)
        obtain ⟨rfl, eq6⟩ := q6
        obtain rfl := eq6.symm
        refine x_stk (st' := [.int (bI (decide (0 ≤ ((o : Nat) : Int) ∧ ((o : Nat) : Int) < ((n : Nat) : Int))))]) rfl ?_
        refine x_ifP_ne (P := 0 ≤ ((o : Nat) : Int) ∧ ((o : Nat) : Int) < ((n : Nat) : Int)) inferInstance (tgt := 63) dX8_told_57 (by decide) (fun hv7 => ?_) (fun hv7 => ?_)
        · refine x_iload_n dX8_told_63 rfl ?_
          refine x_ifN_eq (tgt := 82) dX8_told_64 (by decide) (by omega) (fun hv8 => ?_) (fun hv8 => ?_)
          · refine x_iload_n dX8_told_82 rfl ?_
            refine x_iconst (v := nI 5) dX8_told_83 (by decide) ?_
            refine x_icmpN_ge (tgt := 145) dX8_told_84 (by decide) (by omega) (by omega) (fun hv9 => ?_) (fun hv9 => ?_)
            · exact absurd hv9 (by decide)
            · refine x_iload_n dX8_told_87 rfl ?_
              refine x_ifN_ne (tgt := 98) dX8_told_88 (by decide) (by omega) (fun hv10 => ?_) (fun hv10 => ?_)
              · refine x_iload_n dX8_told_98 rfl ?_
                refine x_iconst (v := nI 1) dX8_told_99 (by decide) ?_
                refine x_icmpN_ne (tgt := 110) dX8_told_100 (by decide) (by omega) (by omega) (fun hv11 => ?_) (fun hv11 => ?_)
                · refine x_iload_n dX8_told_110 rfl ?_
                  refine x_iconst (v := nI 2) dX8_told_111 (by decide) ?_
                  refine x_icmpN_ne (tgt := 124) dX8_told_112 (by decide) (by omega) (by omega) (fun hv12 => ?_) (fun hv12 => ?_)
                  · exact absurd hv12 (by decide)
                  · refine x_aload_n dX8_told_115 rfl ?_
                    refine x_rget f_X8_29 hR rfl dX8_told_116 ?_
                    refine x_iload_n dX8_told_119 rfl ?_
                    refine x_rald (j := 4) (n := o) hR rfl (by decide) rfl rfl (rlt hR (m := 7) (by decide) rfl (by omega)) dX8_told_120 ?_
                    refine x_topi (y := nI ((N.getD o 0))) (rgN cN) ?_
                    refine x_goto (tgt := 144) dX8_told_121 (by decide) ?_
                    exact x_iret ⟨Nat.le_refl _, Nat.le_refl _⟩ rfl dX8_told_144 ⟨rfl, rfl⟩
                · exact absurd hv11 (by decide)
              · exact absurd hv10 (by decide)
          · exact absurd hv8 (by decide)
        · exact absurd (by omega) hv7
    · exact absurd (by omega) hv4
  · exact absurd hv2 (by omega)
set_option maxHeartbeats 4000000 in
theorem r_told3 {σ0 σ : ZS} {a : Nat → Int32} {tw : Int64} {b : Nat → List Int32} {rr n : Nat} {K N : List Nat} {W : List Int32} {D : List Nat} (hR : RM σ0 σ a tw b) (hC : RC a b rr n K N W D (-1)) {dn : Nat} (c8 : a 8 = nI dn) {o : Nat} (ho : o < n) : Cn 3 M_X8_told 0 0 [.ref 1000, .int (nI o), .int (nI 3)] σ (fun r9 σ' => r9 = some (.int (toldV rr dn n K N W D o 3)) ∧ σ' = σ) := by
  obtain ⟨c7, hrr, c13, hn7, c14, cK, cN, cW, cD, hN7, hW7, hD49, hK5, hN9, hD999⟩ := id hC
  have h2p := Nat.two_pow_pos n
  have h2n := two_le hn7
  refine Cn.intro (lv0 := [some (.ref 1000), some (.int (nI o)), some (.int (nI 3)), none, none]) rfl (Nat.le_of_ble_eq_true rfl) rfl (fun d hd => ?_)
  refine x_iload_n dX8_told_0 rfl ?_
  refine x_i2l dX8_told_1 ?_
  refine x_ldc2 (v := (10)) cl_X8_120 dX8_told_2 ?_
  refine x_ldc2 (v := (16)) cl_X8_122 dX8_told_5 ?_
  refine x_callS m_X8_in l_X8_85 (r_in (p := ((3 : Nat) : Int)) (q := (10)) (r := (16)) (tL (nI_toInt (by omega))) (by decide) (by decide)) (by omega) rfl rfl (Nat.le_of_ble_eq_true rfl) ⟨Nat.le_refl _, Nat.le_refl _⟩ dX8_told_8 (fun r1 s1 q1 => ?_)
  obtain ⟨rfl, eq1⟩ := q1
  obtain rfl := eq1.symm
  refine x_stk (st' := [.int (bI (decide ((10) ≤ ((3 : Nat) : Int) ∧ ((3 : Nat) : Int) ≤ (16))))]) rfl ?_
  refine x_ifP_eq (P := (10) ≤ ((3 : Nat) : Int) ∧ ((3 : Nat) : Int) ≤ (16)) inferInstance (tgt := 29) dX8_told_11 (by decide) (fun hv2 => ?_) (fun hv2 => ?_)
  · refine x_iconst (v := nI 0) dX8_told_29 (by decide) ?_
    refine x_istore_n dX8_told_30 (by decide) rfl ?_
    refine x_lv (lv' := [some (.ref 1000), some (.int (nI o)), some (.int (nI 3)), some (.int (nI 0)), none]) rfl ?_
    refine x_iload_n dX8_told_31 rfl ?_
    refine x_i2l dX8_told_32 ?_
    refine x_lconst (v := 0) dX8_told_33 (by decide) ?_
    refine x_ldc2 (v := (7)) cl_X8_124 dX8_told_34 ?_
    refine x_callS m_X8_in l_X8_85 (r_in (p := ((3 : Nat) : Int)) (q := 0) (r := (7)) (tL (nI_toInt (by omega))) (by decide) (by decide)) (by omega) rfl rfl (Nat.le_of_ble_eq_true rfl) ⟨Nat.le_refl _, Nat.le_refl _⟩ dX8_told_37 (fun r3 s3 q3 => ?_)
    obtain ⟨rfl, eq3⟩ := q3
    obtain rfl := eq3.symm
    refine x_stk (st' := [.int (bI (decide (0 ≤ ((3 : Nat) : Int) ∧ ((3 : Nat) : Int) ≤ (7))))]) rfl ?_
    refine x_ifP_ne (P := 0 ≤ ((3 : Nat) : Int) ∧ ((3 : Nat) : Int) ≤ (7)) inferInstance (tgt := 47) dX8_told_40 (by decide) (fun hv4 => ?_) (fun hv4 => ?_)
    · refine x_iload_n dX8_told_47 rfl ?_
      refine x_iconst (v := nI 1) dX8_told_48 (by decide) ?_
      refine x_icmpN_le (tgt := 63) dX8_told_49 (by decide) (by omega) (by omega) (fun hv5 => ?_) (fun hv5 => ?_)
      · exact absurd hv5 (by decide)
      · refine x_aload_n dX8_told_52 rfl ?_
        refine x_iload_n dX8_told_53 rfl ?_
        refine x_callV m_X8_isOne l_X8_89 (r_isOne hR hC (nI_toInt (by omega))) rfl hR.2.1 (by omega) rfl rfl (Nat.le_of_ble_eq_true rfl) ⟨Nat.le_refl _, Nat.le_refl _⟩ dX8_told_54 (fun r6 s6 q6 => ?_)
        obtain ⟨rfl, eq6⟩ := q6
        obtain rfl := eq6.symm
        refine x_stk (st' := [.int (bI (decide (0 ≤ ((o : Nat) : Int) ∧ ((o : Nat) : Int) < ((n : Nat) : Int))))]) rfl ?_
        refine x_ifP_ne (P := 0 ≤ ((o : Nat) : Int) ∧ ((o : Nat) : Int) < ((n : Nat) : Int)) inferInstance (tgt := 63) dX8_told_57 (by decide) (fun hv7 => ?_) (fun hv7 => ?_)
        · refine x_iload_n dX8_told_63 rfl ?_
          refine x_ifN_eq (tgt := 82) dX8_told_64 (by decide) (by omega) (fun hv8 => ?_) (fun hv8 => ?_)
          · refine x_iload_n dX8_told_82 rfl ?_
            refine x_iconst (v := nI 5) dX8_told_83 (by decide) ?_
            refine x_icmpN_ge (tgt := 145) dX8_told_84 (by decide) (by omega) (by omega) (fun hv9 => ?_) (fun hv9 => ?_)
            · exact absurd hv9 (by decide)
            · refine x_iload_n dX8_told_87 rfl ?_
              refine x_ifN_ne (tgt := 98) dX8_told_88 (by decide) (by omega) (fun hv10 => ?_) (fun hv10 => ?_)
              · refine x_iload_n dX8_told_98 rfl ?_
                refine x_iconst (v := nI 1) dX8_told_99 (by decide) ?_
                refine x_icmpN_ne (tgt := 110) dX8_told_100 (by decide) (by omega) (by omega) (fun hv11 => ?_) (fun hv11 => ?_)
                · refine x_iload_n dX8_told_110 rfl ?_
                  refine x_iconst (v := nI 2) dX8_told_111 (by decide) ?_
                  refine x_icmpN_ne (tgt := 124) dX8_told_112 (by decide) (by omega) (by omega) (fun hv12 => ?_) (fun hv12 => ?_)
                  · refine x_iload_n dX8_told_124 rfl ?_
                    refine x_iconst (v := nI 3) dX8_told_125 (by decide) ?_
                    refine x_icmpN_ne (tgt := 138) dX8_told_126 (by decide) (by omega) (by omega) (fun hv13 => ?_) (fun hv13 => ?_)
                    · exact absurd hv13 (by decide)
                    · refine x_aload_n dX8_told_129 rfl ?_
                      refine x_rget f_X8_32 hR rfl dX8_told_130 ?_
                      refine x_iload_n dX8_told_133 rfl ?_
                      refine x_rald (j := 5) (n := o) hR rfl (by decide) rfl rfl (rlt hR (m := 7) (by decide) rfl (by omega)) dX8_told_134 ?_
                      refine x_topi (y := (W.getD o 0)) (rgD cW) ?_
                      refine x_goto (tgt := 144) dX8_told_135 (by decide) ?_
                      exact x_iret ⟨Nat.le_refl _, Nat.le_refl _⟩ rfl dX8_told_144 ⟨rfl, rfl⟩
                  · exact absurd hv12 (by decide)
                · exact absurd hv11 (by decide)
              · exact absurd hv10 (by decide)
          · exact absurd hv8 (by decide)
        · exact absurd (by omega) hv7
    · exact absurd (by omega) hv4
  · exact absurd hv2 (by omega)
set_option maxHeartbeats 4000000 in
theorem r_told4 {σ0 σ : ZS} {a : Nat → Int32} {tw : Int64} {b : Nat → List Int32} {rr n : Nat} {K N : List Nat} {W : List Int32} {D : List Nat} (hR : RM σ0 σ a tw b) (hC : RC a b rr n K N W D (-1)) {dn : Nat} (c8 : a 8 = nI dn) {o : Nat} (ho : o < n) : Cn 3 M_X8_told 0 0 [.ref 1000, .int (nI o), .int (nI 4)] σ (fun r9 σ' => r9 = some (.int (toldV rr dn n K N W D o 4)) ∧ σ' = σ) := by
  obtain ⟨c7, hrr, c13, hn7, c14, cK, cN, cW, cD, hN7, hW7, hD49, hK5, hN9, hD999⟩ := id hC
  have h2p := Nat.two_pow_pos n
  have h2n := two_le hn7
  refine Cn.intro (lv0 := [some (.ref 1000), some (.int (nI o)), some (.int (nI 4)), none, none]) rfl (Nat.le_of_ble_eq_true rfl) rfl (fun d hd => ?_)
  refine x_iload_n dX8_told_0 rfl ?_
  refine x_i2l dX8_told_1 ?_
  refine x_ldc2 (v := (10)) cl_X8_120 dX8_told_2 ?_
  refine x_ldc2 (v := (16)) cl_X8_122 dX8_told_5 ?_
  refine x_callS m_X8_in l_X8_85 (r_in (p := ((4 : Nat) : Int)) (q := (10)) (r := (16)) (tL (nI_toInt (by omega))) (by decide) (by decide)) (by omega) rfl rfl (Nat.le_of_ble_eq_true rfl) ⟨Nat.le_refl _, Nat.le_refl _⟩ dX8_told_8 (fun r1 s1 q1 => ?_)
  obtain ⟨rfl, eq1⟩ := q1
  obtain rfl := eq1.symm
  refine x_stk (st' := [.int (bI (decide ((10) ≤ ((4 : Nat) : Int) ∧ ((4 : Nat) : Int) ≤ (16))))]) rfl ?_
  refine x_ifP_eq (P := (10) ≤ ((4 : Nat) : Int) ∧ ((4 : Nat) : Int) ≤ (16)) inferInstance (tgt := 29) dX8_told_11 (by decide) (fun hv2 => ?_) (fun hv2 => ?_)
  · refine x_iconst (v := nI 0) dX8_told_29 (by decide) ?_
    refine x_istore_n dX8_told_30 (by decide) rfl ?_
    refine x_lv (lv' := [some (.ref 1000), some (.int (nI o)), some (.int (nI 4)), some (.int (nI 0)), none]) rfl ?_
    refine x_iload_n dX8_told_31 rfl ?_
    refine x_i2l dX8_told_32 ?_
    refine x_lconst (v := 0) dX8_told_33 (by decide) ?_
    refine x_ldc2 (v := (7)) cl_X8_124 dX8_told_34 ?_
    refine x_callS m_X8_in l_X8_85 (r_in (p := ((4 : Nat) : Int)) (q := 0) (r := (7)) (tL (nI_toInt (by omega))) (by decide) (by decide)) (by omega) rfl rfl (Nat.le_of_ble_eq_true rfl) ⟨Nat.le_refl _, Nat.le_refl _⟩ dX8_told_37 (fun r3 s3 q3 => ?_)
    obtain ⟨rfl, eq3⟩ := q3
    obtain rfl := eq3.symm
    refine x_stk (st' := [.int (bI (decide (0 ≤ ((4 : Nat) : Int) ∧ ((4 : Nat) : Int) ≤ (7))))]) rfl ?_
    refine x_ifP_ne (P := 0 ≤ ((4 : Nat) : Int) ∧ ((4 : Nat) : Int) ≤ (7)) inferInstance (tgt := 47) dX8_told_40 (by decide) (fun hv4 => ?_) (fun hv4 => ?_)
    · refine x_iload_n dX8_told_47 rfl ?_
      refine x_iconst (v := nI 1) dX8_told_48 (by decide) ?_
      refine x_icmpN_le (tgt := 63) dX8_told_49 (by decide) (by omega) (by omega) (fun hv5 => ?_) (fun hv5 => ?_)
      · exact absurd hv5 (by decide)
      · refine x_aload_n dX8_told_52 rfl ?_
        refine x_iload_n dX8_told_53 rfl ?_
        refine x_callV m_X8_isOne l_X8_89 (r_isOne hR hC (nI_toInt (by omega))) rfl hR.2.1 (by omega) rfl rfl (Nat.le_of_ble_eq_true rfl) ⟨Nat.le_refl _, Nat.le_refl _⟩ dX8_told_54 (fun r6 s6 q6 => ?_)
        obtain ⟨rfl, eq6⟩ := q6
        obtain rfl := eq6.symm
        refine x_stk (st' := [.int (bI (decide (0 ≤ ((o : Nat) : Int) ∧ ((o : Nat) : Int) < ((n : Nat) : Int))))]) rfl ?_
        refine x_ifP_ne (P := 0 ≤ ((o : Nat) : Int) ∧ ((o : Nat) : Int) < ((n : Nat) : Int)) inferInstance (tgt := 63) dX8_told_57 (by decide) (fun hv7 => ?_) (fun hv7 => ?_)
        · refine x_iload_n dX8_told_63 rfl ?_
          refine x_ifN_eq (tgt := 82) dX8_told_64 (by decide) (by omega) (fun hv8 => ?_) (fun hv8 => ?_)
          · refine x_iload_n dX8_told_82 rfl ?_
            refine x_iconst (v := nI 5) dX8_told_83 (by decide) ?_
            refine x_icmpN_ge (tgt := 145) dX8_told_84 (by decide) (by omega) (by omega) (fun hv9 => ?_) (fun hv9 => ?_)
            · exact absurd hv9 (by decide)
            · refine x_iload_n dX8_told_87 rfl ?_
              refine x_ifN_ne (tgt := 98) dX8_told_88 (by decide) (by omega) (fun hv10 => ?_) (fun hv10 => ?_)
              · refine x_iload_n dX8_told_98 rfl ?_
                refine x_iconst (v := nI 1) dX8_told_99 (by decide) ?_
                refine x_icmpN_ne (tgt := 110) dX8_told_100 (by decide) (by omega) (by omega) (fun hv11 => ?_) (fun hv11 => ?_)
                · refine x_iload_n dX8_told_110 rfl ?_
                  refine x_iconst (v := nI 2) dX8_told_111 (by decide) ?_
                  refine x_icmpN_ne (tgt := 124) dX8_told_112 (by decide) (by omega) (by omega) (fun hv12 => ?_) (fun hv12 => ?_)
                  · refine x_iload_n dX8_told_124 rfl ?_
                    refine x_iconst (v := nI 3) dX8_told_125 (by decide) ?_
                    refine x_icmpN_ne (tgt := 138) dX8_told_126 (by decide) (by omega) (by omega) (fun hv13 => ?_) (fun hv13 => ?_)
                    · refine x_aload_n dX8_told_138 rfl ?_
                      refine x_rget f_X8_26 hR rfl dX8_told_139 ?_
                      refine x_iload_n dX8_told_142 rfl ?_
                      refine x_rald (j := 3) (n := o) hR rfl (by decide) rfl rfl (rlt hR (m := 7) (by decide) rfl (by omega)) dX8_told_143 ?_
                      refine x_topi (y := nI ((K.getD o 0))) (cK _ (by omega)) ?_
                      exact x_iret ⟨Nat.le_refl _, Nat.le_refl _⟩ rfl dX8_told_144 ⟨rfl, rfl⟩
                    · exact absurd hv13 (by decide)
                  · exact absurd hv12 (by decide)
                · exact absurd hv11 (by decide)
              · exact absurd hv10 (by decide)
          · exact absurd hv8 (by decide)
        · exact absurd (by omega) hv7
    · exact absurd (by omega) hv4
  · exact absurd hv2 (by omega)
set_option maxHeartbeats 4000000 in
theorem r_told5 {σ0 σ : ZS} {a : Nat → Int32} {tw : Int64} {b : Nat → List Int32} {rr n : Nat} {K N : List Nat} {W : List Int32} {D : List Nat} (hR : RM σ0 σ a tw b) (hC : RC a b rr n K N W D (-1)) {dn : Nat} (c8 : a 8 = nI dn) {o : Nat} (ho : o < n) : Cn 3 M_X8_told 0 0 [.ref 1000, .int (nI o), .int (nI 5)] σ (fun r9 σ' => r9 = some (.int (toldV rr dn n K N W D o 5)) ∧ σ' = σ) := by
  obtain ⟨c7, hrr, c13, hn7, c14, cK, cN, cW, cD, hN7, hW7, hD49, hK5, hN9, hD999⟩ := id hC
  have h2p := Nat.two_pow_pos n
  have h2n := two_le hn7
  refine Cn.intro (lv0 := [some (.ref 1000), some (.int (nI o)), some (.int (nI 5)), none, none]) rfl (Nat.le_of_ble_eq_true rfl) rfl (fun d hd => ?_)
  refine x_iload_n dX8_told_0 rfl ?_
  refine x_i2l dX8_told_1 ?_
  refine x_ldc2 (v := (10)) cl_X8_120 dX8_told_2 ?_
  refine x_ldc2 (v := (16)) cl_X8_122 dX8_told_5 ?_
  refine x_callS m_X8_in l_X8_85 (r_in (p := ((5 : Nat) : Int)) (q := (10)) (r := (16)) (tL (nI_toInt (by omega))) (by decide) (by decide)) (by omega) rfl rfl (Nat.le_of_ble_eq_true rfl) ⟨Nat.le_refl _, Nat.le_refl _⟩ dX8_told_8 (fun r1 s1 q1 => ?_)
  obtain ⟨rfl, eq1⟩ := q1
  obtain rfl := eq1.symm
  refine x_stk (st' := [.int (bI (decide ((10) ≤ ((5 : Nat) : Int) ∧ ((5 : Nat) : Int) ≤ (16))))]) rfl ?_
  refine x_ifP_eq (P := (10) ≤ ((5 : Nat) : Int) ∧ ((5 : Nat) : Int) ≤ (16)) inferInstance (tgt := 29) dX8_told_11 (by decide) (fun hv2 => ?_) (fun hv2 => ?_)
  · refine x_iconst (v := nI 0) dX8_told_29 (by decide) ?_
    refine x_istore_n dX8_told_30 (by decide) rfl ?_
    refine x_lv (lv' := [some (.ref 1000), some (.int (nI o)), some (.int (nI 5)), some (.int (nI 0)), none]) rfl ?_
    refine x_iload_n dX8_told_31 rfl ?_
    refine x_i2l dX8_told_32 ?_
    refine x_lconst (v := 0) dX8_told_33 (by decide) ?_
    refine x_ldc2 (v := (7)) cl_X8_124 dX8_told_34 ?_
    refine x_callS m_X8_in l_X8_85 (r_in (p := ((5 : Nat) : Int)) (q := 0) (r := (7)) (tL (nI_toInt (by omega))) (by decide) (by decide)) (by omega) rfl rfl (Nat.le_of_ble_eq_true rfl) ⟨Nat.le_refl _, Nat.le_refl _⟩ dX8_told_37 (fun r3 s3 q3 => ?_)
    obtain ⟨rfl, eq3⟩ := q3
    obtain rfl := eq3.symm
    refine x_stk (st' := [.int (bI (decide (0 ≤ ((5 : Nat) : Int) ∧ ((5 : Nat) : Int) ≤ (7))))]) rfl ?_
    refine x_ifP_ne (P := 0 ≤ ((5 : Nat) : Int) ∧ ((5 : Nat) : Int) ≤ (7)) inferInstance (tgt := 47) dX8_told_40 (by decide) (fun hv4 => ?_) (fun hv4 => ?_)
    · refine x_iload_n dX8_told_47 rfl ?_
      refine x_iconst (v := nI 1) dX8_told_48 (by decide) ?_
      refine x_icmpN_le (tgt := 63) dX8_told_49 (by decide) (by omega) (by omega) (fun hv5 => ?_) (fun hv5 => ?_)
      · exact absurd hv5 (by decide)
      · refine x_aload_n dX8_told_52 rfl ?_
        refine x_iload_n dX8_told_53 rfl ?_
        refine x_callV m_X8_isOne l_X8_89 (r_isOne hR hC (nI_toInt (by omega))) rfl hR.2.1 (by omega) rfl rfl (Nat.le_of_ble_eq_true rfl) ⟨Nat.le_refl _, Nat.le_refl _⟩ dX8_told_54 (fun r6 s6 q6 => ?_)
        obtain ⟨rfl, eq6⟩ := q6
        obtain rfl := eq6.symm
        refine x_stk (st' := [.int (bI (decide (0 ≤ ((o : Nat) : Int) ∧ ((o : Nat) : Int) < ((n : Nat) : Int))))]) rfl ?_
        refine x_ifP_ne (P := 0 ≤ ((o : Nat) : Int) ∧ ((o : Nat) : Int) < ((n : Nat) : Int)) inferInstance (tgt := 63) dX8_told_57 (by decide) (fun hv7 => ?_) (fun hv7 => ?_)
        · refine x_iload_n dX8_told_63 rfl ?_
          refine x_ifN_eq (tgt := 82) dX8_told_64 (by decide) (by omega) (fun hv8 => ?_) (fun hv8 => ?_)
          · refine x_iload_n dX8_told_82 rfl ?_
            refine x_iconst (v := nI 5) dX8_told_83 (by decide) ?_
            refine x_icmpN_ge (tgt := 145) dX8_told_84 (by decide) (by omega) (by omega) (fun hv9 => ?_) (fun hv9 => ?_)
            · refine x_aload_n dX8_told_145 rfl ?_
              refine x_iload_n dX8_told_146 rfl ?_
              refine x_iconst (v := nI 1) dX8_told_147 (by decide) ?_
              refine x_aload_n dX8_told_148 rfl ?_
              refine x_rget (v := .int (nI n)) f_X8_82 hR (rg c13) dX8_told_149 ?_
              refine x_ishl dX8_told_152 ?_
              refine x_topi (y := nI (2 ^ n)) (z_shl1 (by omega)) ?_
              refine x_iconst (v := nI 1) dX8_told_153 (by decide) ?_
              refine x_isubN (by omega) dX8_told_154 ?_
              refine x_callV m_X8_creditor l_X8_126 (r_creditor hR hC (by omega) (by omega)) rfl hR.2.1 (by omega) rfl rfl (Nat.le_of_ble_eq_true rfl) ⟨Nat.le_refl _, Nat.le_refl _⟩ dX8_told_155 (fun r10 s10 q10 => ?_)
              obtain ⟨rfl, eq10⟩ := q10
              obtain rfl := eq10.symm
              refine x_stk (st' := [.int ((oI (cred D n o (2 ^ n - 1))))]) rfl ?_
              refine x_istore dX8_told_158 (by decide) rfl ?_
              refine x_lv (lv' := [some (.ref 1000), some (.int (nI o)), some (.int (nI 5)), some (.int (nI 0)), some (.int ((oI (cred D n o (2 ^ n - 1)))))]) rfl ?_
              refine x_iload_n dX8_told_160 rfl ?_
              refine x_iconst (v := nI 5) dX8_told_161 (by decide) ?_
              refine x_icmpN_ne (tgt := 170) dX8_told_162 (by decide) (by omega) (by omega) (fun hv11 => ?_) (fun hv11 => ?_)
              · exact absurd hv11 (by decide)
              · refine x_iload dX8_told_165 rfl ?_
                refine x_goto (tgt := 199) dX8_told_167 (by decide) ?_
                exact x_iret ⟨Nat.le_refl _, Nat.le_refl _⟩ rfl dX8_told_199 ⟨rfl, rfl⟩
            · exact absurd hv9 (by decide)
          · exact absurd hv8 (by decide)
        · exact absurd (by omega) hv7
    · exact absurd (by omega) hv4
  · exact absurd hv2 (by omega)
set_option maxHeartbeats 4000000 in
theorem r_told6 {σ0 σ : ZS} {a : Nat → Int32} {tw : Int64} {b : Nat → List Int32} {rr n : Nat} {K N : List Nat} {W : List Int32} {D : List Nat} (hR : RM σ0 σ a tw b) (hC : RC a b rr n K N W D (-1)) {dn : Nat} (c8 : a 8 = nI dn) {o : Nat} (ho : o < n) : Cn 3 M_X8_told 0 0 [.ref 1000, .int (nI o), .int (nI 6)] σ (fun r9 σ' => r9 = some (.int (toldV rr dn n K N W D o 6)) ∧ σ' = σ) := by
  obtain ⟨c7, hrr, c13, hn7, c14, cK, cN, cW, cD, hN7, hW7, hD49, hK5, hN9, hD999⟩ := id hC
  have h2p := Nat.two_pow_pos n
  have h2n := two_le hn7
  refine Cn.intro (lv0 := [some (.ref 1000), some (.int (nI o)), some (.int (nI 6)), none, none]) rfl (Nat.le_of_ble_eq_true rfl) rfl (fun d hd => ?_)
  refine x_iload_n dX8_told_0 rfl ?_
  refine x_i2l dX8_told_1 ?_
  refine x_ldc2 (v := (10)) cl_X8_120 dX8_told_2 ?_
  refine x_ldc2 (v := (16)) cl_X8_122 dX8_told_5 ?_
  refine x_callS m_X8_in l_X8_85 (r_in (p := ((6 : Nat) : Int)) (q := (10)) (r := (16)) (tL (nI_toInt (by omega))) (by decide) (by decide)) (by omega) rfl rfl (Nat.le_of_ble_eq_true rfl) ⟨Nat.le_refl _, Nat.le_refl _⟩ dX8_told_8 (fun r1 s1 q1 => ?_)
  obtain ⟨rfl, eq1⟩ := q1
  obtain rfl := eq1.symm
  refine x_stk (st' := [.int (bI (decide ((10) ≤ ((6 : Nat) : Int) ∧ ((6 : Nat) : Int) ≤ (16))))]) rfl ?_
  refine x_ifP_eq (P := (10) ≤ ((6 : Nat) : Int) ∧ ((6 : Nat) : Int) ≤ (16)) inferInstance (tgt := 29) dX8_told_11 (by decide) (fun hv2 => ?_) (fun hv2 => ?_)
  · refine x_iconst (v := nI 0) dX8_told_29 (by decide) ?_
    refine x_istore_n dX8_told_30 (by decide) rfl ?_
    refine x_lv (lv' := [some (.ref 1000), some (.int (nI o)), some (.int (nI 6)), some (.int (nI 0)), none]) rfl ?_
    refine x_iload_n dX8_told_31 rfl ?_
    refine x_i2l dX8_told_32 ?_
    refine x_lconst (v := 0) dX8_told_33 (by decide) ?_
    refine x_ldc2 (v := (7)) cl_X8_124 dX8_told_34 ?_
    refine x_callS m_X8_in l_X8_85 (r_in (p := ((6 : Nat) : Int)) (q := 0) (r := (7)) (tL (nI_toInt (by omega))) (by decide) (by decide)) (by omega) rfl rfl (Nat.le_of_ble_eq_true rfl) ⟨Nat.le_refl _, Nat.le_refl _⟩ dX8_told_37 (fun r3 s3 q3 => ?_)
    obtain ⟨rfl, eq3⟩ := q3
    obtain rfl := eq3.symm
    refine x_stk (st' := [.int (bI (decide (0 ≤ ((6 : Nat) : Int) ∧ ((6 : Nat) : Int) ≤ (7))))]) rfl ?_
    refine x_ifP_ne (P := 0 ≤ ((6 : Nat) : Int) ∧ ((6 : Nat) : Int) ≤ (7)) inferInstance (tgt := 47) dX8_told_40 (by decide) (fun hv4 => ?_) (fun hv4 => ?_)
    · refine x_iload_n dX8_told_47 rfl ?_
      refine x_iconst (v := nI 1) dX8_told_48 (by decide) ?_
      refine x_icmpN_le (tgt := 63) dX8_told_49 (by decide) (by omega) (by omega) (fun hv5 => ?_) (fun hv5 => ?_)
      · exact absurd hv5 (by decide)
      · refine x_aload_n dX8_told_52 rfl ?_
        refine x_iload_n dX8_told_53 rfl ?_
        refine x_callV m_X8_isOne l_X8_89 (r_isOne hR hC (nI_toInt (by omega))) rfl hR.2.1 (by omega) rfl rfl (Nat.le_of_ble_eq_true rfl) ⟨Nat.le_refl _, Nat.le_refl _⟩ dX8_told_54 (fun r6 s6 q6 => ?_)
        obtain ⟨rfl, eq6⟩ := q6
        obtain rfl := eq6.symm
        refine x_stk (st' := [.int (bI (decide (0 ≤ ((o : Nat) : Int) ∧ ((o : Nat) : Int) < ((n : Nat) : Int))))]) rfl ?_
        refine x_ifP_ne (P := 0 ≤ ((o : Nat) : Int) ∧ ((o : Nat) : Int) < ((n : Nat) : Int)) inferInstance (tgt := 63) dX8_told_57 (by decide) (fun hv7 => ?_) (fun hv7 => ?_)
        · refine x_iload_n dX8_told_63 rfl ?_
          refine x_ifN_eq (tgt := 82) dX8_told_64 (by decide) (by omega) (fun hv8 => ?_) (fun hv8 => ?_)
          · refine x_iload_n dX8_told_82 rfl ?_
            refine x_iconst (v := nI 5) dX8_told_83 (by decide) ?_
            refine x_icmpN_ge (tgt := 145) dX8_told_84 (by decide) (by omega) (by omega) (fun hv9 => ?_) (fun hv9 => ?_)
            · refine x_aload_n dX8_told_145 rfl ?_
              refine x_iload_n dX8_told_146 rfl ?_
              refine x_iconst (v := nI 1) dX8_told_147 (by decide) ?_
              refine x_aload_n dX8_told_148 rfl ?_
              refine x_rget (v := .int (nI n)) f_X8_82 hR (rg c13) dX8_told_149 ?_
              refine x_ishl dX8_told_152 ?_
              refine x_topi (y := nI (2 ^ n)) (z_shl1 (by omega)) ?_
              refine x_iconst (v := nI 1) dX8_told_153 (by decide) ?_
              refine x_isubN (by omega) dX8_told_154 ?_
              refine x_callV m_X8_creditor l_X8_126 (r_creditor hR hC (by omega) (by omega)) rfl hR.2.1 (by omega) rfl rfl (Nat.le_of_ble_eq_true rfl) ⟨Nat.le_refl _, Nat.le_refl _⟩ dX8_told_155 (fun r10 s10 q10 => ?_)
              obtain ⟨rfl, eq10⟩ := q10
              obtain rfl := eq10.symm
              refine x_stk (st' := [.int ((oI (cred D n o (2 ^ n - 1))))]) rfl ?_
              refine x_istore dX8_told_158 (by decide) rfl ?_
              refine x_lv (lv' := [some (.ref 1000), some (.int (nI o)), some (.int (nI 6)), some (.int (nI 0)), some (.int ((oI (cred D n o (2 ^ n - 1)))))]) rfl ?_
              refine x_iload_n dX8_told_160 rfl ?_
              refine x_iconst (v := nI 5) dX8_told_161 (by decide) ?_
              refine x_icmpN_ne (tgt := 170) dX8_told_162 (by decide) (by omega) (by omega) (fun hv11 => ?_) (fun hv11 => ?_)
              · refine x_iload_n dX8_told_170 rfl ?_
                refine x_bipush (v := nI 6) dX8_told_171 (by decide) ?_
                refine x_icmpN_ne (tgt := 194) dX8_told_173 (by decide) (by omega) (by omega) (fun hv12 => ?_) (fun hv12 => ?_)
                · exact absurd hv12 (by decide)
                · rcases hcr : cred D n o (2 ^ n - 1) with _ | c9
                  · refine x_lv (lv' := [some (.ref 1000), some (.int (nI o)), some (.int (nI 6)), some (.int (nI 0)), some (.int ((-1)))]) rfl ?_
                    refine x_aload_n dX8_told_176 rfl ?_
                    refine x_iload_n dX8_told_177 rfl ?_
                    refine x_iload dX8_told_178 rfl ?_
                    refine x_callV m_X8_must l_X8_129 (r_must0 hR hC (by omega)) rfl hR.2.1 (by omega) rfl rfl (Nat.le_of_ble_eq_true rfl) ⟨Nat.le_refl _, Nat.le_refl _⟩ dX8_told_180 (fun r13 s13 q13 => ?_)
                    obtain ⟨rfl, eq13⟩ := q13
                    obtain rfl := eq13.symm
                    refine x_stk (st' := [.int (nI 0)]) rfl ?_
                    refine x_ifN_eq (tgt := 190) dX8_told_183 (by decide) (by omega) (fun hv14 => ?_) (fun hv14 => ?_)
                    · refine x_iconst (v := nI 0) dX8_told_190 (by decide) ?_
                      refine x_goto (tgt := 199) dX8_told_191 (by decide) ?_
                      exact x_iret ⟨Nat.le_refl _, Nat.le_refl _⟩ rfl dX8_told_199 ⟨by rw [toldV, if_neg (by decide), if_neg (by decide), if_neg (by decide), if_neg (by decide), if_neg (by decide), if_neg (by decide), if_pos rfl, if_pos (by rw [wishO, hcr])], rfl⟩
                    · exact absurd hv14 (by decide)
                  · have hc9 := ((credF_ok _ _ _ _).2 c9 hcr).1
                    refine x_lv (lv' := [some (.ref 1000), some (.int (nI o)), some (.int (nI 6)), some (.int (nI 0)), some (.int (nI c9))]) rfl ?_
                    refine x_aload_n dX8_told_176 rfl ?_
                    refine x_iload_n dX8_told_177 rfl ?_
                    refine x_iload dX8_told_178 rfl ?_
                    refine x_callV m_X8_must l_X8_129 (r_must hR hC (by omega) (by omega)) rfl hR.2.1 (by omega) rfl rfl (Nat.le_of_ble_eq_true rfl) ⟨Nat.le_refl _, Nat.le_refl _⟩ dX8_told_180 (fun r15 s15 q15 => ?_)
                    obtain ⟨rfl, eq15⟩ := q15
                    obtain rfl := eq15.symm
                    refine x_stk (st' := [.int (bI (decide (¬ ((o : Nat) : Int) = (-1 : Int32).toInt ∧ mustB (K.getD o 0) (N.getD o 0) (D.getD (o * 7 + c9) 0) = true)))]) rfl ?_
                    refine x_ifP_eq (P := ¬ ((o : Nat) : Int) = (-1 : Int32).toInt ∧ mustB (K.getD o 0) (N.getD o 0) (D.getD (o * 7 + c9) 0) = true) inferInstance (tgt := 190) dX8_told_183 (by decide) (fun hv16 => ?_) (fun hv16 => ?_)
                    · refine x_iconst (v := nI 0) dX8_told_190 (by decide) ?_
                      refine x_goto (tgt := 199) dX8_told_191 (by decide) ?_
                      exact x_iret ⟨Nat.le_refl _, Nat.le_refl _⟩ rfl dX8_told_199 ⟨by rw [toldV, if_neg (by decide), if_neg (by decide), if_neg (by decide), if_neg (by decide), if_neg (by decide), if_neg (by decide), if_pos rfl, if_pos (by rw [wishO, hcr]; simp only; rw [if_neg (fun z => hv16 ⟨fun y => by rw [show (-1 : Int32).toInt = -1 by decide] at y; omega, z⟩)])], rfl⟩
                    · refine x_iconst (v := nI 1) dX8_told_186 (by decide) ?_
                      refine x_goto (tgt := 199) dX8_told_187 (by decide) ?_
                      exact x_iret ⟨Nat.le_refl _, Nat.le_refl _⟩ rfl dX8_told_199 ⟨by rw [toldV, if_neg (by decide), if_neg (by decide), if_neg (by decide), if_neg (by decide), if_neg (by decide), if_neg (by decide), if_pos rfl, if_neg (by rw [wishO, hcr]; simp only; rw [if_pos hv16.2]; exact fun z => by cases z)], rfl⟩
              · exact absurd hv11 (by decide)
            · exact absurd hv9 (by decide)
          · exact absurd hv8 (by decide)
        · exact absurd (by omega) hv7
    · exact absurd (by omega) hv4
  · exact absurd hv2 (by omega)
set_option maxHeartbeats 4000000 in
theorem r_told7 {σ0 σ : ZS} {a : Nat → Int32} {tw : Int64} {b : Nat → List Int32} {rr n : Nat} {K N : List Nat} {W : List Int32} {D : List Nat} (hR : RM σ0 σ a tw b) (hC : RC a b rr n K N W D (-1)) {dn : Nat} (c8 : a 8 = nI dn) {o : Nat} (ho : o < n) : Cn 3 M_X8_told 0 0 [.ref 1000, .int (nI o), .int (nI 7)] σ (fun r9 σ' => r9 = some (.int (toldV rr dn n K N W D o 7)) ∧ σ' = σ) := by
  obtain ⟨c7, hrr, c13, hn7, c14, cK, cN, cW, cD, hN7, hW7, hD49, hK5, hN9, hD999⟩ := id hC
  have h2p := Nat.two_pow_pos n
  have h2n := two_le hn7
  refine Cn.intro (lv0 := [some (.ref 1000), some (.int (nI o)), some (.int (nI 7)), none, none]) rfl (Nat.le_of_ble_eq_true rfl) rfl (fun d hd => ?_)
  refine x_iload_n dX8_told_0 rfl ?_
  refine x_i2l dX8_told_1 ?_
  refine x_ldc2 (v := (10)) cl_X8_120 dX8_told_2 ?_
  refine x_ldc2 (v := (16)) cl_X8_122 dX8_told_5 ?_
  refine x_callS m_X8_in l_X8_85 (r_in (p := ((7 : Nat) : Int)) (q := (10)) (r := (16)) (tL (nI_toInt (by omega))) (by decide) (by decide)) (by omega) rfl rfl (Nat.le_of_ble_eq_true rfl) ⟨Nat.le_refl _, Nat.le_refl _⟩ dX8_told_8 (fun r1 s1 q1 => ?_)
  obtain ⟨rfl, eq1⟩ := q1
  obtain rfl := eq1.symm
  refine x_stk (st' := [.int (bI (decide ((10) ≤ ((7 : Nat) : Int) ∧ ((7 : Nat) : Int) ≤ (16))))]) rfl ?_
  refine x_ifP_eq (P := (10) ≤ ((7 : Nat) : Int) ∧ ((7 : Nat) : Int) ≤ (16)) inferInstance (tgt := 29) dX8_told_11 (by decide) (fun hv2 => ?_) (fun hv2 => ?_)
  · refine x_iconst (v := nI 0) dX8_told_29 (by decide) ?_
    refine x_istore_n dX8_told_30 (by decide) rfl ?_
    refine x_lv (lv' := [some (.ref 1000), some (.int (nI o)), some (.int (nI 7)), some (.int (nI 0)), none]) rfl ?_
    refine x_iload_n dX8_told_31 rfl ?_
    refine x_i2l dX8_told_32 ?_
    refine x_lconst (v := 0) dX8_told_33 (by decide) ?_
    refine x_ldc2 (v := (7)) cl_X8_124 dX8_told_34 ?_
    refine x_callS m_X8_in l_X8_85 (r_in (p := ((7 : Nat) : Int)) (q := 0) (r := (7)) (tL (nI_toInt (by omega))) (by decide) (by decide)) (by omega) rfl rfl (Nat.le_of_ble_eq_true rfl) ⟨Nat.le_refl _, Nat.le_refl _⟩ dX8_told_37 (fun r3 s3 q3 => ?_)
    obtain ⟨rfl, eq3⟩ := q3
    obtain rfl := eq3.symm
    refine x_stk (st' := [.int (bI (decide (0 ≤ ((7 : Nat) : Int) ∧ ((7 : Nat) : Int) ≤ (7))))]) rfl ?_
    refine x_ifP_ne (P := 0 ≤ ((7 : Nat) : Int) ∧ ((7 : Nat) : Int) ≤ (7)) inferInstance (tgt := 47) dX8_told_40 (by decide) (fun hv4 => ?_) (fun hv4 => ?_)
    · refine x_iload_n dX8_told_47 rfl ?_
      refine x_iconst (v := nI 1) dX8_told_48 (by decide) ?_
      refine x_icmpN_le (tgt := 63) dX8_told_49 (by decide) (by omega) (by omega) (fun hv5 => ?_) (fun hv5 => ?_)
      · exact absurd hv5 (by decide)
      · refine x_aload_n dX8_told_52 rfl ?_
        refine x_iload_n dX8_told_53 rfl ?_
        refine x_callV m_X8_isOne l_X8_89 (r_isOne hR hC (nI_toInt (by omega))) rfl hR.2.1 (by omega) rfl rfl (Nat.le_of_ble_eq_true rfl) ⟨Nat.le_refl _, Nat.le_refl _⟩ dX8_told_54 (fun r6 s6 q6 => ?_)
        obtain ⟨rfl, eq6⟩ := q6
        obtain rfl := eq6.symm
        refine x_stk (st' := [.int (bI (decide (0 ≤ ((o : Nat) : Int) ∧ ((o : Nat) : Int) < ((n : Nat) : Int))))]) rfl ?_
        refine x_ifP_ne (P := 0 ≤ ((o : Nat) : Int) ∧ ((o : Nat) : Int) < ((n : Nat) : Int)) inferInstance (tgt := 63) dX8_told_57 (by decide) (fun hv7 => ?_) (fun hv7 => ?_)
        · refine x_iload_n dX8_told_63 rfl ?_
          refine x_ifN_eq (tgt := 82) dX8_told_64 (by decide) (by omega) (fun hv8 => ?_) (fun hv8 => ?_)
          · refine x_iload_n dX8_told_82 rfl ?_
            refine x_iconst (v := nI 5) dX8_told_83 (by decide) ?_
            refine x_icmpN_ge (tgt := 145) dX8_told_84 (by decide) (by omega) (by omega) (fun hv9 => ?_) (fun hv9 => ?_)
            · refine x_aload_n dX8_told_145 rfl ?_
              refine x_iload_n dX8_told_146 rfl ?_
              refine x_iconst (v := nI 1) dX8_told_147 (by decide) ?_
              refine x_aload_n dX8_told_148 rfl ?_
              refine x_rget (v := .int (nI n)) f_X8_82 hR (rg c13) dX8_told_149 ?_
              refine x_ishl dX8_told_152 ?_
              refine x_topi (y := nI (2 ^ n)) (z_shl1 (by omega)) ?_
              refine x_iconst (v := nI 1) dX8_told_153 (by decide) ?_
              refine x_isubN (by omega) dX8_told_154 ?_
              refine x_callV m_X8_creditor l_X8_126 (r_creditor hR hC (by omega) (by omega)) rfl hR.2.1 (by omega) rfl rfl (Nat.le_of_ble_eq_true rfl) ⟨Nat.le_refl _, Nat.le_refl _⟩ dX8_told_155 (fun r10 s10 q10 => ?_)
              obtain ⟨rfl, eq10⟩ := q10
              obtain rfl := eq10.symm
              refine x_stk (st' := [.int ((oI (cred D n o (2 ^ n - 1))))]) rfl ?_
              refine x_istore dX8_told_158 (by decide) rfl ?_
              refine x_lv (lv' := [some (.ref 1000), some (.int (nI o)), some (.int (nI 7)), some (.int (nI 0)), some (.int ((oI (cred D n o (2 ^ n - 1)))))]) rfl ?_
              refine x_iload_n dX8_told_160 rfl ?_
              refine x_iconst (v := nI 5) dX8_told_161 (by decide) ?_
              refine x_icmpN_ne (tgt := 170) dX8_told_162 (by decide) (by omega) (by omega) (fun hv11 => ?_) (fun hv11 => ?_)
              · refine x_iload_n dX8_told_170 rfl ?_
                refine x_bipush (v := nI 6) dX8_told_171 (by decide) ?_
                refine x_icmpN_ne (tgt := 194) dX8_told_173 (by decide) (by omega) (by omega) (fun hv12 => ?_) (fun hv12 => ?_)
                · refine x_aload_n dX8_told_194 rfl ?_
                  refine x_iload_n dX8_told_195 rfl ?_
                  refine x_callV m_X8_owesAll l_X8_132 (r_owesAll hR hC (by omega)) rfl hR.2.1 (by omega) rfl rfl (Nat.le_of_ble_eq_true rfl) ⟨Nat.le_refl _, Nat.le_refl _⟩ dX8_told_196 (fun r13 s13 q13 => ?_)
                  obtain ⟨rfl, eq13⟩ := q13
                  obtain rfl := eq13.symm
                  refine x_stk (st' := [.int (nI ((rowS D o n)))]) rfl ?_
                  exact x_iret ⟨Nat.le_refl _, Nat.le_refl _⟩ rfl dX8_told_199 ⟨rfl, rfl⟩
                · exact absurd hv12 (by decide)
              · exact absurd hv11 (by decide)
            · exact absurd hv9 (by decide)
          · exact absurd hv8 (by decide)
        · exact absurd (by omega) hv7
    · exact absurd (by omega) hv4
  · exact absurd hv2 (by omega)
set_option maxHeartbeats 4000000 in
theorem r_toldN {σ0 σ : ZS} {a : Nat → Int32} {tw : Int64} {b : Nat → List Int32} {rr n : Nat} {K N : List Nat} {W : List Int32} {D : List Nat} (hR : RM σ0 σ a tw b) (hC : RC a b rr n K N W D (-1)) {dn : Nat} (c8 : a 8 = nI dn) {o w : Nat} (ho : o < n) (hw : 10 ≤ w) (hw2 : w < 10 + n) : Cn 3 M_X8_told 0 0 [.ref 1000, .int (nI o), .int (nI w)] σ (fun r9 σ' => r9 = some (.int (toldV rr dn n K N W D o w)) ∧ σ' = σ) := by
  obtain ⟨c7, hrr, c13, hn7, c14, cK, cN, cW, cD, hN7, hW7, hD49, hK5, hN9, hD999⟩ := id hC
  have h2p := Nat.two_pow_pos n
  have h2n := two_le hn7
  refine Cn.intro (lv0 := [some (.ref 1000), some (.int (nI o)), some (.int (nI w)), none, none]) rfl (Nat.le_of_ble_eq_true rfl) rfl (fun d hd => ?_)
  refine x_iload_n dX8_told_0 rfl ?_
  refine x_i2l dX8_told_1 ?_
  refine x_ldc2 (v := (10)) cl_X8_120 dX8_told_2 ?_
  refine x_ldc2 (v := (16)) cl_X8_122 dX8_told_5 ?_
  refine x_callS m_X8_in l_X8_85 (r_in (p := ((w : Nat) : Int)) (q := (10)) (r := (16)) (tL (nI_toInt (by omega))) (by decide) (by decide)) (by omega) rfl rfl (Nat.le_of_ble_eq_true rfl) ⟨Nat.le_refl _, Nat.le_refl _⟩ dX8_told_8 (fun r1 s1 q1 => ?_)
  obtain ⟨rfl, eq1⟩ := q1
  obtain rfl := eq1.symm
  refine x_stk (st' := [.int (bI (decide ((10) ≤ ((w : Nat) : Int) ∧ ((w : Nat) : Int) ≤ (16))))]) rfl ?_
  refine x_ifP_eq (P := (10) ≤ ((w : Nat) : Int) ∧ ((w : Nat) : Int) ≤ (16)) inferInstance (tgt := 29) dX8_told_11 (by decide) (fun hv2 => ?_) (fun hv2 => ?_)
  · exact absurd (by omega) hv2
  · refine x_aload_n dX8_told_14 rfl ?_
    refine x_iload_n dX8_told_15 rfl ?_
    refine x_bipush (v := nI 10) dX8_told_16 (by decide) ?_
    refine x_isubN (by omega) dX8_told_18 ?_
    refine x_callV m_X8_isOne l_X8_89 (r_isOne hR hC (nI_toInt (by omega))) rfl hR.2.1 (by omega) rfl rfl (Nat.le_of_ble_eq_true rfl) ⟨Nat.le_refl _, Nat.le_refl _⟩ dX8_told_19 (fun r3 s3 q3 => ?_)
    obtain ⟨rfl, eq3⟩ := q3
    obtain rfl := eq3.symm
    refine x_stk (st' := [.int (bI (decide (0 ≤ ((w - 10 : Nat) : Int) ∧ ((w - 10 : Nat) : Int) < ((n : Nat) : Int))))]) rfl ?_
    refine x_ifP_eq (P := 0 ≤ ((w - 10 : Nat) : Int) ∧ ((w - 10 : Nat) : Int) < ((n : Nat) : Int)) inferInstance (tgt := 29) dX8_told_22 (by decide) (fun hv4 => ?_) (fun hv4 => ?_)
    · exact absurd (by omega) hv4
    · refine x_iconst (v := nI 1) dX8_told_25 (by decide) ?_
      refine x_goto (tgt := 30) dX8_told_26 (by decide) ?_
      refine x_istore_n dX8_told_30 (by decide) rfl ?_
      refine x_lv (lv' := [some (.ref 1000), some (.int (nI o)), some (.int (nI w)), some (.int (nI 1)), none]) rfl ?_
      refine x_iload_n dX8_told_31 rfl ?_
      refine x_i2l dX8_told_32 ?_
      refine x_lconst (v := 0) dX8_told_33 (by decide) ?_
      refine x_ldc2 (v := (7)) cl_X8_124 dX8_told_34 ?_
      refine x_callS m_X8_in l_X8_85 (r_in (p := ((w : Nat) : Int)) (q := 0) (r := (7)) (tL (nI_toInt (by omega))) (by decide) (by decide)) (by omega) rfl rfl (Nat.le_of_ble_eq_true rfl) ⟨Nat.le_refl _, Nat.le_refl _⟩ dX8_told_37 (fun r5 s5 q5 => ?_)
      obtain ⟨rfl, eq5⟩ := q5
      obtain rfl := eq5.symm
      refine x_stk (st' := [.int (bI (decide (0 ≤ ((w : Nat) : Int) ∧ ((w : Nat) : Int) ≤ (7))))]) rfl ?_
      refine x_ifP_ne (P := 0 ≤ ((w : Nat) : Int) ∧ ((w : Nat) : Int) ≤ (7)) inferInstance (tgt := 47) dX8_told_40 (by decide) (fun hv6 => ?_) (fun hv6 => ?_)
      · exact absurd hv6 (by omega)
      · refine x_iload_n dX8_told_43 rfl ?_
        refine x_ifN_eq (tgt := 60) dX8_told_44 (by decide) (by omega) (fun hv7 => ?_) (fun hv7 => ?_)
        · exact absurd hv7 (by decide)
        · refine x_iload_n dX8_told_47 rfl ?_
          refine x_iconst (v := nI 1) dX8_told_48 (by decide) ?_
          refine x_icmpN_le (tgt := 63) dX8_told_49 (by decide) (by omega) (by omega) (fun hv8 => ?_) (fun hv8 => ?_)
          · refine x_iload_n dX8_told_63 rfl ?_
            refine x_ifN_eq (tgt := 82) dX8_told_64 (by decide) (by omega) (fun hv9 => ?_) (fun hv9 => ?_)
            · exact absurd hv9 (by decide)
            · refine x_aload_n dX8_told_67 rfl ?_
              refine x_rget f_X8_35 hR rfl dX8_told_68 ?_
              refine x_bipush (v := nI 7) dX8_told_71 (by decide) ?_
              refine x_iload_n dX8_told_73 rfl ?_
              refine x_imulN dX8_told_74 ?_
              refine x_topi (y := nI (o * 7)) (by rw [Nat.mul_comm]) ?_
              refine x_iload_n dX8_told_75 rfl ?_
              refine x_iaddN dX8_told_76 ?_
              refine x_bipush (v := nI 10) dX8_told_77 (by decide) ?_
              refine x_isubN (by omega) dX8_told_79 ?_
              refine x_rald (j := 6) (n := ((o * 7) + w) - 10) hR rfl (by decide) rfl rfl (rlt hR (m := 49) (by decide) rfl (by omega)) dX8_told_80 ?_
              refine x_topi (y := nI ((D.getD (((o * 7) + w) - 10) 0))) (rgN cD) ?_
              exact x_iret ⟨Nat.le_refl _, Nat.le_refl _⟩ rfl dX8_told_81 ⟨by rw [toldV, if_neg (by omega), if_neg (by omega), if_neg (by omega), if_neg (by omega), if_neg (by omega), if_neg (by omega), if_neg (by omega), if_neg (by omega)]; congr 4; omega, rfl⟩
          · refine x_aload_n dX8_told_52 rfl ?_
            refine x_iload_n dX8_told_53 rfl ?_
            refine x_callV m_X8_isOne l_X8_89 (r_isOne hR hC (nI_toInt (by omega))) rfl hR.2.1 (by omega) rfl rfl (Nat.le_of_ble_eq_true rfl) ⟨Nat.le_refl _, Nat.le_refl _⟩ dX8_told_54 (fun r10 s10 q10 => ?_)
            obtain ⟨rfl, eq10⟩ := q10
            obtain rfl := eq10.symm
            refine x_stk (st' := [.int (bI (decide (0 ≤ ((o : Nat) : Int) ∧ ((o : Nat) : Int) < ((n : Nat) : Int))))]) rfl ?_
            refine x_ifP_ne (P := 0 ≤ ((o : Nat) : Int) ∧ ((o : Nat) : Int) < ((n : Nat) : Int)) inferInstance (tgt := 63) dX8_told_57 (by decide) (fun hv11 => ?_) (fun hv11 => ?_)
            · refine x_iload_n dX8_told_63 rfl ?_
              refine x_ifN_eq (tgt := 82) dX8_told_64 (by decide) (by omega) (fun hv12 => ?_) (fun hv12 => ?_)
              · exact absurd hv12 (by decide)
              · refine x_aload_n dX8_told_67 rfl ?_
                refine x_rget f_X8_35 hR rfl dX8_told_68 ?_
                refine x_bipush (v := nI 7) dX8_told_71 (by decide) ?_
                refine x_iload_n dX8_told_73 rfl ?_
                refine x_imulN dX8_told_74 ?_
                refine x_topi (y := nI (o * 7)) (by rw [Nat.mul_comm]) ?_
                refine x_iload_n dX8_told_75 rfl ?_
                refine x_iaddN dX8_told_76 ?_
                refine x_bipush (v := nI 10) dX8_told_77 (by decide) ?_
                refine x_isubN (by omega) dX8_told_79 ?_
                refine x_rald (j := 6) (n := ((o * 7) + w) - 10) hR rfl (by decide) rfl rfl (rlt hR (m := 49) (by decide) rfl (by omega)) dX8_told_80 ?_
                refine x_topi (y := nI ((D.getD (((o * 7) + w) - 10) 0))) (rgN cD) ?_
                exact x_iret ⟨Nat.le_refl _, Nat.le_refl _⟩ rfl dX8_told_81 ⟨by rw [toldV, if_neg (by omega), if_neg (by omega), if_neg (by omega), if_neg (by omega), if_neg (by omega), if_neg (by omega), if_neg (by omega), if_neg (by omega)]; congr 4; omega, rfl⟩
            · exact absurd (by omega) hv11
theorem sub10 {y : Int32} (h : 10 ≤ y.toInt) : (y - nI 10).toInt = y.toInt - 10 := by
  have h2 := tI_hi y
  rw [Int32.toInt_sub, tI_nI (by decide), bm32 (by omega) (by omega)]
  rfl
set_option maxHeartbeats 4000000 in
theorem r_told_b {σ0 σ : ZS} {a : Nat → Int32} {tw : Int64} {b : Nat → List Int32} {rr n : Nat} {K N : List Nat} {W : List Int32} {D : List Nat} (hR : RM σ0 σ a tw b) (hC : RC a b rr n K N W D (-1)) {dn : Nat} (c8 : a 8 = nI dn) {x y : Int32} (hb : (¬ (0 ≤ y.toInt ∧ y.toInt ≤ 7) ∧ ¬ (10 ≤ y.toInt ∧ y.toInt ≤ 16 ∧ y.toInt - 10 < (n : Int))) ∨ (1 < y.toInt ∧ ¬ (0 ≤ x.toInt ∧ x.toInt < (n : Int)))) : Cn 3 M_X8_told 0 0 [.ref 1000, .int x, .int y] σ (fun r9 σ' => r9 = some (.int (-2)) ∧ σ' = σ) := by
  obtain ⟨c7, hrr, c13, hn7, c14, cK, cN, cW, cD, hN7, hW7, hD49, hK5, hN9, hD999⟩ := id hC
  have h2p := Nat.two_pow_pos n
  have h2n := two_le hn7
  refine Cn.intro (lv0 := [some (.ref 1000), some (.int x), some (.int y), none, none]) rfl (Nat.le_of_ble_eq_true rfl) rfl (fun d hd => ?_)
  refine x_iload_n dX8_told_0 rfl ?_
  refine x_i2l dX8_told_1 ?_
  refine x_ldc2 (v := (10)) cl_X8_120 dX8_told_2 ?_
  refine x_ldc2 (v := (16)) cl_X8_122 dX8_told_5 ?_
  refine x_callS m_X8_in l_X8_85 (r_in (p := (y).toInt) (q := (10)) (r := (16)) (tL rfl) (by decide) (by decide)) (by omega) rfl rfl (Nat.le_of_ble_eq_true rfl) ⟨Nat.le_refl _, Nat.le_refl _⟩ dX8_told_8 (fun r1 s1 q1 => ?_)
  obtain ⟨rfl, eq1⟩ := q1
  obtain rfl := eq1.symm
  refine x_stk (st' := [.int (bI (decide ((10) ≤ (y).toInt ∧ (y).toInt ≤ (16))))]) rfl ?_
  refine x_ifP_eq (P := (10) ≤ (y).toInt ∧ (y).toInt ≤ (16)) inferInstance (tgt := 29) dX8_told_11 (by decide) (fun hv2 => ?_) (fun hv2 => ?_)
  · refine x_iconst (v := nI 0) dX8_told_29 (by decide) ?_
    refine x_istore_n dX8_told_30 (by decide) rfl ?_
    refine x_lv (lv' := [some (.ref 1000), some (.int x), some (.int y), some (.int (nI 0)), none]) rfl ?_
    refine x_iload_n dX8_told_31 rfl ?_
    refine x_i2l dX8_told_32 ?_
    refine x_lconst (v := 0) dX8_told_33 (by decide) ?_
    refine x_ldc2 (v := (7)) cl_X8_124 dX8_told_34 ?_
    refine x_callS m_X8_in l_X8_85 (r_in (p := (y).toInt) (q := 0) (r := (7)) (tL rfl) (by decide) (by decide)) (by omega) rfl rfl (Nat.le_of_ble_eq_true rfl) ⟨Nat.le_refl _, Nat.le_refl _⟩ dX8_told_37 (fun r3 s3 q3 => ?_)
    obtain ⟨rfl, eq3⟩ := q3
    obtain rfl := eq3.symm
    refine x_stk (st' := [.int (bI (decide (0 ≤ (y).toInt ∧ (y).toInt ≤ (7))))]) rfl ?_
    refine x_ifP_ne (P := 0 ≤ (y).toInt ∧ (y).toInt ≤ (7)) inferInstance (tgt := 47) dX8_told_40 (by decide) (fun hv4 => ?_) (fun hv4 => ?_)
    · refine x_iload_n dX8_told_47 rfl ?_
      refine x_iconst (v := nI 1) dX8_told_48 (by decide) ?_
      refine x_icmpT_le (p := (y).toInt) (q := ((1 : Nat) : Int)) (tgt := 63) rfl (nI_toInt (by omega)) dX8_told_49 (by decide) (fun hv5 => ?_) (fun hv5 => ?_)
      · exfalso; omega
      · refine x_aload_n dX8_told_52 rfl ?_
        refine x_iload_n dX8_told_53 rfl ?_
        refine x_callV m_X8_isOne l_X8_89 (r_isOne hR hC rfl) rfl hR.2.1 (by omega) rfl rfl (Nat.le_of_ble_eq_true rfl) ⟨Nat.le_refl _, Nat.le_refl _⟩ dX8_told_54 (fun r6 s6 q6 => ?_)
        obtain ⟨rfl, eq6⟩ := q6
        obtain rfl := eq6.symm
        refine x_stk (st' := [.int (bI (decide (0 ≤ (x).toInt ∧ (x).toInt < ((n : Nat) : Int))))]) rfl ?_
        refine x_ifP_ne (P := 0 ≤ (x).toInt ∧ (x).toInt < ((n : Nat) : Int)) inferInstance (tgt := 63) dX8_told_57 (by decide) (fun hv7 => ?_) (fun hv7 => ?_)
        · exfalso; omega
        · refine x_bipush (v := (-2)) dX8_told_60 (by decide) ?_
          exact x_iret ⟨Nat.le_refl _, Nat.le_refl _⟩ rfl dX8_told_62 ⟨rfl, rfl⟩
    · refine x_iload_n dX8_told_43 rfl ?_
      refine x_ifN_eq (tgt := 60) dX8_told_44 (by decide) (by omega) (fun hv8 => ?_) (fun hv8 => ?_)
      · refine x_bipush (v := (-2)) dX8_told_60 (by decide) ?_
        exact x_iret ⟨Nat.le_refl _, Nat.le_refl _⟩ rfl dX8_told_62 ⟨rfl, rfl⟩
      · exact absurd hv8 (by decide)
  · refine x_aload_n dX8_told_14 rfl ?_
    refine x_iload_n dX8_told_15 rfl ?_
    refine x_bipush (v := nI 10) dX8_told_16 (by decide) ?_
    refine x_isub dX8_told_18 ?_
    refine x_callV m_X8_isOne l_X8_89 (r_isOne hR hC (sub10 hv2.1)) rfl hR.2.1 (by omega) rfl rfl (Nat.le_of_ble_eq_true rfl) ⟨Nat.le_refl _, Nat.le_refl _⟩ dX8_told_19 (fun r9 s9 q9 => ?_)
    obtain ⟨rfl, eq9⟩ := q9
    obtain rfl := eq9.symm
    refine x_stk (st' := [.int (bI (decide (0 ≤ (y.toInt - 10) ∧ (y.toInt - 10) < ((n : Nat) : Int))))]) rfl ?_
    refine x_ifP_eq (P := 0 ≤ (y.toInt - 10) ∧ (y.toInt - 10) < ((n : Nat) : Int)) inferInstance (tgt := 29) dX8_told_22 (by decide) (fun hv10 => ?_) (fun hv10 => ?_)
    · refine x_iconst (v := nI 0) dX8_told_29 (by decide) ?_
      refine x_istore_n dX8_told_30 (by decide) rfl ?_
      refine x_lv (lv' := [some (.ref 1000), some (.int x), some (.int y), some (.int (nI 0)), none]) rfl ?_
      refine x_iload_n dX8_told_31 rfl ?_
      refine x_i2l dX8_told_32 ?_
      refine x_lconst (v := 0) dX8_told_33 (by decide) ?_
      refine x_ldc2 (v := (7)) cl_X8_124 dX8_told_34 ?_
      refine x_callS m_X8_in l_X8_85 (r_in (p := (y).toInt) (q := 0) (r := (7)) (tL rfl) (by decide) (by decide)) (by omega) rfl rfl (Nat.le_of_ble_eq_true rfl) ⟨Nat.le_refl _, Nat.le_refl _⟩ dX8_told_37 (fun r11 s11 q11 => ?_)
      obtain ⟨rfl, eq11⟩ := q11
      obtain rfl := eq11.symm
      refine x_stk (st' := [.int (bI (decide (0 ≤ (y).toInt ∧ (y).toInt ≤ (7))))]) rfl ?_
      refine x_ifP_ne (P := 0 ≤ (y).toInt ∧ (y).toInt ≤ (7)) inferInstance (tgt := 47) dX8_told_40 (by decide) (fun hv12 => ?_) (fun hv12 => ?_)
      · refine x_iload_n dX8_told_47 rfl ?_
        refine x_iconst (v := nI 1) dX8_told_48 (by decide) ?_
        refine x_icmpT_le (p := (y).toInt) (q := ((1 : Nat) : Int)) (tgt := 63) rfl (nI_toInt (by omega)) dX8_told_49 (by decide) (fun hv13 => ?_) (fun hv13 => ?_)
        · exfalso; omega
        · refine x_aload_n dX8_told_52 rfl ?_
          refine x_iload_n dX8_told_53 rfl ?_
          refine x_callV m_X8_isOne l_X8_89 (r_isOne hR hC rfl) rfl hR.2.1 (by omega) rfl rfl (Nat.le_of_ble_eq_true rfl) ⟨Nat.le_refl _, Nat.le_refl _⟩ dX8_told_54 (fun r14 s14 q14 => ?_)
          obtain ⟨rfl, eq14⟩ := q14
          obtain rfl := eq14.symm
          refine x_stk (st' := [.int (bI (decide (0 ≤ (x).toInt ∧ (x).toInt < ((n : Nat) : Int))))]) rfl ?_
          refine x_ifP_ne (P := 0 ≤ (x).toInt ∧ (x).toInt < ((n : Nat) : Int)) inferInstance (tgt := 63) dX8_told_57 (by decide) (fun hv15 => ?_) (fun hv15 => ?_)
          · exfalso; omega
          · refine x_bipush (v := (-2)) dX8_told_60 (by decide) ?_
            exact x_iret ⟨Nat.le_refl _, Nat.le_refl _⟩ rfl dX8_told_62 ⟨rfl, rfl⟩
      · refine x_iload_n dX8_told_43 rfl ?_
        refine x_ifN_eq (tgt := 60) dX8_told_44 (by decide) (by omega) (fun hv16 => ?_) (fun hv16 => ?_)
        · refine x_bipush (v := (-2)) dX8_told_60 (by decide) ?_
          exact x_iret ⟨Nat.le_refl _, Nat.le_refl _⟩ rfl dX8_told_62 ⟨rfl, rfl⟩
        · exact absurd hv16 (by decide)
    · refine x_iconst (v := nI 1) dX8_told_25 (by decide) ?_
      refine x_goto (tgt := 30) dX8_told_26 (by decide) ?_
      refine x_istore_n dX8_told_30 (by decide) rfl ?_
      refine x_lv (lv' := [some (.ref 1000), some (.int x), some (.int y), some (.int (nI 1)), none]) rfl ?_
      refine x_iload_n dX8_told_31 rfl ?_
      refine x_i2l dX8_told_32 ?_
      refine x_lconst (v := 0) dX8_told_33 (by decide) ?_
      refine x_ldc2 (v := (7)) cl_X8_124 dX8_told_34 ?_
      refine x_callS m_X8_in l_X8_85 (r_in (p := (y).toInt) (q := 0) (r := (7)) (tL rfl) (by decide) (by decide)) (by omega) rfl rfl (Nat.le_of_ble_eq_true rfl) ⟨Nat.le_refl _, Nat.le_refl _⟩ dX8_told_37 (fun r17 s17 q17 => ?_)
      obtain ⟨rfl, eq17⟩ := q17
      obtain rfl := eq17.symm
      refine x_stk (st' := [.int (bI (decide (0 ≤ (y).toInt ∧ (y).toInt ≤ (7))))]) rfl ?_
      refine x_ifP_ne (P := 0 ≤ (y).toInt ∧ (y).toInt ≤ (7)) inferInstance (tgt := 47) dX8_told_40 (by decide) (fun hv18 => ?_) (fun hv18 => ?_)
      · refine x_iload_n dX8_told_47 rfl ?_
        refine x_iconst (v := nI 1) dX8_told_48 (by decide) ?_
        refine x_icmpT_le (p := (y).toInt) (q := ((1 : Nat) : Int)) (tgt := 63) rfl (nI_toInt (by omega)) dX8_told_49 (by decide) (fun hv19 => ?_) (fun hv19 => ?_)
        · exfalso; omega
        · refine x_aload_n dX8_told_52 rfl ?_
          refine x_iload_n dX8_told_53 rfl ?_
          refine x_callV m_X8_isOne l_X8_89 (r_isOne hR hC rfl) rfl hR.2.1 (by omega) rfl rfl (Nat.le_of_ble_eq_true rfl) ⟨Nat.le_refl _, Nat.le_refl _⟩ dX8_told_54 (fun r20 s20 q20 => ?_)
          obtain ⟨rfl, eq20⟩ := q20
          obtain rfl := eq20.symm
          refine x_stk (st' := [.int (bI (decide (0 ≤ (x).toInt ∧ (x).toInt < ((n : Nat) : Int))))]) rfl ?_
          refine x_ifP_ne (P := 0 ≤ (x).toInt ∧ (x).toInt < ((n : Nat) : Int)) inferInstance (tgt := 63) dX8_told_57 (by decide) (fun hv21 => ?_) (fun hv21 => ?_)
          · exfalso; omega
          · refine x_bipush (v := (-2)) dX8_told_60 (by decide) ?_
            exact x_iret ⟨Nat.le_refl _, Nat.le_refl _⟩ rfl dX8_told_62 ⟨rfl, rfl⟩
      · refine x_iload_n dX8_told_43 rfl ?_
        refine x_ifN_eq (tgt := 60) dX8_told_44 (by decide) (by omega) (fun hv22 => ?_) (fun hv22 => ?_)
        · exact absurd hv22 (by decide)
        · refine x_iload_n dX8_told_47 rfl ?_
          refine x_iconst (v := nI 1) dX8_told_48 (by decide) ?_
          refine x_icmpT_le (p := (y).toInt) (q := ((1 : Nat) : Int)) (tgt := 63) rfl (nI_toInt (by omega)) dX8_told_49 (by decide) (fun hv23 => ?_) (fun hv23 => ?_)
          · exfalso; omega
          · refine x_aload_n dX8_told_52 rfl ?_
            refine x_iload_n dX8_told_53 rfl ?_
            refine x_callV m_X8_isOne l_X8_89 (r_isOne hR hC rfl) rfl hR.2.1 (by omega) rfl rfl (Nat.le_of_ble_eq_true rfl) ⟨Nat.le_refl _, Nat.le_refl _⟩ dX8_told_54 (fun r24 s24 q24 => ?_)
            obtain ⟨rfl, eq24⟩ := q24
            obtain rfl := eq24.symm
            refine x_stk (st' := [.int (bI (decide (0 ≤ (x).toInt ∧ (x).toInt < ((n : Nat) : Int))))]) rfl ?_
            refine x_ifP_ne (P := 0 ≤ (x).toInt ∧ (x).toInt < ((n : Nat) : Int)) inferInstance (tgt := 63) dX8_told_57 (by decide) (fun hv25 => ?_) (fun hv25 => ?_)
            · exfalso; omega
            · refine x_bipush (v := (-2)) dX8_told_60 (by decide) ?_
              exact x_iret ⟨Nat.le_refl _, Nat.le_refl _⟩ rfl dX8_told_62 ⟨rfl, rfl⟩
set_option maxHeartbeats 4000000 in
theorem r_lays2 {σ0 σ : ZS} {a : Nat → Int32} {tw : Int64} {b : Nat → List Int32} (hR : RM σ0 σ a tw b) {p : Nat} (hp : p < 7) {v : Int32} : Cn 0 M_X8_lays 0 0 [.ref 1000, .int (nI 2), .int (nI p), .int v] σ (fun r9 σ' => r9 = none ∧ RM σ0 σ' a tw (up b 4 ((b 4).set p v))) := by
  refine Cn.intro (lv0 := [some (.ref 1000), some (.int (nI 2)), some (.int (nI p)), some (.int v)]) rfl (Nat.le_of_ble_eq_true rfl) rfl (fun d hd => ?_)
  refine x_iload_n dX8_lays_0 rfl ?_
  refine x_ifN_ne (tgt := 12) dX8_lays_1 (by decide) (by omega) (fun hv1 => ?_) (fun hv1 => ?_)
  · refine x_iload_n dX8_lays_12 rfl ?_
    refine x_iconst (v := nI 1) dX8_lays_13 (by decide) ?_
    refine x_icmpN_ne (tgt := 25) dX8_lays_14 (by decide) (by omega) (by omega) (fun hv2 => ?_) (fun hv2 => ?_)
    · refine x_iload_n dX8_lays_25 rfl ?_
      refine x_iconst (v := nI 2) dX8_lays_26 (by decide) ?_
      refine x_icmpN_ne (tgt := 40) dX8_lays_27 (by decide) (by omega) (by omega) (fun hv3 => ?_) (fun hv3 => ?_)
      · exact absurd hv3 (by decide)
      · refine x_aload_n dX8_lays_30 rfl ?_
        refine x_rget f_X8_29 hR rfl dX8_lays_31 ?_
        refine x_iload_n dX8_lays_34 rfl ?_
        refine x_iload_n dX8_lays_35 rfl ?_
        refine x_rast (j := 4) (n := p) hR rfl (by decide) rfl rfl (rlt hR (m := 7) (by decide) rfl (by omega)) dX8_lays_36 (fun sw4 Rw4 => ?_)
        refine x_goto (tgt := 62) dX8_lays_37 (by decide) ?_
        exact x_vret ⟨Nat.le_refl _, Nat.le_refl _⟩ rfl dX8_lays_62 ⟨rfl, Rw4⟩
    · exact absurd hv2 (by decide)
  · exact absurd hv1 (by decide)
set_option maxHeartbeats 4000000 in
theorem r_lays3 {σ0 σ : ZS} {a : Nat → Int32} {tw : Int64} {b : Nat → List Int32} (hR : RM σ0 σ a tw b) {p : Nat} (hp : p < 7) {v : Int32} : Cn 0 M_X8_lays 0 0 [.ref 1000, .int (nI 3), .int (nI p), .int v] σ (fun r9 σ' => r9 = none ∧ RM σ0 σ' a tw (up b 5 ((b 5).set p v))) := by
  refine Cn.intro (lv0 := [some (.ref 1000), some (.int (nI 3)), some (.int (nI p)), some (.int v)]) rfl (Nat.le_of_ble_eq_true rfl) rfl (fun d hd => ?_)
  refine x_iload_n dX8_lays_0 rfl ?_
  refine x_ifN_ne (tgt := 12) dX8_lays_1 (by decide) (by omega) (fun hv1 => ?_) (fun hv1 => ?_)
  · refine x_iload_n dX8_lays_12 rfl ?_
    refine x_iconst (v := nI 1) dX8_lays_13 (by decide) ?_
    refine x_icmpN_ne (tgt := 25) dX8_lays_14 (by decide) (by omega) (by omega) (fun hv2 => ?_) (fun hv2 => ?_)
    · refine x_iload_n dX8_lays_25 rfl ?_
      refine x_iconst (v := nI 2) dX8_lays_26 (by decide) ?_
      refine x_icmpN_ne (tgt := 40) dX8_lays_27 (by decide) (by omega) (by omega) (fun hv3 => ?_) (fun hv3 => ?_)
      · refine x_iload_n dX8_lays_40 rfl ?_
        refine x_iconst (v := nI 3) dX8_lays_41 (by decide) ?_
        refine x_icmpN_ne (tgt := 55) dX8_lays_42 (by decide) (by omega) (by omega) (fun hv4 => ?_) (fun hv4 => ?_)
        · exact absurd hv4 (by decide)
        · refine x_aload_n dX8_lays_45 rfl ?_
          refine x_rget f_X8_32 hR rfl dX8_lays_46 ?_
          refine x_iload_n dX8_lays_49 rfl ?_
          refine x_iload_n dX8_lays_50 rfl ?_
          refine x_rast (j := 5) (n := p) hR rfl (by decide) rfl rfl (rlt hR (m := 7) (by decide) rfl (by omega)) dX8_lays_51 (fun sw5 Rw5 => ?_)
          refine x_goto (tgt := 62) dX8_lays_52 (by decide) ?_
          exact x_vret ⟨Nat.le_refl _, Nat.le_refl _⟩ rfl dX8_lays_62 ⟨rfl, Rw5⟩
      · exact absurd hv3 (by decide)
    · exact absurd hv2 (by decide)
  · exact absurd hv1 (by decide)
set_option maxHeartbeats 4000000 in
theorem r_lays4 {σ0 σ : ZS} {a : Nat → Int32} {tw : Int64} {b : Nat → List Int32} (hR : RM σ0 σ a tw b) {p : Nat} (hp : p < 7) {v : Int32} : Cn 0 M_X8_lays 0 0 [.ref 1000, .int (nI 4), .int (nI p), .int v] σ (fun r9 σ' => r9 = none ∧ RM σ0 σ' a tw (up b 3 ((b 3).set p v))) := by
  refine Cn.intro (lv0 := [some (.ref 1000), some (.int (nI 4)), some (.int (nI p)), some (.int v)]) rfl (Nat.le_of_ble_eq_true rfl) rfl (fun d hd => ?_)
  refine x_iload_n dX8_lays_0 rfl ?_
  refine x_ifN_ne (tgt := 12) dX8_lays_1 (by decide) (by omega) (fun hv1 => ?_) (fun hv1 => ?_)
  · refine x_iload_n dX8_lays_12 rfl ?_
    refine x_iconst (v := nI 1) dX8_lays_13 (by decide) ?_
    refine x_icmpN_ne (tgt := 25) dX8_lays_14 (by decide) (by omega) (by omega) (fun hv2 => ?_) (fun hv2 => ?_)
    · refine x_iload_n dX8_lays_25 rfl ?_
      refine x_iconst (v := nI 2) dX8_lays_26 (by decide) ?_
      refine x_icmpN_ne (tgt := 40) dX8_lays_27 (by decide) (by omega) (by omega) (fun hv3 => ?_) (fun hv3 => ?_)
      · refine x_iload_n dX8_lays_40 rfl ?_
        refine x_iconst (v := nI 3) dX8_lays_41 (by decide) ?_
        refine x_icmpN_ne (tgt := 55) dX8_lays_42 (by decide) (by omega) (by omega) (fun hv4 => ?_) (fun hv4 => ?_)
        · refine x_aload_n dX8_lays_55 rfl ?_
          refine x_rget f_X8_26 hR rfl dX8_lays_56 ?_
          refine x_iload_n dX8_lays_59 rfl ?_
          refine x_iload_n dX8_lays_60 rfl ?_
          refine x_rast (j := 3) (n := p) hR rfl (by decide) rfl rfl (rlt hR (m := 7) (by decide) rfl (by omega)) dX8_lays_61 (fun sw5 Rw5 => ?_)
          exact x_vret ⟨Nat.le_refl _, Nat.le_refl _⟩ rfl dX8_lays_62 ⟨rfl, Rw5⟩
        · exact absurd hv4 (by decide)
      · exact absurd hv3 (by decide)
    · exact absurd hv2 (by decide)
  · exact absurd hv1 (by decide)
set_option maxHeartbeats 4000000 in
theorem r_lays0 {σ0 σ : ZS} {a : Nat → Int32} {tw : Int64} {b : Nat → List Int32} (hR : RM σ0 σ a tw b) {x v : Int32} : Cn 0 M_X8_lays 0 0 [.ref 1000, .int (nI 0), .int x, .int v] σ (fun r9 σ' => r9 = none ∧ RM σ0 σ' (up a 7 v) tw b) := by
  refine Cn.intro (lv0 := [some (.ref 1000), some (.int (nI 0)), some (.int x), some (.int v)]) rfl (Nat.le_of_ble_eq_true rfl) rfl (fun d hd => ?_)
  refine x_iload_n dX8_lays_0 rfl ?_
  refine x_ifN_ne (tgt := 12) dX8_lays_1 (by decide) (by omega) (fun hv1 => ?_) (fun hv1 => ?_)
  · exact absurd hv1 (by decide)
  · refine x_aload_n dX8_lays_4 rfl ?_
    refine x_iload_n dX8_lays_5 rfl ?_
    refine x_rput (up a 7 v) tw f_X8_23 hR (by decide) rfl (fun c => ⟨rfl, rfl⟩) dX8_lays_6 (fun sw2 Rw2 => ?_)
    refine x_goto (tgt := 62) dX8_lays_9 (by decide) ?_
    exact x_vret ⟨Nat.le_refl _, Nat.le_refl _⟩ rfl dX8_lays_62 ⟨rfl, Rw2⟩
set_option maxHeartbeats 4000000 in
theorem r_lays1 {σ0 σ : ZS} {a : Nat → Int32} {tw : Int64} {b : Nat → List Int32} (hR : RM σ0 σ a tw b) {x v : Int32} : Cn 0 M_X8_lays 0 0 [.ref 1000, .int (nI 1), .int x, .int v] σ (fun r9 σ' => r9 = none ∧ RM σ0 σ' (up a 8 v) tw b) := by
  refine Cn.intro (lv0 := [some (.ref 1000), some (.int (nI 1)), some (.int x), some (.int v)]) rfl (Nat.le_of_ble_eq_true rfl) rfl (fun d hd => ?_)
  refine x_iload_n dX8_lays_0 rfl ?_
  refine x_ifN_ne (tgt := 12) dX8_lays_1 (by decide) (by omega) (fun hv1 => ?_) (fun hv1 => ?_)
  · refine x_iload_n dX8_lays_12 rfl ?_
    refine x_iconst (v := nI 1) dX8_lays_13 (by decide) ?_
    refine x_icmpN_ne (tgt := 25) dX8_lays_14 (by decide) (by omega) (by omega) (fun hv2 => ?_) (fun hv2 => ?_)
    · exact absurd hv2 (by decide)
    · refine x_aload_n dX8_lays_17 rfl ?_
      refine x_iload_n dX8_lays_18 rfl ?_
      refine x_rput (up a 8 v) tw f_X8_111 hR (by decide) rfl (fun c => ⟨rfl, rfl⟩) dX8_lays_19 (fun sw3 Rw3 => ?_)
      refine x_goto (tgt := 62) dX8_lays_22 (by decide) ?_
      exact x_vret ⟨Nat.le_refl _, Nat.le_refl _⟩ rfl dX8_lays_62 ⟨rfl, Rw3⟩
  · exact absurd hv1 (by decide)
