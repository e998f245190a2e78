/-! told tables: lawful, joy, dinners -/
def unlT (rr n : Nat) (K N D : List Nat) (m : Nat) (t : List Nat) (fr : Int32) : Option Nat := ffrom (fun s => !contB (decide (rr = 1)) m t (wlS K N D n (setS t m) fr) s) m 0
theorem r_unl2 {σ0 σ : ZS} {a : Nat → Int32} {tw : Int64} {b : Nat → List Int32} {rr n : Nat} {K N : List Nat} {W : List Int32} {D : List Nat} {fr : Int32} {ru : Nat} {L S : List Nat} {lf jf m : Nat} {t : List Nat} (hR : RM σ0 σ a tw b) (hW : TW a b rr n K N W D fr ru L S lf jf m t) (hg : Dg D) : Cn 2 M_X8_unlawful 0 0 [.ref 1000] σ (fun r9 σ' => r9 = some (.int (oI (unlT rr n K N D m t fr))) ∧ σ' = σ) := by
  have h := r_unlawful hR hW.1 hW.2.2.1 hW.2.2.2.1 hW.2.2.2.2.1 hW.2.2.2.2.2.1 hW.2.2.2.2.2.2
  rw [unl_eq (m := m) hW.1.2.1 hg rfl] at h
  exact h
theorem r_joy2 {σ0 σ : ZS} {a : Nat → Int32} {tw : Int64} {b : Nat → List Int32} {rr n : Nat} {K N : List Nat} {W : List Int32} {D : List Nat} {fr : Int32} {ru : Nat} {L S : List Nat} {lf jf m : Nat} {t : List Nat} (hR : RM σ0 σ a tw b) (hW : TW a b rr n K N W D fr ru L S lf jf m t) : Cn 163 M_X8_joy 0 0 [.ref 1000] σ (fun r9 σ' => ∃ (a' : Nat → Int32) (tw' : Int64), r9 = some (.int (sumI (jyI S jf K N W D t m) (prS (decide (rr = 1)) m))) ∧ RM σ0 σ' a' tw' b ∧ FrS a a') := by
  have h := r_joy hR hW
  obtain ⟨c7, hrr, c13, hn7, c14, cK, cN, cW, cD, hN7, hW7, hD49, hK5, hN9, hD999⟩ := hW.1
  rw [joy_eq hrr hW.2.2.2.1 hN9] at h
  exact h
theorem tOf_PT {n : Nat} (hn : n ≤ 7) {row : List Int32} {m A : Nat} {l : List Int32} (h : tbS n row m = some A) (hl : ∀ j, j < m → l.getD j 0 = row.getD j 0) : PT m l (tOf row m) := by
  intro j hj
  have h2 := tbS_ok hn h
  rw [hl j hj, h2.2.2.2.2.1 j hj]
  exact ni_of (h2.2.2.2.1 j hj).1
theorem SW_tell {a a' : Nat → Int32} {b b' : Nat → List Int32} {rr n : Nat} {K N : List Nat} {W : List Int32} {D : List Nat} {fr : Int32} {ru : Nat} {L S : List Nat} {lf jf : Nat} {row : List Int32} {m A : Nat} (h : BW a b rr n K N W D fr ru L S lf jf) (hA : FrR a a') (hB : Fb 7 b b') (ht : tbS n row m = some A) (h31 : a' 31 = nI m) (h7 : ∀ j, j < m → (b' 7).getD j 0 = row.getD j 0) : TW a' b' rr n K N W D fr ru L S lf jf m (tOf row m) := by
  have hn7 := h.1.2.2.2.1
  have h2 := tbS_ok hn7 ht
  have h3 := h.fr hA hB.q7
  exact ⟨h3.1, h3.2, h31, by omega, tOf_PT hn7 ht h7, tOf_7 _ _, h2.2.2.2.2.2.2.1⟩
def tabV (rr n : Nat) (K N : List Nat) (W : List Int32) (D S : List Nat) (lf jf m : Nat) (t : List Nat) (w : Int) : Int32 := if w = 0 then (if unlT rr n K N D m t (-1) = none then nI 1 else nI 0) else if w = 1 then sumI (jyI S jf K N W D t m) (prS (decide (rr = 1)) m) else nI (allS (hdD S lf jf K N W t m (prS (decide (rr = 1)) m) D) n n)
set_option maxHeartbeats 4000000 in
theorem r_table {σ0 σ : ZS} {a : Nat → Int32} {tw : Int64} {b : Nat → List Int32} {rr n : Nat} {K N : List Nat} {W : List Int32} {D : List Nat} {ru : Nat} {L S : List Nat} {lf jf : Nat} (hR : RM σ0 σ a tw b) (hW : BW a b rr n K N W D (-1) ru L S lf jf) (hg : Dg D) {sh : Nat → SH} (hS : RSH b sh) {i : Nat} (hi4 : i < 4) (hne : ¬ (sh i).1 = -1) (hz40 : (sh i).2.1 ≤ 40) {A : Nat} (hA9 : tbS n (sh i).2.2 (sh i).2.1 = some A) {w : Int32} (hw : 0 ≤ w.toInt ∧ w.toInt ≤ 2) : Cn 166 M_X8_table 0 0 [.ref 1000, .int (nI i), .int w] σ (fun r9 σ' => ∃ (a' : Nat → Int32) (tw' : Int64) (b' : Nat → List Int32), r9 = some (.int (tabV rr n K N W D S lf jf (sh i).2.1 (tOf (sh i).2.2 (sh i).2.1) w.toInt)) ∧ RM σ0 σ' a' tw' b' ∧ FrR a a' ∧ Fq b b') := by
  obtain ⟨hC, hT⟩ := id hW
  obtain ⟨c7, hrr, c13, hn7, c14, cK, cN, cW, cD, hN7, hW7, hD49, hK5, hN9, hD999⟩ := id hC
  refine Cn.intro (lv0 := [some (.ref 1000), some (.int (nI i)), some (.int w)]) rfl (Nat.le_of_ble_eq_true rfl) rfl (fun d hd => ?_)
  refine x_iload_n dX8_table_0 rfl ?_
  refine x_callS m_X8_isSheet l_X8_299 (r_isSheet (nI_toInt (by omega))) (by omega) rfl rfl (Nat.le_of_ble_eq_true rfl) ⟨Nat.le_refl _, Nat.le_refl _⟩ dX8_table_1 (fun r1 s1 q1 => ?_)
  obtain ⟨rfl, eq1⟩ := q1
  obtain rfl := eq1.symm
  refine x_stk (st' := [.int (bI (decide (0 ≤ ((i : Nat) : Int) ∧ ((i : Nat) : Int) ≤ 3)))]) rfl ?_
  refine x_ifP_eq (P := 0 ≤ ((i : Nat) : Int) ∧ ((i : Nat) : Int) ≤ 3) inferInstance (tgt := 36) dX8_table_4 (by decide) (fun hv2 => ?_) (fun hv2 => ?_)
  · exact absurd (by omega) hv2
  · refine x_iload_n dX8_table_7 rfl ?_
    refine x_i2l dX8_table_8 ?_
    refine x_lconst (v := 0) dX8_table_9 (by decide) ?_
    refine x_ldc2 (v := (2)) cl_X8_302 dX8_table_10 ?_
    refine x_callS m_X8_in l_X8_85 (r_in (p := (w).toInt) (q := 0) (r := (2)) (tL rfl) (by decide) (by decide)) (by omega) rfl rfl (Nat.le_of_ble_eq_true rfl) ⟨Nat.le_refl _, Nat.le_refl _⟩ dX8_table_13 (fun r3 s3 q3 => ?_)
    obtain ⟨rfl, eq3⟩ := q3
    obtain rfl := eq3.symm
    refine x_stk (st' := [.int (bI (decide (0 ≤ (w).toInt ∧ (w).toInt ≤ (2))))]) rfl ?_
    refine x_ifP_eq (P := 0 ≤ (w).toInt ∧ (w).toInt ≤ (2)) inferInstance (tgt := 36) dX8_table_16 (by decide) (fun hv4 => ?_) (fun hv4 => ?_)
    · exact absurd hw hv4
    · refine x_aload_n dX8_table_19 rfl ?_
      refine x_rget f_X8_62 hR rfl dX8_table_20 ?_
      refine x_iload_n dX8_table_23 rfl ?_
      refine x_rzld (j := 13) (n := i) hR rfl (by decide) rfl rfl (rlt hR (m := 4) (by decide) rfl (by omega)) dX8_table_24 ?_
      refine x_topi (y := bI (decide (¬ (sh i).1 = -1))) (hS i hi4).1 ?_
      refine x_ifP_eq (P := ¬ (sh i).1 = -1) inferInstance (tgt := 36) dX8_table_25 (by decide) (fun hv5 => ?_) (fun hv5 => ?_)
      · exact absurd hne hv5
      · refine x_aload_n dX8_table_28 rfl ?_
        refine x_iload_n dX8_table_29 rfl ?_
        refine x_callV m_X8_sits l_X8_304 ((r_sits hR hC hS (i := i) hi4 hne hz40).mono (fun r9 σ' h => (⟨by rw [h.1, hA9]; rfl, h.2⟩ : r9 = some (.int (nI 1)) ∧ _))) rfl hR.2.1 (by omega) rfl rfl (Nat.le_of_ble_eq_true rfl) ⟨Nat.le_refl _, Nat.le_refl _⟩ dX8_table_30 (fun r6 s6 q6 => ?_)
        obtain ⟨rfl, a6, b6, R6, F6, B6, z6⟩ := q6
        have z96 := z6 (by rw [hA9]; rfl)
        have hW6 := SW_tell hW F6 B6 hA9 z96.1 z96.2
        obtain ⟨hC6, hT6, c316, hm6, cT6, ht6, hTn6⟩ := id hW6
        obtain ⟨c76, hrr6, c136, hn76, c146, cK6, cN6, cW6, cD6, hN76, hW76, hD496, hK56, hN96, hD9996⟩ := id hC6
        obtain ⟨ht76, htb6⟩ := id ht6
        refine x_stk (st' := [.int (nI 1)]) rfl ?_
        refine x_ifN_ne (tgt := 40) dX8_table_33 (by decide) (by omega) (fun hv7 => ?_) (fun hv7 => ?_)
        · refine x_iload_n dX8_table_40 rfl ?_
          refine x_ifT_ne (p := (w).toInt) (tgt := 60) rfl dX8_table_41 (by decide) (fun hv8 => ?_) (fun hv8 => ?_)
          · refine x_iload_n dX8_table_60 rfl ?_
            refine x_iconst (v := nI 1) dX8_table_61 (by decide) ?_
            refine x_icmpT_ne (p := (w).toInt) (q := ((1 : Nat) : Int)) (tgt := 72) rfl (nI_toInt (by omega)) dX8_table_62 (by decide) (fun hv9 => ?_) (fun hv9 => ?_)
            · refine x_aload_n dX8_table_72 rfl ?_
              refine x_callV m_X8_owedBehind l_X8_314 (r_owedBehind R6 hW6) rfl R6.2.1 (by omega) rfl rfl (Nat.le_of_ble_eq_true rfl) ⟨Nat.le_refl _, Nat.le_refl _⟩ dX8_table_73 (fun r10 s10 q10 => ?_)
              obtain ⟨a10, tw10, b10, rfl, R10, A10, B10⟩ := q10
              refine x_stk (st' := [.int (nI ((allS (hdD S lf jf K N W (tOf (sh i).2.2 (sh i).2.1) (sh i).2.1 (prS (decide (rr = 1)) (sh i).2.1) D) n n)))]) rfl ?_
              exact x_iret ⟨Nat.le_refl _, Nat.le_refl _⟩ rfl dX8_table_76 ⟨_, _, _, by rw [tabV, if_neg (by omega), if_neg (by omega)], R10, (F6.tr A10.R), (B6.q7.tr B10.q8)⟩
            · refine x_aload_n dX8_table_65 rfl ?_
              refine x_callV m_X8_joy l_X8_311 (r_joy2 R6 hW6) rfl R6.2.1 (by omega) rfl rfl (Nat.le_of_ble_eq_true rfl) ⟨Nat.le_refl _, Nat.le_refl _⟩ dX8_table_66 (fun r11 s11 q11 => ?_)
              obtain ⟨a11, tw11, rfl, R11, A11⟩ := q11
              refine x_stk (st' := [.int ((sumI (jyI S jf K N W D (tOf (sh i).2.2 (sh i).2.1) (sh i).2.1) (prS (decide (rr = 1)) (sh i).2.1)))]) rfl ?_
              refine x_goto (tgt := 76) dX8_table_69 (by decide) ?_
              exact x_iret ⟨Nat.le_refl _, Nat.le_refl _⟩ rfl dX8_table_76 ⟨_, _, _, by rw [tabV, if_neg (by omega), if_pos (by omega)], R11, (F6.tr A11.R), (B6.q7.tr Fq.rf)⟩
          · refine x_aload_n dX8_table_44 rfl ?_
            refine x_callV m_X8_unlawful l_X8_308 (r_unl2 R6 hW6 hg) rfl R6.2.1 (by omega) rfl rfl (Nat.le_of_ble_eq_true rfl) ⟨Nat.le_refl _, Nat.le_refl _⟩ dX8_table_45 (fun r12 s12 q12 => ?_)
            obtain ⟨rfl, eq12⟩ := q12
            obtain rfl := eq12.symm
            refine x_stk (st' := [.int ((oI (unlT rr n K N D (sh i).2.1 (tOf (sh i).2.2 (sh i).2.1) (-1))))]) rfl ?_
            rcases hu9 : unlT rr n K N D (sh i).2.1 (tOf (sh i).2.2 (sh i).2.1) (-1) with _ | c9
            · refine x_stk (st' := [.int ((-1))]) rfl ?_
              refine x_iconst (v := (-1)) dX8_table_48 (by decide) ?_
              refine x_icmpT_ne (p := (-1)) (q := (-1)) (tgt := 56) (by decide) (by decide) dX8_table_49 (by decide) (fun hv13 => ?_) (fun hv13 => ?_)
              · exact absurd rfl hv13
              · refine x_iconst (v := nI 1) dX8_table_52 (by decide) ?_
                refine x_goto (tgt := 76) dX8_table_53 (by decide) ?_
                exact x_iret ⟨Nat.le_refl _, Nat.le_refl _⟩ rfl dX8_table_76 ⟨_, _, _, by rw [tabV, if_pos (by omega), if_pos hu9], R6, F6, B6.q7⟩
            · have hc9 := (ffrom_lt _ _ hu9).2.1
              refine x_stk (st' := [.int (nI c9)]) rfl ?_
              refine x_iconst (v := (-1)) dX8_table_48 (by decide) ?_
              refine x_icmpT_ne (p := ((c9 : Nat) : Int)) (q := (-1)) (tgt := 56) (nI_toInt (by omega)) (by decide) dX8_table_49 (by decide) (fun hv14 => ?_) (fun hv14 => ?_)
              · refine x_iconst (v := nI 0) dX8_table_56 (by decide) ?_
                refine x_goto (tgt := 76) dX8_table_57 (by decide) ?_
                exact x_iret ⟨Nat.le_refl _, Nat.le_refl _⟩ rfl dX8_table_76 ⟨_, _, _, by rw [tabV, if_pos (by omega), if_neg (by rw [hu9]; exact fun z => by cases z)], R6, F6, B6.q7⟩
              · exact absurd hv14 (by omega)
        · exact absurd hv7 (by decide)
set_option maxHeartbeats 4000000 in
theorem r_table_b1 {σ0 σ : ZS} {a : Nat → Int32} {tw : Int64} {b : Nat → List Int32} {rr n : Nat} {K N : List Nat} {W : List Int32} {D : List Nat} {ru : Nat} {L S : List Nat} {lf jf : Nat} (hR : RM σ0 σ a tw b) (hW : BW a b rr n K N W D (-1) ru L S lf jf) {x w : Int32} (hx : ¬ (0 ≤ x.toInt ∧ x.toInt ≤ 3)) : Cn 3 M_X8_table 0 0 [.ref 1000, .int x, .int w] σ (fun r9 σ' => r9 = some (.int (-100000)) ∧ σ' = σ) := by
  obtain ⟨hC, hT⟩ := id hW
  obtain ⟨c7, hrr, c13, hn7, c14, cK, cN, cW, cD, hN7, hW7, hD49, hK5, hN9, hD999⟩ := id hC
  refine Cn.intro (lv0 := [some (.ref 1000), some (.int x), some (.int w)]) rfl (Nat.le_of_ble_eq_true rfl) rfl (fun d hd => ?_)
  refine x_iload_n dX8_table_0 rfl ?_
  refine x_callS m_X8_isSheet l_X8_299 (r_isSheet rfl) (by omega) rfl rfl (Nat.le_of_ble_eq_true rfl) ⟨Nat.le_refl _, Nat.le_refl _⟩ dX8_table_1 (fun r1 s1 q1 => ?_)
  obtain ⟨rfl, eq1⟩ := q1
  obtain rfl := eq1.symm
  refine x_stk (st' := [.int (bI (decide (0 ≤ (x).toInt ∧ (x).toInt ≤ 3)))]) rfl ?_
  refine x_ifP_eq (P := 0 ≤ (x).toInt ∧ (x).toInt ≤ 3) inferInstance (tgt := 36) dX8_table_4 (by decide) (fun hv2 => ?_) (fun hv2 => ?_)
  · refine x_ldcw (v := (-100000)) c_X8_307 dX8_table_36 ?_
    exact x_iret ⟨Nat.le_refl _, Nat.le_refl _⟩ rfl dX8_table_39 ⟨rfl, rfl⟩
  · exact absurd hv2 hx
set_option maxHeartbeats 4000000 in
theorem r_table_b2 {σ0 σ : ZS} {a : Nat → Int32} {tw : Int64} {b : Nat → List Int32} {rr n : Nat} {K N : List Nat} {W : List Int32} {D : List Nat} {ru : Nat} {L S : List Nat} {lf jf : Nat} (hR : RM σ0 σ a tw b) (hW : BW a b rr n K N W D (-1) ru L S lf jf) {sh : Nat → SH} (hS : RSH b sh) {i : Nat} (hi4 : i < 4) {w : Int32} (hb : ¬ (0 ≤ w.toInt ∧ w.toInt ≤ 2) ∨ (sh i).1 = -1) : Cn 3 M_X8_table 0 0 [.ref 1000, .int (nI i), .int w] σ (fun r9 σ' => r9 = some (.int (-100000)) ∧ σ' = σ) := by
  obtain ⟨hC, hT⟩ := id hW
  obtain ⟨c7, hrr, c13, hn7, c14, cK, cN, cW, cD, hN7, hW7, hD49, hK5, hN9, hD999⟩ := id hC
  refine Cn.intro (lv0 := [some (.ref 1000), some (.int (nI i)), some (.int w)]) rfl (Nat.le_of_ble_eq_true rfl) rfl (fun d hd => ?_)
  refine x_iload_n dX8_table_0 rfl ?_
  refine x_callS m_X8_isSheet l_X8_299 (r_isSheet (nI_toInt (by omega))) (by omega) rfl rfl (Nat.le_of_ble_eq_true rfl) ⟨Nat.le_refl _, Nat.le_refl _⟩ dX8_table_1 (fun r1 s1 q1 => ?_)
  obtain ⟨rfl, eq1⟩ := q1
  obtain rfl := eq1.symm
  refine x_stk (st' := [.int (bI (decide (0 ≤ ((i : Nat) : Int) ∧ ((i : Nat) : Int) ≤ 3)))]) rfl ?_
  refine x_ifP_eq (P := 0 ≤ ((i : Nat) : Int) ∧ ((i : Nat) : Int) ≤ 3) inferInstance (tgt := 36) dX8_table_4 (by decide) (fun hv2 => ?_) (fun hv2 => ?_)
  · exact absurd (by omega) hv2
  · refine x_iload_n dX8_table_7 rfl ?_
    refine x_i2l dX8_table_8 ?_
    refine x_lconst (v := 0) dX8_table_9 (by decide) ?_
    refine x_ldc2 (v := (2)) cl_X8_302 dX8_table_10 ?_
    refine x_callS m_X8_in l_X8_85 (r_in (p := (w).toInt) (q := 0) (r := (2)) (tL rfl) (by decide) (by decide)) (by omega) rfl rfl (Nat.le_of_ble_eq_true rfl) ⟨Nat.le_refl _, Nat.le_refl _⟩ dX8_table_13 (fun r3 s3 q3 => ?_)
    obtain ⟨rfl, eq3⟩ := q3
    obtain rfl := eq3.symm
    refine x_stk (st' := [.int (bI (decide (0 ≤ (w).toInt ∧ (w).toInt ≤ (2))))]) rfl ?_
    refine x_ifP_eq (P := 0 ≤ (w).toInt ∧ (w).toInt ≤ (2)) inferInstance (tgt := 36) dX8_table_16 (by decide) (fun hv4 => ?_) (fun hv4 => ?_)
    · refine x_ldcw (v := (-100000)) c_X8_307 dX8_table_36 ?_
      exact x_iret ⟨Nat.le_refl _, Nat.le_refl _⟩ rfl dX8_table_39 ⟨rfl, rfl⟩
    · refine x_aload_n dX8_table_19 rfl ?_
      refine x_rget f_X8_62 hR rfl dX8_table_20 ?_
      refine x_iload_n dX8_table_23 rfl ?_
      refine x_rzld (j := 13) (n := i) hR rfl (by decide) rfl rfl (rlt hR (m := 4) (by decide) rfl (by omega)) dX8_table_24 ?_
      refine x_topi (y := bI (decide (¬ (sh i).1 = -1))) (hS i hi4).1 ?_
      refine x_ifP_eq (P := ¬ (sh i).1 = -1) inferInstance (tgt := 36) dX8_table_25 (by decide) (fun hv5 => ?_) (fun hv5 => ?_)
      · refine x_ldcw (v := (-100000)) c_X8_307 dX8_table_36 ?_
        exact x_iret ⟨Nat.le_refl _, Nat.le_refl _⟩ rfl dX8_table_39 ⟨rfl, rfl⟩
      · exact absurd hb (fun z => z.elim (fun q => q hv4) hv5)
set_option maxHeartbeats 4000000 in
theorem r_table_b3 {σ0 σ : ZS} {a : Nat → Int32} {tw : Int64} {b : Nat → List Int32} {rr n : Nat} {K N : List Nat} {W : List Int32} {D : List Nat} {ru : Nat} {L S : List Nat} {lf jf : Nat} (hR : RM σ0 σ a tw b) (hW : BW a b rr n K N W D (-1) ru L S lf jf) {sh : Nat → SH} (hS : RSH b sh) {i : Nat} (hi4 : i < 4) (hne : ¬ (sh i).1 = -1) (hz40 : (sh i).2.1 ≤ 40) (hA9 : tbS n (sh i).2.2 (sh i).2.1 = none) {w : Int32} (hw : 0 ≤ w.toInt ∧ w.toInt ≤ 2) : Cn 4 M_X8_table 0 0 [.ref 1000, .int (nI i), .int w] σ (fun r9 σ' => ∃ (a' : Nat → Int32) (tw' : Int64) (b' : Nat → List Int32), r9 = some (.int (-100000)) ∧ RM σ0 σ' a' tw' b' ∧ FrR a a' ∧ Fq b b') := by
  obtain ⟨hC, hT⟩ := id hW
  obtain ⟨c7, hrr, c13, hn7, c14, cK, cN, cW, cD, hN7, hW7, hD49, hK5, hN9, hD999⟩ := id hC
  refine Cn.intro (lv0 := [some (.ref 1000), some (.int (nI i)), some (.int w)]) rfl (Nat.le_of_ble_eq_true rfl) rfl (fun d hd => ?_)
  refine x_iload_n dX8_table_0 rfl ?_
  refine x_callS m_X8_isSheet l_X8_299 (r_isSheet (nI_toInt (by omega))) (by omega) rfl rfl (Nat.le_of_ble_eq_true rfl) ⟨Nat.le_refl _, Nat.le_refl _⟩ dX8_table_1 (fun r1 s1 q1 => ?_)
  obtain ⟨rfl, eq1⟩ := q1
  obtain rfl := eq1.symm
  refine x_stk (st' := [.int (bI (decide (0 ≤ ((i : Nat) : Int) ∧ ((i : Nat) : Int) ≤ 3)))]) rfl ?_
  refine x_ifP_eq (P := 0 ≤ ((i : Nat) : Int) ∧ ((i : Nat) : Int) ≤ 3) inferInstance (tgt := 36) dX8_table_4 (by decide) (fun hv2 => ?_) (fun hv2 => ?_)
  · exact absurd (by omega) hv2
  · refine x_iload_n dX8_table_7 rfl ?_
    refine x_i2l dX8_table_8 ?_
    refine x_lconst (v := 0) dX8_table_9 (by decide) ?_
    refine x_ldc2 (v := (2)) cl_X8_302 dX8_table_10 ?_
    refine x_callS m_X8_in l_X8_85 (r_in (p := (w).toInt) (q := 0) (r := (2)) (tL rfl) (by decide) (by decide)) (by omega) rfl rfl (Nat.le_of_ble_eq_true rfl) ⟨Nat.le_refl _, Nat.le_refl _⟩ dX8_table_13 (fun r3 s3 q3 => ?_)
    obtain ⟨rfl, eq3⟩ := q3
    obtain rfl := eq3.symm
    refine x_stk (st' := [.int (bI (decide (0 ≤ (w).toInt ∧ (w).toInt ≤ (2))))]) rfl ?_
    refine x_ifP_eq (P := 0 ≤ (w).toInt ∧ (w).toInt ≤ (2)) inferInstance (tgt := 36) dX8_table_16 (by decide) (fun hv4 => ?_) (fun hv4 => ?_)
    · exact absurd hw hv4
    · refine x_aload_n dX8_table_19 rfl ?_
      refine x_rget f_X8_62 hR rfl dX8_table_20 ?_
      refine x_iload_n dX8_table_23 rfl ?_
      refine x_rzld (j := 13) (n := i) hR rfl (by decide) rfl rfl (rlt hR (m := 4) (by decide) rfl (by omega)) dX8_table_24 ?_
      refine x_topi (y := bI (decide (¬ (sh i).1 = -1))) (hS i hi4).1 ?_
      refine x_ifP_eq (P := ¬ (sh i).1 = -1) inferInstance (tgt := 36) dX8_table_25 (by decide) (fun hv5 => ?_) (fun hv5 => ?_)
      · exact absurd hne hv5
      · refine x_aload_n dX8_table_28 rfl ?_
        refine x_iload_n dX8_table_29 rfl ?_
        refine x_callV m_X8_sits l_X8_304 ((r_sits hR hC hS (i := i) hi4 hne hz40).mono (fun r9 σ' h => (⟨by rw [h.1, hA9]; rfl, h.2⟩ : r9 = some (.int (nI 0)) ∧ _))) rfl hR.2.1 (by omega) rfl rfl (Nat.le_of_ble_eq_true rfl) ⟨Nat.le_refl _, Nat.le_refl _⟩ dX8_table_30 (fun r6 s6 q6 => ?_)
        obtain ⟨rfl, a6, b6, R6, F6, B6, z6⟩ := q6
        
        refine x_stk (st' := [.int (nI 0)]) rfl ?_
        refine x_ifN_ne (tgt := 40) dX8_table_33 (by decide) (by omega) (fun hv7 => ?_) (fun hv7 => ?_)
        · exact absurd hv7 (by decide)
        · refine x_ldcw (v := (-100000)) c_X8_307 dX8_table_36 ?_
          exact x_iret ⟨Nat.le_refl _, Nat.le_refl _⟩ rfl dX8_table_39 ⟨_, _, _, rfl, R6, F6, B6.q7⟩
theorem RC.up8 {a : Nat → Int32} {b : Nat → List Int32} {rr n : Nat} {K N : List Nat} {W : List Int32} {D : List Nat} {fr v : Int32} (h : RC a b rr n K N W D fr) : RC (up a 8 v) b rr n K N W D fr := by
  obtain ⟨c7, hrr, c13, hn7, c14, r⟩ := h
  exact ⟨c7, hrr, c13, hn7, c14, r⟩
set_option maxHeartbeats 4000000 in
theorem r_dine {σ0 σ : ZS} {a : Nat → Int32} {tw : Int64} {b : Nat → List Int32} {rr n : Nat} {K N : List Nat} {W : List Int32} {D : List Nat} {ru : Nat} {L S : List Nat} {lf jf : Nat} (hR : RM σ0 σ a tw b) (hW : BW a b rr n K N W D (-1) ru L S lf jf) (hg : Dg D) {sh : Nat → SH} (hS : RSH b sh) {i : Nat} (hi4 : i < 4) (hne : ¬ (sh i).1 = -1) (hz40 : (sh i).2.1 ≤ 40) {A : Nat} (hA9 : tbS n (sh i).2.2 (sh i).2.1 = some A) {dn : Nat} (c8 : a 8 = nI dn) (hdn : dn ≤ 999) (hlt : dn < 999) : Cn 166 M_X8_dine 0 0 [.ref 1000, .int (nI i)] σ (fun r9 σ' => r9 = some (.int (nI (allS (hdD S lf jf K N W (tOf (sh i).2.2 (sh i).2.1) (sh i).2.1 (prS (decide (rr = 1)) (sh i).2.1) D) n n))) ∧ ∃ (a' : Nat → Int32) (tw' : Int64) (b' : Nat → List Int32), RM σ0 σ' a' tw' b' ∧ (∀ j, ¬ ((15 ≤ j ∧ j ≤ 29) ∨ j = 31 ∨ (33 ≤ j ∧ j ≤ 39)) → j ≠ 8 → a' j = a j) ∧ a' 8 = nI (dn + 1) ∧ (∀ j, j ≠ 6 → j ≠ 7 → b' j = b j) ∧ b' 6 = (hdD S lf jf K N W (tOf (sh i).2.2 (sh i).2.1) (sh i).2.1 (prS (decide (rr = 1)) (sh i).2.1) D).map nI) := by
  obtain ⟨hC, hT⟩ := id hW
  obtain ⟨c7, hrr, c13, hn7, c14, cK, cN, cW, cD, hN7, hW7, hD49, hK5, hN9, hD999⟩ := id hC
  refine Cn.intro (lv0 := [some (.ref 1000), some (.int (nI i))]) rfl (Nat.le_of_ble_eq_true rfl) rfl (fun d hd => ?_)
  refine x_iload_n dX8_dine_0 rfl ?_
  refine x_callS m_X8_isSheet l_X8_299 (r_isSheet (nI_toInt (by omega))) (by omega) rfl rfl (Nat.le_of_ble_eq_true rfl) ⟨Nat.le_refl _, Nat.le_refl _⟩ dX8_dine_1 (fun r1 s1 q1 => ?_)
  obtain ⟨rfl, eq1⟩ := q1
  obtain rfl := eq1.symm
  refine x_stk (st' := [.int (bI (decide (0 ≤ ((i : Nat) : Int) ∧ ((i : Nat) : Int) ≤ 3)))]) rfl ?_
  refine x_ifP_ne (P := 0 ≤ ((i : Nat) : Int) ∧ ((i : Nat) : Int) ≤ 3) inferInstance (tgt := 10) dX8_dine_4 (by decide) (fun hv2 => ?_) (fun hv2 => ?_)
  · refine x_aload_n dX8_dine_10 rfl ?_
    refine x_rget f_X8_62 hR rfl dX8_dine_11 ?_
    refine x_iload_n dX8_dine_14 rfl ?_
    refine x_rzld (j := 13) (n := i) hR rfl (by decide) rfl rfl (rlt hR (m := 4) (by decide) rfl (by omega)) dX8_dine_15 ?_
    refine x_topi (y := bI (decide (¬ (sh i).1 = -1))) (hS i hi4).1 ?_
    refine x_ifP_ne (P := ¬ (sh i).1 = -1) inferInstance (tgt := 22) dX8_dine_16 (by decide) (fun hv3 => ?_) (fun hv3 => ?_)
    · refine x_aload_n dX8_dine_22 rfl ?_
      refine x_iload_n dX8_dine_23 rfl ?_
      refine x_callV m_X8_sits l_X8_304 ((r_sits hR hC hS (i := i) hi4 hne hz40).mono (fun r9 σ' h => (⟨by rw [h.1, hA9]; rfl, h.2⟩ : r9 = some (.int (nI 1)) ∧ _))) rfl hR.2.1 (by omega) rfl rfl (Nat.le_of_ble_eq_true rfl) ⟨Nat.le_refl _, Nat.le_refl _⟩ dX8_dine_24 (fun r4 s4 q4 => ?_)
      obtain ⟨rfl, a4, b4, R4, F4, B4, z4⟩ := q4
      have z94 := z4 (by rw [hA9]; rfl)
      have hW4 := SW_tell hW F4 B4 hA9 z94.1 z94.2
      obtain ⟨hC4, hT4, c314, hm4, cT4, ht4, hTn4⟩ := id hW4
      obtain ⟨c74, hrr4, c134, hn74, c144, cK4, cN4, cW4, cD4, hN74, hW74, hD494, hK54, hN94, hD9994⟩ := id hC4
      obtain ⟨ht74, htb4⟩ := id ht4
      refine x_stk (st' := [.int (nI 1)]) rfl ?_
      refine x_ifN_ne (tgt := 33) dX8_dine_27 (by decide) (by omega) (fun hv5 => ?_) (fun hv5 => ?_)
      · refine x_aload_n dX8_dine_33 rfl ?_
        refine x_rget (v := .int (nI dn)) f_X8_111 R4 (rg ((F4 8 (by omega)).trans c8)) dX8_dine_34 ?_
        refine x_sipush (v := nI 999) dX8_dine_37 (by decide) ?_
        refine x_icmpN_ne (tgt := 46) dX8_dine_40 (by decide) (by omega) (by omega) (fun hv6 => ?_) (fun hv6 => ?_)
        · refine x_aload_n dX8_dine_46 rfl ?_
          refine x_callV m_X8_dines l_X8_290 (r_dines R4 hW4) rfl R4.2.1 (by omega) rfl rfl (Nat.le_of_ble_eq_true rfl) ⟨Nat.le_refl _, Nat.le_refl _⟩ dX8_dine_47 (fun r7 s7 q7 => ?_)
          obtain ⟨rfl, a7, tw7, b7, R7, A7, B7, h67⟩ := q7
          have hW7 := (hW4.fr A7).setD B7 h67 (hdD_ok hW4.D9 _)
          obtain ⟨hC7, hT7, c317, hm7, cT7, ht7, hTn7⟩ := id hW7
          obtain ⟨c77, hrr7, c137, hn77, c147, cK7, cN7, cW7, cD7, hN77, hW77, hD497, hK57, hN97, hD9997⟩ := id hC7
          obtain ⟨ht77, htb7⟩ := id ht7
          refine x_stk (st' := []) rfl ?_
          refine x_aload_n dX8_dine_50 rfl ?_
          refine x_dup dX8_dine_51 rfl ?_
          refine x_rget (v := .int (nI dn)) f_X8_111 R7 (rg ((A7 8 (by omega)).trans ((F4 8 (by omega)).trans c8))) dX8_dine_52 ?_
          refine x_iconst (v := nI 1) dX8_dine_55 (by decide) ?_
          refine x_iaddN dX8_dine_56 ?_
          refine x_rput (up a7 8 (nI (dn + 1))) tw7 f_X8_111 R7 (by decide) rfl (fun c => ⟨rfl, rfl⟩) dX8_dine_57 (fun sw8 Rw8 => ?_)
          refine x_aload_n dX8_dine_60 rfl ?_
          refine x_callV m_X8_owed l_X8_293 (r_owed Rw8 hC7.up8) rfl Rw8.2.1 (by omega) rfl rfl (Nat.le_of_ble_eq_true rfl) ⟨Nat.le_refl _, Nat.le_refl _⟩ dX8_dine_61 (fun r9 s9 q9 => ?_)
          obtain ⟨rfl, eq9⟩ := q9
          obtain rfl := eq9.symm
          refine x_stk (st' := [.int (nI ((allS (hdD S lf jf K N W (tOf (sh i).2.2 (sh i).2.1) (sh i).2.1 (prS (decide (rr = 1)) (sh i).2.1) D) n n)))]) rfl ?_
          exact x_iret ⟨Nat.le_refl _, Nat.le_refl _⟩ rfl dX8_dine_64 ⟨rfl, _, _, _, Rw8, fun j9 hj9 h8 => (up_ne _ _ h8).trans (((F4.tr A7.R)) j9 hj9), rfl, fun j9 h6 h7 => (B7 j9 h6).trans (B4 j9 h7), h67⟩
        · exact absurd hv6 (by omega)
      · exact absurd hv5 (by decide)
    · exact absurd hne hv3
  · exact absurd (by omega) hv2
set_option maxHeartbeats 4000000 in
theorem r_dine_b0 {σ0 σ : ZS} {a : Nat → Int32} {tw : Int64} {b : Nat → List Int32} {rr n : Nat} {K N : List Nat} {W : List Int32} {D : List Nat} {ru : Nat} {L S : List Nat} {lf jf : Nat} (hR : RM σ0 σ a tw b) (hW : BW a b rr n K N W D (-1) ru L S lf jf) {x : Int32} (hx : ¬ (0 ≤ x.toInt ∧ x.toInt ≤ 3)) : Cn 3 M_X8_dine 0 0 [.ref 1000, .int x] σ (fun r9 σ' => r9 = some (.int (-2)) ∧ σ' = σ) := by
  obtain ⟨hC, hT⟩ := id hW
  obtain ⟨c7, hrr, c13, hn7, c14, cK, cN, cW, cD, hN7, hW7, hD49, hK5, hN9, hD999⟩ := id hC
  refine Cn.intro (lv0 := [some (.ref 1000), some (.int x)]) rfl (Nat.le_of_ble_eq_true rfl) rfl (fun d hd => ?_)
  refine x_iload_n dX8_dine_0 rfl ?_
  refine x_callS m_X8_isSheet l_X8_299 (r_isSheet rfl) (by omega) rfl rfl (Nat.le_of_ble_eq_true rfl) ⟨Nat.le_refl _, Nat.le_refl _⟩ dX8_dine_1 (fun r1 s1 q1 => ?_)
  obtain ⟨rfl, eq1⟩ := q1
  obtain rfl := eq1.symm
  refine x_stk (st' := [.int (bI (decide (0 ≤ (x).toInt ∧ (x).toInt ≤ 3)))]) rfl ?_
  refine x_ifP_ne (P := 0 ≤ (x).toInt ∧ (x).toInt ≤ 3) inferInstance (tgt := 10) dX8_dine_4 (by decide) (fun hv2 => ?_) (fun hv2 => ?_)
  · exact absurd hv2 hx
  · refine x_bipush (v := (-2)) dX8_dine_7 (by decide) ?_
    exact x_iret ⟨Nat.le_refl _, Nat.le_refl _⟩ rfl dX8_dine_9 ⟨rfl, rfl⟩
set_option maxHeartbeats 4000000 in
theorem r_dine_b1 {σ0 σ : ZS} {a : Nat → Int32} {tw : Int64} {b : Nat → List Int32} {rr n : Nat} {K N : List Nat} {W : List Int32} {D : List Nat} {ru : Nat} {L S : List Nat} {lf jf : Nat} (hR : RM σ0 σ a tw b) (hW : BW a b rr n K N W D (-1) ru L S lf jf) {sh : Nat → SH} (hS : RSH b sh) {i : Nat} (hi4 : i < 4) (hb : (sh i).1 = -1) : Cn 3 M_X8_dine 0 0 [.ref 1000, .int (nI i)] σ (fun r9 σ' => r9 = some (.int (-11)) ∧ σ' = σ) := by
  obtain ⟨hC, hT⟩ := id hW
  obtain ⟨c7, hrr, c13, hn7, c14, cK, cN, cW, cD, hN7, hW7, hD49, hK5, hN9, hD999⟩ := id hC
  refine Cn.intro (lv0 := [some (.ref 1000), some (.int (nI i))]) rfl (Nat.le_of_ble_eq_true rfl) rfl (fun d hd => ?_)
  refine x_iload_n dX8_dine_0 rfl ?_
  refine x_callS m_X8_isSheet l_X8_299 (r_isSheet (nI_toInt (by omega))) (by omega) rfl rfl (Nat.le_of_ble_eq_true rfl) ⟨Nat.le_refl _, Nat.le_refl _⟩ dX8_dine_1 (fun r1 s1 q1 => ?_)
  obtain ⟨rfl, eq1⟩ := q1
  obtain rfl := eq1.symm
  refine x_stk (st' := [.int (bI (decide (0 ≤ ((i : Nat) : Int) ∧ ((i : Nat) : Int) ≤ 3)))]) rfl ?_
  refine x_ifP_ne (P := 0 ≤ ((i : Nat) : Int) ∧ ((i : Nat) : Int) ≤ 3) inferInstance (tgt := 10) dX8_dine_4 (by decide) (fun hv2 => ?_) (fun hv2 => ?_)
  · refine x_aload_n dX8_dine_10 rfl ?_
    refine x_rget f_X8_62 hR rfl dX8_dine_11 ?_
    refine x_iload_n dX8_dine_14 rfl ?_
    refine x_rzld (j := 13) (n := i) hR rfl (by decide) rfl rfl (rlt hR (m := 4) (by decide) rfl (by omega)) dX8_dine_15 ?_
    refine x_topi (y := bI (decide (¬ (sh i).1 = -1))) (hS i hi4).1 ?_
    refine x_ifP_ne (P := ¬ (sh i).1 = -1) inferInstance (tgt := 22) dX8_dine_16 (by decide) (fun hv3 => ?_) (fun hv3 => ?_)
    · exact absurd hb hv3
    · refine x_bipush (v := (-11)) dX8_dine_19 (by decide) ?_
      exact x_iret ⟨Nat.le_refl _, Nat.le_refl _⟩ rfl dX8_dine_21 ⟨rfl, rfl⟩
  · exact absurd (by omega) hv2
set_option maxHeartbeats 4000000 in
theorem r_dine_b2 {σ0 σ : ZS} {a : Nat → Int32} {tw : Int64} {b : Nat → List Int32} {rr n : Nat} {K N : List Nat} {W : List Int32} {D : List Nat} {ru : Nat} {L S : List Nat} {lf jf : Nat} (hR : RM σ0 σ a tw b) (hW : BW a b rr n K N W D (-1) ru L S lf jf) {sh : Nat → SH} (hS : RSH b sh) {i : Nat} (hi4 : i < 4) (hne : ¬ (sh i).1 = -1) (hz40 : (sh i).2.1 ≤ 40) (hA9 : tbS n (sh i).2.2 (sh i).2.1 = none) : Cn 4 M_X8_dine 0 0 [.ref 1000, .int (nI i)] σ (fun r9 σ' => ∃ (a' : Nat → Int32) (tw' : Int64) (b' : Nat → List Int32), r9 = some (.int (-2)) ∧ RM σ0 σ' a' tw' b' ∧ FrR a a' ∧ Fq b b') := by
  obtain ⟨hC, hT⟩ := id hW
  obtain ⟨c7, hrr, c13, hn7, c14, cK, cN, cW, cD, hN7, hW7, hD49, hK5, hN9, hD999⟩ := id hC
  refine Cn.intro (lv0 := [some (.ref 1000), some (.int (nI i))]) rfl (Nat.le_of_ble_eq_true rfl) rfl (fun d hd => ?_)
  refine x_iload_n dX8_dine_0 rfl ?_
  refine x_callS m_X8_isSheet l_X8_299 (r_isSheet (nI_toInt (by omega))) (by omega) rfl rfl (Nat.le_of_ble_eq_true rfl) ⟨Nat.le_refl _, Nat.le_refl _⟩ dX8_dine_1 (fun r1 s1 q1 => ?_)
  obtain ⟨rfl, eq1⟩ := q1
  obtain rfl := eq1.symm
  refine x_stk (st' := [.int (bI (decide (0 ≤ ((i : Nat) : Int) ∧ ((i : Nat) : Int) ≤ 3)))]) rfl ?_
  refine x_ifP_ne (P := 0 ≤ ((i : Nat) : Int) ∧ ((i : Nat) : Int) ≤ 3) inferInstance (tgt := 10) dX8_dine_4 (by decide) (fun hv2 => ?_) (fun hv2 => ?_)
  · refine x_aload_n dX8_dine_10 rfl ?_
    refine x_rget f_X8_62 hR rfl dX8_dine_11 ?_
    refine x_iload_n dX8_dine_14 rfl ?_
    refine x_rzld (j := 13) (n := i) hR rfl (by decide) rfl rfl (rlt hR (m := 4) (by decide) rfl (by omega)) dX8_dine_15 ?_
    refine x_topi (y := bI (decide (¬ (sh i).1 = -1))) (hS i hi4).1 ?_
    refine x_ifP_ne (P := ¬ (sh i).1 = -1) inferInstance (tgt := 22) dX8_dine_16 (by decide) (fun hv3 => ?_) (fun hv3 => ?_)
    · refine x_aload_n dX8_dine_22 rfl ?_
      refine x_iload_n dX8_dine_23 rfl ?_
      refine x_callV m_X8_sits l_X8_304 ((r_sits hR hC hS (i := i) hi4 hne hz40).mono (fun r9 σ' h => (⟨by rw [h.1, hA9]; rfl, h.2⟩ : r9 = some (.int (nI 0)) ∧ _))) rfl hR.2.1 (by omega) rfl rfl (Nat.le_of_ble_eq_true rfl) ⟨Nat.le_refl _, Nat.le_refl _⟩ dX8_dine_24 (fun r4 s4 q4 => ?_)
      obtain ⟨rfl, a4, b4, R4, F4, B4, z4⟩ := q4
      
      refine x_stk (st' := [.int (nI 0)]) rfl ?_
      refine x_ifN_ne (tgt := 33) dX8_dine_27 (by decide) (by omega) (fun hv5 => ?_) (fun hv5 => ?_)
      · exact absurd hv5 (by decide)
      · refine x_bipush (v := (-2)) dX8_dine_30 (by decide) ?_
        exact x_iret ⟨Nat.le_refl _, Nat.le_refl _⟩ rfl dX8_dine_32 ⟨_, _, _, rfl, R4, F4, B4.q7⟩
    · exact absurd hne hv3
  · exact absurd (by omega) hv2
set_option maxHeartbeats 4000000 in
theorem r_dine_b3 {σ0 σ : ZS} {a : Nat → Int32} {tw : Int64} {b : Nat → List Int32} {rr n : Nat} {K N : List Nat} {W : List Int32} {D : List Nat} {ru : Nat} {L S : List Nat} {lf jf : Nat} (hR : RM σ0 σ a tw b) (hW : BW a b rr n K N W D (-1) ru L S lf jf) {sh : Nat → SH} (hS : RSH b sh) {i : Nat} (hi4 : i < 4) (hne : ¬ (sh i).1 = -1) (hz40 : (sh i).2.1 ≤ 40) {A : Nat} (hA9 : tbS n (sh i).2.2 (sh i).2.1 = some A) {dn : Nat} (c8 : a 8 = nI dn) (hdn : dn ≤ 999) (hlt : dn = 999) : Cn 4 M_X8_dine 0 0 [.ref 1000, .int (nI i)] σ (fun r9 σ' => ∃ (a' : Nat → Int32) (tw' : Int64) (b' : Nat → List Int32), r9 = some (.int (-3)) ∧ RM σ0 σ' a' tw' b' ∧ FrR a a' ∧ Fq b b') := by
  obtain ⟨hC, hT⟩ := id hW
  obtain ⟨c7, hrr, c13, hn7, c14, cK, cN, cW, cD, hN7, hW7, hD49, hK5, hN9, hD999⟩ := id hC
  refine Cn.intro (lv0 := [some (.ref 1000), some (.int (nI i))]) rfl (Nat.le_of_ble_eq_true rfl) rfl (fun d hd => ?_)
  refine x_iload_n dX8_dine_0 rfl ?_
  refine x_callS m_X8_isSheet l_X8_299 (r_isSheet (nI_toInt (by omega))) (by omega) rfl rfl (Nat.le_of_ble_eq_true rfl) ⟨Nat.le_refl _, Nat.le_refl _⟩ dX8_dine_1 (fun r1 s1 q1 => ?_)
  obtain ⟨rfl, eq1⟩ := q1
  obtain rfl := eq1.symm
  refine x_stk (st' := [.int (bI (decide (0 ≤ ((i : Nat) : Int) ∧ ((i : Nat) : Int) ≤ 3)))]) rfl ?_
  refine x_ifP_ne (P := 0 ≤ ((i : Nat) : Int) ∧ ((i : Nat) : Int) ≤ 3) inferInstance (tgt := 10) dX8_dine_4 (by decide) (fun hv2 => ?_) (fun hv2 => ?_)
  · refine x_aload_n dX8_dine_10 rfl ?_
    refine x_rget f_X8_62 hR rfl dX8_dine_11 ?_
    refine x_iload_n dX8_dine_14 rfl ?_
    refine x_rzld (j := 13) (n := i) hR rfl (by decide) rfl rfl (rlt hR (m := 4) (by decide) rfl (by omega)) dX8_dine_15 ?_
    refine x_topi (y := bI (decide (¬ (sh i).1 = -1))) (hS i hi4).1 ?_
    refine x_ifP_ne (P := ¬ (sh i).1 = -1) inferInstance (tgt := 22) dX8_dine_16 (by decide) (fun hv3 => ?_) (fun hv3 => ?_)
    · refine x_aload_n dX8_dine_22 rfl ?_
      refine x_iload_n dX8_dine_23 rfl ?_
      refine x_callV m_X8_sits l_X8_304 ((r_sits hR hC hS (i := i) hi4 hne hz40).mono (fun r9 σ' h => (⟨by rw [h.1, hA9]; rfl, h.2⟩ : r9 = some (.int (nI 1)) ∧ _))) rfl hR.2.1 (by omega) rfl rfl (Nat.le_of_ble_eq_true rfl) ⟨Nat.le_refl _, Nat.le_refl _⟩ dX8_dine_24 (fun r4 s4 q4 => ?_)
      obtain ⟨rfl, a4, b4, R4, F4, B4, z4⟩ := q4
      have z94 := z4 (by rw [hA9]; rfl)
      have hW4 := SW_tell hW F4 B4 hA9 z94.1 z94.2
      obtain ⟨hC4, hT4, c314, hm4, cT4, ht4, hTn4⟩ := id hW4
      obtain ⟨c74, hrr4, c134, hn74, c144, cK4, cN4, cW4, cD4, hN74, hW74, hD494, hK54, hN94, hD9994⟩ := id hC4
      obtain ⟨ht74, htb4⟩ := id ht4
      refine x_stk (st' := [.int (nI 1)]) rfl ?_
      refine x_ifN_ne (tgt := 33) dX8_dine_27 (by decide) (by omega) (fun hv5 => ?_) (fun hv5 => ?_)
      · refine x_aload_n dX8_dine_33 rfl ?_
        refine x_rget (v := .int (nI dn)) f_X8_111 R4 (rg ((F4 8 (by omega)).trans c8)) dX8_dine_34 ?_
        refine x_sipush (v := nI 999) dX8_dine_37 (by decide) ?_
        refine x_icmpN_ne (tgt := 46) dX8_dine_40 (by decide) (by omega) (by omega) (fun hv6 => ?_) (fun hv6 => ?_)
        · exact absurd hlt hv6
        · refine x_bipush (v := (-3)) dX8_dine_43 (by decide) ?_
          exact x_iret ⟨Nat.le_refl _, Nat.le_refl _⟩ rfl dX8_dine_45 ⟨_, _, _, rfl, R4, F4, B4.q7⟩
      · exact absurd hv5 (by decide)
    · exact absurd hne hv3
  · exact absurd (by omega) hv2
