theorem bnd_min {g d : Nat} (hg : g < 2147483648) (hd : d < 2147483648) : bndI (nI g) (nI 0) (nI d) = nI (min g d) := by
  unfold bndI
  rw [if_neg (by rw [nI_ltI hg (by omega)]; omega)]
  by_cases h : d < g
  · rw [if_pos ((nI_ltI hd hg).mpr h), Nat.min_eq_right (by omega)]
  · rw [if_neg (mt (nI_ltI hd hg).mp h), Nat.min_eq_left (by omega)]
theorem bnd_min2 {d l : Nat} (hd : d ≤ 999) (hl : l < 1000000) : bndI (nI (d + l)) (nI d) (nI 999) = nI (min (d + l) 999) := by
  unfold bndI
  rw [if_neg (by rw [nI_ltI (by omega) (by omega)]; omega)]
  by_cases h : 999 < d + l
  · rw [if_pos ((nI_ltI (by omega) (by omega)).mpr h), Nat.min_eq_right (by omega)]
  · rw [if_neg (mt (nI_ltI (by omega) (by omega)).mp h), Nat.min_eq_left (by omega)]
theorem letsS_le (k nu d v : Nat) : letsS k nu d v ≤ d + 2 * v + nu := by
  unfold letsS
  repeat' split
  all_goals omega
theorem lendS_le (k nu v : Nat) : lendS k nu v ≤ v + nu := by
  unfold lendS
  repeat' split
  all_goals omega
set_option maxHeartbeats 4000000 in
theorem c_factsOf {σ : ZS} {p : Nat} {ro di : Int32} {n : Nat} {K N : List Nat} {Wt : List Int32} {D : List Nat} {ru r s k : Nat} {S : List Nat} {lf jf : Nat} (h : Pa σ p ro di (nI ru) n K N Wt D) (hM : MaW σ ru r s k S lf jf) (hp : p = 1 ∨ p = 11) {one nb seat size : Nat} (h1 : one < 7) (h2 : nb < 7) (h3 : seat < 100) (h4 : size < 100) : Cn 1 M_X1_factsOf 0 0 [.ref 16, .ref p, .int (nI one), .int (nI nb), .int (nI seat), .int (nI size)] σ (fun r9 σ' => r9 = some (.ref 18) ∧ zg σ' 18 = some (.inl (0, factsL N Wt one nb seat size D)) ∧ Fr (fun i => i = 18) σ σ') := by
  obtain ⟨g0, g1, g2, g3, g4, hn7, hK7, hN7, hW7, hD49, hK5, hN9, hD999⟩ := id h
  obtain ⟨m0, ⟨rl, m1, hrl⟩, hRu, ⟨Ks, mk, hKs⟩, ⟨F0, mf0, hF0⟩, hloc, hrub⟩ := id hM
  have hkr := hRu.2.2.2.2.2.2.1
  have hks := hRu.2.2.2.2.2.2.2
  refine Cn.intro (lv0 := [some (.ref 16), some (.ref p), some (.int (nI one)), some (.int (nI nb)), some (.int (nI seat)), some (.int (nI size))]) rfl (Nat.le_of_ble_eq_true rfl) rfl (fun d hd => ?_)
  refine x_aload_n dX1_factsOf_0 rfl ?_
  refine x_get (v := .ref 18) f_X1_17 m0 rfl dX1_factsOf_1 ?_
  refine x_iconst (v := nI 0) dX1_factsOf_4 (by decide) ?_
  refine x_aload_n dX1_factsOf_5 rfl ?_
  refine x_iload_n dX1_factsOf_6 rfl ?_
  refine x_iload_n dX1_factsOf_7 rfl ?_
  refine x_callV m_X2_debt l_X1_24 (c_debt h (by omega) (by omega)) rfl g0 (by omega) rfl rfl (Nat.le_of_ble_eq_true rfl) ⟨Nat.le_refl _, Nat.le_refl _⟩ dX1_factsOf_8 (fun r1 s1 q1 => ?_)
  obtain ⟨rfl, e1⟩ := q1
  obtain rfl := e1.symm
  refine x_stk (st' := [.int (nI ((D.getD (nb * 7 + one) 0))), .int (nI 0), .ref 18]) rfl ?_
  refine x_iastK (n := 0) mf0 rfl (by simp only [List.length_map, List.length_set, *] <;> omega) dX1_factsOf_11 (fun sw2 gw2 Fw2 => ?_)
  refine x_aload_n dX1_factsOf_12 rfl ?_
  refine x_get (v := .ref 18) f_X1_17 (Fw2.at (by omega) m0) rfl dX1_factsOf_13 ?_
  refine x_iconst (v := nI 1) dX1_factsOf_16 (by decide) ?_
  refine x_aload_n dX1_factsOf_17 rfl ?_
  refine x_iload_n dX1_factsOf_18 rfl ?_
  refine x_iload_n dX1_factsOf_19 rfl ?_
  refine x_callV m_X2_debt l_X1_24 (c_debt (h.fr Fw2 (by omega)) (by omega) (by omega)) rfl (Fw2.at (by omega) g0) (by omega) rfl rfl (Nat.le_of_ble_eq_true rfl) ⟨Nat.le_refl _, Nat.le_refl _⟩ dX1_factsOf_20 (fun r3 s3 q3 => ?_)
  obtain ⟨rfl, e3⟩ := q3
  obtain rfl := e3.symm
  refine x_stk (st' := [.int (nI ((D.getD (one * 7 + nb) 0))), .int (nI 1), .ref 18]) rfl ?_
  refine x_iastK (n := 1) gw2 rfl (by simp only [List.length_map, List.length_set, *] <;> omega) dX1_factsOf_23 (fun sw4 gw4 Fw4 => ?_)
  refine x_aload_n dX1_factsOf_24 rfl ?_
  refine x_get (v := .ref 18) f_X1_17 (Fw4.at (by omega) (Fw2.at (by omega) m0)) rfl dX1_factsOf_25 ?_
  refine x_iconst (v := nI 2) dX1_factsOf_28 (by decide) ?_
  refine x_aload_n dX1_factsOf_29 rfl ?_
  refine x_get (v := .ref (p + 2)) f_X1_30 (Fw4.at (by omega) (Fw2.at (by omega) g0)) rfl dX1_factsOf_30 ?_
  refine x_iload_n dX1_factsOf_33 rfl ?_
  refine x_iald (n := one) (Fw4.at (by omega) (Fw2.at (by omega) g2)) rfl (by simp only [List.length_map, List.length_set, *] <;> omega) dX1_factsOf_34 ?_
  refine x_topi (y := nI ((N.getD one 0))) gm_getD ?_
  refine x_iastK (n := 2) gw4 rfl (by simp only [List.length_map, List.length_set, *] <;> omega) dX1_factsOf_35 (fun sw5 gw5 Fw5 => ?_)
  refine x_aload_n dX1_factsOf_36 rfl ?_
  refine x_get (v := .ref 18) f_X1_17 (Fw5.at (by omega) (Fw4.at (by omega) (Fw2.at (by omega) m0))) rfl dX1_factsOf_37 ?_
  refine x_iconst (v := nI 3) dX1_factsOf_40 (by decide) ?_
  refine x_iload dX1_factsOf_41 rfl ?_
  refine x_iastK (n := 3) gw5 rfl (by simp only [List.length_map, List.length_set, *] <;> omega) dX1_factsOf_43 (fun sw6 gw6 Fw6 => ?_)
  refine x_aload_n dX1_factsOf_44 rfl ?_
  refine x_get (v := .ref 18) f_X1_17 (Fw6.at (by omega) (Fw5.at (by omega) (Fw4.at (by omega) (Fw2.at (by omega) m0)))) rfl dX1_factsOf_45 ?_
  refine x_iconst (v := nI 4) dX1_factsOf_48 (by decide) ?_
  refine x_iload dX1_factsOf_49 rfl ?_
  refine x_iastK (n := 4) gw6 rfl (by simp only [List.length_map, List.length_set, *] <;> omega) dX1_factsOf_51 (fun sw7 gw7 Fw7 => ?_)
  refine x_aload_n dX1_factsOf_52 rfl ?_
  refine x_get (v := .ref 18) f_X1_17 (Fw7.at (by omega) (Fw6.at (by omega) (Fw5.at (by omega) (Fw4.at (by omega) (Fw2.at (by omega) m0))))) rfl dX1_factsOf_53 ?_
  refine x_iconst (v := nI 5) dX1_factsOf_56 (by decide) ?_
  refine x_aload_n dX1_factsOf_57 rfl ?_
  refine x_get (v := .ref (p + 3)) f_X1_33 (Fw7.at (by omega) (Fw6.at (by omega) (Fw5.at (by omega) (Fw4.at (by omega) (Fw2.at (by omega) g0))))) rfl dX1_factsOf_58 ?_
  refine x_iload_n dX1_factsOf_61 rfl ?_
  refine x_iald (n := one) (Fw7.at (by omega) (Fw6.at (by omega) (Fw5.at (by omega) (Fw4.at (by omega) (Fw2.at (by omega) g3))))) rfl (by simp only [List.length_map, List.length_set, *] <;> omega) dX1_factsOf_62 ?_
  refine x_iload_n dX1_factsOf_63 rfl ?_
  refine x_icmp_ne (tgt := 71) dX1_factsOf_64 (by decide) (fun h8 => ?_) (fun h8 => ?_)
  · refine x_iconst (v := nI 0) dX1_factsOf_71 (by decide) ?_
    refine x_iastK (n := 5) gw7 rfl (by simp only [List.length_map, List.length_set, *] <;> omega) dX1_factsOf_72 (fun sw9 gw9 Fw9 => ?_)
    refine x_aload_n dX1_factsOf_73 rfl ?_
    refine x_get (v := .ref 18) f_X1_17 (Fw9.at (by omega) (Fw7.at (by omega) (Fw6.at (by omega) (Fw5.at (by omega) (Fw4.at (by omega) (Fw2.at (by omega) m0)))))) rfl dX1_factsOf_74 ?_
    exact x_aret ⟨Nat.le_refl _, Nat.le_refl _⟩ rfl (Or.inr ⟨_, rfl⟩) dX1_factsOf_77 ⟨rfl, by rw [factsL, gw9, len6 hF0, bI_if, if_neg h8], ((((((Fr.rf.tr (Fw2.mono (fun i hi => by omega))).tr (Fw4.mono (fun i hi => by omega))).tr (Fw5.mono (fun i hi => by omega))).tr (Fw6.mono (fun i hi => by omega))).tr (Fw7.mono (fun i hi => by omega))).tr (Fw9.mono (fun i hi => by omega)))⟩
  · refine x_iconst (v := nI 1) dX1_factsOf_67 (by decide) ?_
    refine x_goto (tgt := 72) dX1_factsOf_68 (by decide) ?_
    refine x_iastK (n := 5) gw7 rfl (by simp only [List.length_map, List.length_set, *] <;> omega) dX1_factsOf_72 (fun sw10 gw10 Fw10 => ?_)
    refine x_aload_n dX1_factsOf_73 rfl ?_
    refine x_get (v := .ref 18) f_X1_17 (Fw10.at (by omega) (Fw7.at (by omega) (Fw6.at (by omega) (Fw5.at (by omega) (Fw4.at (by omega) (Fw2.at (by omega) m0)))))) rfl dX1_factsOf_74 ?_
    exact x_aret ⟨Nat.le_refl _, Nat.le_refl _⟩ rfl (Or.inr ⟨_, rfl⟩) dX1_factsOf_77 ⟨rfl, by rw [factsL, gw10, len6 hF0, bI_if, if_pos h8], ((((((Fr.rf.tr (Fw2.mono (fun i hi => by omega))).tr (Fw4.mono (fun i hi => by omega))).tr (Fw5.mono (fun i hi => by omega))).tr (Fw6.mono (fun i hi => by omega))).tr (Fw7.mono (fun i hi => by omega))).tr (Fw10.mono (fun i hi => by omega)))⟩
set_option maxHeartbeats 4000000 in
theorem c_forgive {σ : ZS} {p : Nat} {ro di : Int32} {n : Nat} {K N : List Nat} {Wt : List Int32} {D : List Nat} {ru r s k : Nat} {S : List Nat} {lf jf : Nat} (h : Pa σ p ro di (nI ru) n K N Wt D) (hM : MaW σ ru r s k S lf jf) (hp : p = 1 ∨ p = 11) {one nb seat size : Nat} (h1 : one < 7) (h2 : nb < 7) (h3 : seat < 100) (h4 : size < 100) : Cn 2 M_X1_forgive 0 0 [.ref 16, .ref p, .int (nI one), .int (nI nb), .int (nI seat), .int (nI size)] σ (fun r9 σ' => r9 = none ∧ Pa σ' p ro di (nI ru) n K N Wt (fgD S lf K N Wt one nb seat size D) ∧ MaW σ' ru r s k S lf jf ∧ Fr (fun i => i = 18 ∨ i = k ∨ i = p + 4) σ σ') := by
  obtain ⟨g0, g1, g2, g3, g4, hn7, hK7, hN7, hW7, hD49, hK5, hN9, hD999⟩ := id h
  obtain ⟨m0, ⟨rl, m1, hrl⟩, hRu, ⟨Ks, mk, hKs⟩, ⟨F0, mf0, hF0⟩, hloc, hrub⟩ := id hM
  have hkr := hRu.2.2.2.2.2.2.1
  have hks := hRu.2.2.2.2.2.2.2
  have hdl := letsS_le (K.getD one 0) (N.getD one 0) (D.getD (nb * 7 + one) 0) (tellN (factsL N Wt one nb seat size D) S 0 lf)
  have hd9 := hD999 (nb * 7 + one)
  have hn9 := hN9 one
  have ht9 := tellN_le (factsL N Wt one nb seat size D) S 0 lf
  refine Cn.intro (lv0 := [some (.ref 16), some (.ref p), some (.int (nI one)), some (.int (nI nb)), some (.int (nI seat)), some (.int (nI size)), none, none, none]) rfl (Nat.le_of_ble_eq_true rfl) rfl (fun d hd => ?_)
  refine x_aload_n dX1_forgive_0 rfl ?_
  refine x_iload_n dX1_forgive_1 rfl ?_
  refine x_iload_n dX1_forgive_2 rfl ?_
  refine x_callV m_X2_debt l_X1_24 (c_debt h (by omega) (by omega)) rfl g0 (by omega) rfl rfl (Nat.le_of_ble_eq_true rfl) ⟨Nat.le_refl _, Nat.le_refl _⟩ dX1_forgive_3 (fun r1 s1 q1 => ?_)
  obtain ⟨rfl, e1⟩ := q1
  obtain rfl := e1.symm
  refine x_stk (st' := [.int (nI ((D.getD (nb * 7 + one) 0)))]) rfl ?_
  refine x_istore dX1_forgive_6 (by decide) rfl ?_
  refine x_lv (lv' := [some (.ref 16), some (.ref p), some (.int (nI one)), some (.int (nI nb)), some (.int (nI seat)), some (.int (nI size)), some (.int (nI ((D.getD (nb * 7 + one) 0)))), none, none]) rfl ?_
  refine x_aload_n dX1_forgive_8 rfl ?_
  refine x_get (v := .ref 17) f_X1_11 m0 rfl dX1_forgive_9 ?_
  refine x_aload_n dX1_forgive_12 rfl ?_
  refine x_get (v := .int (nI ru)) f_X1_36 g0 rfl dX1_forgive_13 ?_
  refine x_aald (Or.inl rfl) m1 rfl hrl dX1_forgive_16 ?_
  refine x_iconst (v := nI 0) dX1_forgive_17 (by decide) ?_
  refine x_aload_n dX1_forgive_18 rfl ?_
  refine x_aload_n dX1_forgive_19 rfl ?_
  refine x_iload_n dX1_forgive_20 rfl ?_
  refine x_iload_n dX1_forgive_21 rfl ?_
  refine x_iload dX1_forgive_22 rfl ?_
  refine x_iload dX1_forgive_24 rfl ?_
  refine x_callV m_X1_factsOf l_X1_40 (c_factsOf h hM hp h1 h2 h3 h4) rfl m0 (by omega) rfl rfl (Nat.le_of_ble_eq_true rfl) ⟨Nat.le_refl _, Nat.le_refl _⟩ dX1_forgive_26 (fun r2 s2 q2 => ?_)
  obtain ⟨rfl, f2, F2⟩ := q2
  refine x_stk (st' := [.ref 18, .int (nI 0), .ref r]) rfl ?_
  refine x_callV m_X4_tell l_X1_44 (c_tell0 (hM.of F2 (by omega) ⟨Ks, F2.at (by omega) mk, hKs⟩ ⟨_, f2, rfl⟩).2.2.1 (F2.at (by omega) mk) hKs f2 rfl (by omega)) rfl (F2.at (by omega) hM.2.2.1.1) (by omega) rfl rfl (Nat.le_of_ble_eq_true rfl) ⟨Nat.le_refl _, Nat.le_refl _⟩ dX1_forgive_29 (fun r3 s3 q3 => ?_)
  obtain ⟨rfl, F3, K3, c3, e3⟩ := q3
  refine x_stk (st' := [.int ((tellV (factsL N Wt one nb seat size D) S 0 lf (nI 0)))]) rfl ?_
  refine x_topi (y := nI ((tellN (factsL N Wt one nb seat size D) S 0 lf))) (tellN_eq _ _ _ _) ?_
  refine x_istore dX1_forgive_32 (by decide) rfl ?_
  refine x_lv (lv' := [some (.ref 16), some (.ref p), some (.int (nI one)), some (.int (nI nb)), some (.int (nI seat)), some (.int (nI size)), some (.int (nI ((D.getD (nb * 7 + one) 0)))), some (.int (nI ((tellN (factsL N Wt one nb seat size D) S 0 lf)))), none]) rfl ?_
  refine x_aload_n dX1_forgive_34 rfl ?_
  refine x_get (v := .ref (p + 1)) f_X1_48 (F3.at (by omega) (F2.at (by omega) g0)) rfl dX1_forgive_35 ?_
  refine x_iload_n dX1_forgive_38 rfl ?_
  refine x_iald (n := one) (F3.at (by omega) (F2.at (by omega) g1)) rfl (by simp only [List.length_map, List.length_set, *] <;> omega) dX1_forgive_39 ?_
  refine x_topi (y := nI ((K.getD one 0))) gm_getD ?_
  refine x_aload_n dX1_forgive_40 rfl ?_
  refine x_get (v := .ref (p + 2)) f_X1_30 (F3.at (by omega) (F2.at (by omega) g0)) rfl dX1_forgive_41 ?_
  refine x_iload_n dX1_forgive_44 rfl ?_
  refine x_iald (n := one) (F3.at (by omega) (F2.at (by omega) g2)) rfl (by simp only [List.length_map, List.length_set, *] <;> omega) dX1_forgive_45 ?_
  refine x_topi (y := nI ((N.getD one 0))) gm_getD ?_
  refine x_iload dX1_forgive_46 rfl ?_
  refine x_iload dX1_forgive_48 rfl ?_
  refine x_callS m_X0_letsGo l_X1_51 (c_letsGo (hK5 _) (hN9 _) (hD999 _) (tellN_le _ _ _ _)) (by omega) rfl rfl (Nat.le_of_ble_eq_true rfl) ⟨Nat.le_refl _, Nat.le_refl _⟩ dX1_forgive_50 (fun r4 s4 q4 => ?_)
  obtain ⟨rfl, e4⟩ := q4
  obtain rfl := e4.symm
  refine x_stk (st' := [.int (nI ((letsS (K.getD one 0) (N.getD one 0) (D.getD (nb * 7 + one) 0) (tellN (factsL N Wt one nb seat size D) S 0 lf))))]) rfl ?_
  refine x_istore dX1_forgive_53 (by decide) rfl ?_
  refine x_lv (lv' := [some (.ref 16), some (.ref p), some (.int (nI one)), some (.int (nI nb)), some (.int (nI seat)), some (.int (nI size)), some (.int (nI ((D.getD (nb * 7 + one) 0)))), some (.int (nI ((tellN (factsL N Wt one nb seat size D) S 0 lf)))), some (.int (nI ((letsS (K.getD one 0) (N.getD one 0) (D.getD (nb * 7 + one) 0) (tellN (factsL N Wt one nb seat size D) S 0 lf)))))]) rfl ?_
  refine x_aload_n dX1_forgive_55 rfl ?_
  refine x_iload_n dX1_forgive_56 rfl ?_
  refine x_iload_n dX1_forgive_57 rfl ?_
  refine x_iload dX1_forgive_58 rfl ?_
  refine x_iload dX1_forgive_60 rfl ?_
  refine x_iconst (v := nI 0) dX1_forgive_62 (by decide) ?_
  refine x_iload dX1_forgive_63 rfl ?_
  refine x_callSN m_X7_bounded n_X1_57 (c_bounded (nI ((letsS (K.getD one 0) (N.getD one 0) (D.getD (nb * 7 + one) 0) (tellN (factsL N Wt one nb seat size D) S 0 lf)))) (nI 0) (nI ((D.getD (nb * 7 + one) 0)))) (by omega) rfl rfl (Nat.le_of_ble_eq_true rfl) ⟨Nat.le_refl _, Nat.le_refl _⟩ dX1_forgive_65 (fun r5 s5 q5 => ?_)
  obtain ⟨rfl, e5⟩ := q5
  obtain rfl := e5.symm
  refine x_stk (st' := [.int ((bndI (nI ((letsS (K.getD one 0) (N.getD one 0) (D.getD (nb * 7 + one) 0) (tellN (factsL N Wt one nb seat size D) S 0 lf)))) (nI 0) (nI ((D.getD (nb * 7 + one) 0))))), .int (nI ((D.getD (nb * 7 + one) 0))), .int (nI one), .int (nI nb), .ref p]) rfl ?_
  refine x_topi (y := nI ((min (letsS (K.getD one 0) (N.getD one 0) (D.getD (nb * 7 + one) 0) (tellN (factsL N Wt one nb seat size D) S 0 lf)) (D.getD (nb * 7 + one) 0)))) (bnd_min (by omega) (by omega)) ?_
  have fgD_ok' := fgD_ok (S := S) (lf := lf) (K := K) (N := N) (W := Wt) (one := one) (nb := nb) (seat := seat) (size := size) ⟨hD49, hD999⟩
  refine x_isubN (by omega) dX1_forgive_68 ?_
  refine x_callV m_X2_setDebt l_X1_61 (c_setDebt ((h.fr F2 (by omega)).fr F3 (by omega)) (by omega) (by omega)) rfl (F3.at (by omega) (F2.at (by omega) g0)) (by omega) rfl rfl (Nat.le_of_ble_eq_true rfl) ⟨Nat.le_refl _, Nat.le_refl _⟩ dX1_forgive_69 (fun r6 s6 q6 => ?_)
  obtain ⟨rfl, rfl⟩ := q6
  refine x_stk (st' := []) rfl ?_
  exact x_vret ⟨Nat.le_refl _, Nat.le_refl _⟩ rfl dX1_forgive_72 ⟨rfl, ((h.fr F2 (by omega)).fr F3 (by omega)).setD fgD_ok'.1 fgD_ok'.2, ((hM.of F2 (by omega) ⟨Ks, F2.at (by omega) mk, hKs⟩ ⟨_, f2, rfl⟩).of F3 (by omega) ⟨K3, c3, e3⟩ ⟨_, F3.at (by omega) f2, rfl⟩).fr (Fr.rf.zs rfl : Fr (fun i => i = p + 4) s3 _) (by omega), (((Fr.rf.tr (F2.mono (fun i hi => by omega))).tr (F3.mono (fun i hi => by omega)))).tr (((Fr.rf.zs rfl : Fr (fun i => i = p + 4) s3 _)).mono (fun i hi => by omega))⟩
set_option maxHeartbeats 4000000 in
theorem c_lend {σ : ZS} {p : Nat} {ro di : Int32} {n : Nat} {K N : List Nat} {Wt : List Int32} {D : List Nat} {ru r s k : Nat} {S : List Nat} {lf jf : Nat} (h : Pa σ p ro di (nI ru) n K N Wt D) (hM : MaW σ ru r s k S lf jf) (hp : p = 1 ∨ p = 11) {one nb seat size : Nat} (h1 : one < 7) (h2 : nb < 7) (h3 : seat < 100) (h4 : size < 100) : Cn 2 M_X1_lend 0 0 [.ref 16, .ref p, .int (nI one), .int (nI nb), .int (nI seat), .int (nI size)] σ (fun r9 σ' => r9 = none ∧ Pa σ' p ro di (nI ru) n K N Wt (ldD S lf jf K N Wt one nb seat size D) ∧ MaW σ' ru r s k S lf jf ∧ Fr (fun i => i = 18 ∨ i = k ∨ i = p + 4) σ σ') := by
  obtain ⟨g0, g1, g2, g3, g4, hn7, hK7, hN7, hW7, hD49, hK5, hN9, hD999⟩ := id h
  obtain ⟨m0, ⟨rl, m1, hrl⟩, hRu, ⟨Ks, mk, hKs⟩, ⟨F0, mf0, hF0⟩, hloc, hrub⟩ := id hM
  have hkr := hRu.2.2.2.2.2.2.1
  have hks := hRu.2.2.2.2.2.2.2
  have hdl := lendS_le (K.getD one 0) (N.getD one 0) (tellN (factsL N Wt one nb seat size D) S lf jf)
  have hd9 := hD999 (nb * 7 + one)
  have hn9 := hN9 one
  have ht9 := tellN_le (factsL N Wt one nb seat size D) S lf jf
  refine Cn.intro (lv0 := [some (.ref 16), some (.ref p), some (.int (nI one)), some (.int (nI nb)), some (.int (nI seat)), some (.int (nI size)), none, none, none]) rfl (Nat.le_of_ble_eq_true rfl) rfl (fun d hd => ?_)
  refine x_aload_n dX1_lend_0 rfl ?_
  refine x_iload_n dX1_lend_1 rfl ?_
  refine x_iload_n dX1_lend_2 rfl ?_
  refine x_callV m_X2_debt l_X1_24 (c_debt h (by omega) (by omega)) rfl g0 (by omega) rfl rfl (Nat.le_of_ble_eq_true rfl) ⟨Nat.le_refl _, Nat.le_refl _⟩ dX1_lend_3 (fun r1 s1 q1 => ?_)
  obtain ⟨rfl, e1⟩ := q1
  obtain rfl := e1.symm
  refine x_stk (st' := [.int (nI ((D.getD (nb * 7 + one) 0)))]) rfl ?_
  refine x_istore dX1_lend_6 (by decide) rfl ?_
  refine x_lv (lv' := [some (.ref 16), some (.ref p), some (.int (nI one)), some (.int (nI nb)), some (.int (nI seat)), some (.int (nI size)), some (.int (nI ((D.getD (nb * 7 + one) 0)))), none, none]) rfl ?_
  refine x_aload_n dX1_lend_8 rfl ?_
  refine x_get (v := .ref 17) f_X1_11 m0 rfl dX1_lend_9 ?_
  refine x_aload_n dX1_lend_12 rfl ?_
  refine x_get (v := .int (nI ru)) f_X1_36 g0 rfl dX1_lend_13 ?_
  refine x_aald (Or.inl rfl) m1 rfl hrl dX1_lend_16 ?_
  refine x_iconst (v := nI 1) dX1_lend_17 (by decide) ?_
  refine x_aload_n dX1_lend_18 rfl ?_
  refine x_aload_n dX1_lend_19 rfl ?_
  refine x_iload_n dX1_lend_20 rfl ?_
  refine x_iload_n dX1_lend_21 rfl ?_
  refine x_iload dX1_lend_22 rfl ?_
  refine x_iload dX1_lend_24 rfl ?_
  refine x_callV m_X1_factsOf l_X1_40 (c_factsOf h hM hp h1 h2 h3 h4) rfl m0 (by omega) rfl rfl (Nat.le_of_ble_eq_true rfl) ⟨Nat.le_refl _, Nat.le_refl _⟩ dX1_lend_26 (fun r2 s2 q2 => ?_)
  obtain ⟨rfl, f2, F2⟩ := q2
  refine x_stk (st' := [.ref 18, .int (nI 1), .ref r]) rfl ?_
  refine x_callV m_X4_tell l_X1_44 (c_tell1 (hM.of F2 (by omega) ⟨Ks, F2.at (by omega) mk, hKs⟩ ⟨_, f2, rfl⟩).2.2.1 (F2.at (by omega) mk) hKs f2 rfl (by omega)) rfl (F2.at (by omega) hM.2.2.1.1) (by omega) rfl rfl (Nat.le_of_ble_eq_true rfl) ⟨Nat.le_refl _, Nat.le_refl _⟩ dX1_lend_29 (fun r3 s3 q3 => ?_)
  obtain ⟨rfl, F3, K3, c3, e3⟩ := q3
  refine x_stk (st' := [.int ((tellV (factsL N Wt one nb seat size D) S lf jf (nI 0)))]) rfl ?_
  refine x_topi (y := nI ((tellN (factsL N Wt one nb seat size D) S lf jf))) (tellN_eq _ _ _ _) ?_
  refine x_istore dX1_lend_32 (by decide) rfl ?_
  refine x_lv (lv' := [some (.ref 16), some (.ref p), some (.int (nI one)), some (.int (nI nb)), some (.int (nI seat)), some (.int (nI size)), some (.int (nI ((D.getD (nb * 7 + one) 0)))), some (.int (nI ((tellN (factsL N Wt one nb seat size D) S lf jf)))), none]) rfl ?_
  refine x_aload_n dX1_lend_34 rfl ?_
  refine x_get (v := .ref (p + 1)) f_X1_48 (F3.at (by omega) (F2.at (by omega) g0)) rfl dX1_lend_35 ?_
  refine x_iload_n dX1_lend_38 rfl ?_
  refine x_iald (n := one) (F3.at (by omega) (F2.at (by omega) g1)) rfl (by simp only [List.length_map, List.length_set, *] <;> omega) dX1_lend_39 ?_
  refine x_topi (y := nI ((K.getD one 0))) gm_getD ?_
  refine x_aload_n dX1_lend_40 rfl ?_
  refine x_get (v := .ref (p + 2)) f_X1_30 (F3.at (by omega) (F2.at (by omega) g0)) rfl dX1_lend_41 ?_
  refine x_iload_n dX1_lend_44 rfl ?_
  refine x_iald (n := one) (F3.at (by omega) (F2.at (by omega) g2)) rfl (by simp only [List.length_map, List.length_set, *] <;> omega) dX1_lend_45 ?_
  refine x_topi (y := nI ((N.getD one 0))) gm_getD ?_
  refine x_iload dX1_lend_46 rfl ?_
  refine x_callS m_X0_lends l_X1_65 (c_lends (hK5 _) (hN9 _) (tellN_le _ _ _ _)) (by omega) rfl rfl (Nat.le_of_ble_eq_true rfl) ⟨Nat.le_refl _, Nat.le_refl _⟩ dX1_lend_48 (fun r4 s4 q4 => ?_)
  obtain ⟨rfl, e4⟩ := q4
  obtain rfl := e4.symm
  refine x_stk (st' := [.int (nI ((lendS (K.getD one 0) (N.getD one 0) (tellN (factsL N Wt one nb seat size D) S lf jf))))]) rfl ?_
  refine x_istore dX1_lend_51 (by decide) rfl ?_
  refine x_lv (lv' := [some (.ref 16), some (.ref p), some (.int (nI one)), some (.int (nI nb)), some (.int (nI seat)), some (.int (nI size)), some (.int (nI ((D.getD (nb * 7 + one) 0)))), some (.int (nI ((tellN (factsL N Wt one nb seat size D) S lf jf)))), some (.int (nI ((lendS (K.getD one 0) (N.getD one 0) (tellN (factsL N Wt one nb seat size D) S lf jf)))))]) rfl ?_
  refine x_aload_n dX1_lend_53 rfl ?_
  refine x_iload_n dX1_lend_54 rfl ?_
  refine x_iload_n dX1_lend_55 rfl ?_
  refine x_iload dX1_lend_56 rfl ?_
  refine x_iload dX1_lend_58 rfl ?_
  refine x_iaddN dX1_lend_60 ?_
  refine x_iload dX1_lend_61 rfl ?_
  refine x_sipush (v := nI 999) dX1_lend_63 (by decide) ?_
  refine x_callSN m_X7_bounded n_X1_57 (c_bounded (nI (((D.getD (nb * 7 + one) 0)) + ((lendS (K.getD one 0) (N.getD one 0) (tellN (factsL N Wt one nb seat size D) S lf jf))))) (nI ((D.getD (nb * 7 + one) 0))) (nI 999)) (by omega) rfl rfl (Nat.le_of_ble_eq_true rfl) ⟨Nat.le_refl _, Nat.le_refl _⟩ dX1_lend_66 (fun r5 s5 q5 => ?_)
  obtain ⟨rfl, e5⟩ := q5
  obtain rfl := e5.symm
  refine x_stk (st' := [.int ((bndI (nI (((D.getD (nb * 7 + one) 0)) + ((lendS (K.getD one 0) (N.getD one 0) (tellN (factsL N Wt one nb seat size D) S lf jf))))) (nI ((D.getD (nb * 7 + one) 0))) (nI 999))), .int (nI one), .int (nI nb), .ref p]) rfl ?_
  refine x_topi (y := nI ((min ((D.getD (nb * 7 + one) 0) + (lendS (K.getD one 0) (N.getD one 0) (tellN (factsL N Wt one nb seat size D) S lf jf))) 999))) (bnd_min2 (by omega) (by omega)) ?_
  have ldD_ok' := ldD_ok (S := S) (lf := lf) (jf := jf) (K := K) (N := N) (W := Wt) (one := one) (nb := nb) (seat := seat) (size := size) ⟨hD49, hD999⟩
  refine x_callV m_X2_setDebt l_X1_61 (c_setDebt ((h.fr F2 (by omega)).fr F3 (by omega)) (by omega) (by omega)) rfl (F3.at (by omega) (F2.at (by omega) g0)) (by omega) rfl rfl (Nat.le_of_ble_eq_true rfl) ⟨Nat.le_refl _, Nat.le_refl _⟩ dX1_lend_69 (fun r6 s6 q6 => ?_)
  obtain ⟨rfl, rfl⟩ := q6
  refine x_stk (st' := []) rfl ?_
  exact x_vret ⟨Nat.le_refl _, Nat.le_refl _⟩ rfl dX1_lend_72 ⟨rfl, ((h.fr F2 (by omega)).fr F3 (by omega)).setD ldD_ok'.1 ldD_ok'.2, ((hM.of F2 (by omega) ⟨Ks, F2.at (by omega) mk, hKs⟩ ⟨_, f2, rfl⟩).of F3 (by omega) ⟨K3, c3, e3⟩ ⟨_, F3.at (by omega) f2, rfl⟩).fr (Fr.rf.zs rfl : Fr (fun i => i = p + 4) s3 _) (by omega), (((Fr.rf.tr (F2.mono (fun i hi => by omega))).tr (F3.mono (fun i hi => by omega)))).tr (((Fr.rf.zs rfl : Fr (fun i => i = p + 4) s3 _)).mono (fun i hi => by omega))⟩
