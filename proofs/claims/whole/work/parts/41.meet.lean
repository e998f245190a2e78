theorem set_back {D : List Nat} {i j x y z w : Nat} (hi : i < D.length) (hj : j < D.length) : (((((D.set i x).set j y).set i z).set j w).set i (D.getD i 0)).set j (D.getD j 0) = D := by
  refine List.ext_getElem? (fun m => ?_)
  simp only [List.getElem?_set, List.length_set, List.getD_eq_getElem?_getD]
  by_cases h1 : j = m
  · subst h1
    rw [if_pos rfl, if_pos hj, List.getElem?_eq_getElem hj]; rfl
  · rw [if_neg h1]
    by_cases h2 : i = m
    · subst h2
      rw [if_pos rfl, if_pos hi, List.getElem?_eq_getElem hi]; rfl
    · simp only [if_neg h1, if_neg h2]
theorem mtD_back {S : List Nat} {lf jf : Nat} {K N : List Nat} {W : List Int32} {a sa b sb size : Nat} {D : List Nat} (h : D.length = 49) (ha : a < 7) (hb : b < 7) : ((mtD S lf jf K N W a sa b sb size D).set (a * 7 + b) (D.getD (a * 7 + b) 0)).set (b * 7 + a) (D.getD (b * 7 + a) 0) = D := by
  unfold mtD ldD fgD
  exact set_back (by omega) (by omega)
theorem Pa.cD {σ : ZS} {p : Nat} {ro di ru : Int32} {n : Nat} {K N : List Nat} {Wt : List Int32} {D D2 : List Nat} (e : D = D2) (h : Pa σ p ro di ru n K N Wt D) : Pa σ p ro di ru n K N Wt D2 := e ▸ h
/-- how glad two neighbours are; by how much less they owe each other behind their dinner -/
def jpI (S : List Nat) (jf : Nat) (K N : List Nat) (W : List Int32) (D : List Nat) (a sa b sb size : Nat) : Int32 := gdI S jf K N W D a b sa size + gdI S jf K N W D b a sb size
def clI (S : List Nat) (lf jf : Nat) (K N : List Nat) (W : List Int32) (D : List Nat) (a sa b sb size : Nat) : Int32 :=
  nI (D.getD (a * 7 + b) 0 + D.getD (b * 7 + a) 0) - nI ((mtD S lf jf K N W a sa b sb size D).getD (a * 7 + b) 0 + (mtD S lf jf K N W a sa b sb size D).getD (b * 7 + a) 0)
set_option maxHeartbeats 4000000 in
theorem c_meet {σ : ZS} {p : Nat} {ro di : Int32} {n : Nat} {K N : List Nat} {Wt : List Int32} {D : List Nat} {ru r s k : Nat} {S : List Nat} {lf jf : Nat} (h : Pa σ p ro di (nI ru) n K N Wt D) (hM : MaW σ ru r s k S lf jf) (hp : p = 1 ∨ p = 11) {a sa b sb size : Nat} (ha : a < 7) (hsa : sa < 100) (hb : b < 7) (hsb : sb < 100) (hz : size < 100) : Cn 3 M_X1_meet 0 0 [.ref 16, .ref p, .int (nI a), .int (nI sa), .int (nI b), .int (nI sb), .int (nI size)] σ (fun r9 σ' => r9 = none ∧ Pa σ' p ro di (nI ru) n K N Wt (mtD S lf jf K N Wt a sa b sb size D) ∧ MaW σ' ru r s k S lf jf ∧ Fr (fun i => i = 18 ∨ i = k ∨ i = p + 4) σ σ') := by
  obtain ⟨g0, g1, g2, g3, g4, hn7, hK7, hN7, hW7, hD49, hK5, hN9, hD999⟩ := id h
  obtain ⟨m0, ⟨rl, m1, hrl⟩, hRu, ⟨Ks, mk, hKs⟩, ⟨F0, mf0, hF0⟩, hloc, hrub⟩ := id hM
  have hkr := hRu.2.2.2.2.2.2.1
  have hks := hRu.2.2.2.2.2.2.2
  refine Cn.intro (lv0 := [some (.ref 16), some (.ref p), some (.int (nI a)), some (.int (nI sa)), some (.int (nI b)), some (.int (nI sb)), some (.int (nI size))]) rfl (Nat.le_of_ble_eq_true rfl) rfl (fun d hd => ?_)
  refine x_aload_n dX1_meet_0 rfl ?_
  refine x_aload_n dX1_meet_1 rfl ?_
  refine x_iload dX1_meet_2 rfl ?_
  refine x_iload_n dX1_meet_4 rfl ?_
  refine x_iload dX1_meet_5 rfl ?_
  refine x_iload dX1_meet_7 rfl ?_
  refine x_callV m_X1_forgive l_X1_68 (c_forgive h hM hp (by omega) (by omega) (by omega) (by omega)) rfl m0 (by omega) rfl rfl (Nat.le_of_ble_eq_true rfl) ⟨Nat.le_refl _, Nat.le_refl _⟩ dX1_meet_9 (fun r1 s1 q1 => ?_)
  obtain ⟨rfl, P1, M1, F1⟩ := q1
  refine x_stk (st' := []) rfl ?_
  refine x_aload_n dX1_meet_12 rfl ?_
  refine x_aload_n dX1_meet_13 rfl ?_
  refine x_iload_n dX1_meet_14 rfl ?_
  refine x_iload dX1_meet_15 rfl ?_
  refine x_iload_n dX1_meet_17 rfl ?_
  refine x_iload dX1_meet_18 rfl ?_
  refine x_callV m_X1_forgive l_X1_68 (c_forgive P1 M1 hp (by omega) (by omega) (by omega) (by omega)) rfl (F1.at (by omega) m0) (by omega) rfl rfl (Nat.le_of_ble_eq_true rfl) ⟨Nat.le_refl _, Nat.le_refl _⟩ dX1_meet_20 (fun r2 s2 q2 => ?_)
  obtain ⟨rfl, P2, M2, F2⟩ := q2
  refine x_stk (st' := []) rfl ?_
  refine x_aload_n dX1_meet_23 rfl ?_
  refine x_aload_n dX1_meet_24 rfl ?_
  refine x_iload dX1_meet_25 rfl ?_
  refine x_iload_n dX1_meet_27 rfl ?_
  refine x_iload dX1_meet_28 rfl ?_
  refine x_iload dX1_meet_30 rfl ?_
  refine x_callV m_X1_lend l_X1_72 (c_lend P2 M2 hp (by omega) (by omega) (by omega) (by omega)) rfl (F2.at (by omega) (F1.at (by omega) m0)) (by omega) rfl rfl (Nat.le_of_ble_eq_true rfl) ⟨Nat.le_refl _, Nat.le_refl _⟩ dX1_meet_32 (fun r3 s3 q3 => ?_)
  obtain ⟨rfl, P3, M3, F3⟩ := q3
  refine x_stk (st' := []) rfl ?_
  refine x_aload_n dX1_meet_35 rfl ?_
  refine x_aload_n dX1_meet_36 rfl ?_
  refine x_iload_n dX1_meet_37 rfl ?_
  refine x_iload dX1_meet_38 rfl ?_
  refine x_iload_n dX1_meet_40 rfl ?_
  refine x_iload dX1_meet_41 rfl ?_
  refine x_callV m_X1_lend l_X1_72 (c_lend P3 M3 hp (by omega) (by omega) (by omega) (by omega)) rfl (F3.at (by omega) (F2.at (by omega) (F1.at (by omega) m0))) (by omega) rfl rfl (Nat.le_of_ble_eq_true rfl) ⟨Nat.le_refl _, Nat.le_refl _⟩ dX1_meet_43 (fun r4 s4 q4 => ?_)
  obtain ⟨rfl, P4, M4, F4⟩ := q4
  refine x_stk (st' := []) rfl ?_
  exact x_vret ⟨Nat.le_refl _, Nat.le_refl _⟩ rfl dX1_meet_46 ⟨rfl, P4, M4, ((((Fr.rf.tr (F1.mono (fun i hi => by omega))).tr (F2.mono (fun i hi => by omega))).tr (F3.mono (fun i hi => by omega))).tr (F4.mono (fun i hi => by omega)))⟩
set_option maxHeartbeats 4000000 in
theorem c_gladOf {σ : ZS} {p : Nat} {ro di : Int32} {n : Nat} {K N : List Nat} {Wt : List Int32} {D : List Nat} {ru r s k : Nat} {S : List Nat} {lf jf : Nat} (h : Pa σ p ro di (nI ru) n K N Wt D) (hM : MaW σ ru r s k S lf jf) (hp : p = 1 ∨ p = 11) {one nb seat size : Nat} (h1 : one < 7) (h2 : nb < 7) (h3 : seat < 100) (h4 : size < 100) : Cn 2 M_X1_glad 0 0 [.ref 16, .ref p, .int (nI one), .int (nI nb), .int (nI seat), .int (nI size)] σ (fun r9 σ' => r9 = some (.int (gdI S jf K N Wt D one nb seat size)) ∧ MaW σ' ru r s k S lf jf ∧ Fr (fun i => i = 18 ∨ i = k) σ σ') := by
  obtain ⟨g0, g1, g2, g3, g4, hn7, hK7, hN7, hW7, hD49, hK5, hN9, hD999⟩ := id h
  obtain ⟨m0, ⟨rl, m1, hrl⟩, hRu, ⟨Ks, mk, hKs⟩, ⟨F0, mf0, hF0⟩, hloc, hrub⟩ := id hM
  have hkr := hRu.2.2.2.2.2.2.1
  have hks := hRu.2.2.2.2.2.2.2
  refine Cn.intro (lv0 := [some (.ref 16), some (.ref p), some (.int (nI one)), some (.int (nI nb)), some (.int (nI seat)), some (.int (nI size)), none]) rfl (Nat.le_of_ble_eq_true rfl) rfl (fun d hd => ?_)
  refine x_aload_n dX1_glad_0 rfl ?_
  refine x_get (v := .ref 17) f_X1_11 m0 rfl dX1_glad_1 ?_
  refine x_aload_n dX1_glad_4 rfl ?_
  refine x_get (v := .int (nI ru)) f_X1_36 g0 rfl dX1_glad_5 ?_
  refine x_aald (Or.inl rfl) m1 rfl hrl dX1_glad_8 ?_
  refine x_iconst (v := nI 2) dX1_glad_9 (by decide) ?_
  refine x_aload_n dX1_glad_10 rfl ?_
  refine x_aload_n dX1_glad_11 rfl ?_
  refine x_iload_n dX1_glad_12 rfl ?_
  refine x_iload_n dX1_glad_13 rfl ?_
  refine x_iload dX1_glad_14 rfl ?_
  refine x_iload dX1_glad_16 rfl ?_
  refine x_callV m_X1_factsOf l_X1_40 (c_factsOf h hM hp h1 h2 h3 h4) rfl m0 (by omega) rfl rfl (Nat.le_of_ble_eq_true rfl) ⟨Nat.le_refl _, Nat.le_refl _⟩ dX1_glad_18 (fun r1 s1 q1 => ?_)
  obtain ⟨rfl, f1, F1⟩ := q1
  refine x_stk (st' := [.ref 18, .int (nI 2), .ref r]) rfl ?_
  refine x_callV m_X4_tell l_X1_44 (c_tell2 (hM.of F1 (by omega) ⟨Ks, F1.at (by omega) mk, hKs⟩ ⟨_, f1, rfl⟩).2.2.1 (F1.at (by omega) mk) hKs f1 rfl (by omega)) rfl (F1.at (by omega) hM.2.2.1.1) (by omega) rfl rfl (Nat.le_of_ble_eq_true rfl) ⟨Nat.le_refl _, Nat.le_refl _⟩ dX1_glad_21 (fun r2 s2 q2 => ?_)
  obtain ⟨rfl, F2, K2, c2, e2⟩ := q2
  refine x_stk (st' := [.int ((tellV (factsL N Wt one nb seat size D) S jf S.length (-99)))]) rfl ?_
  refine x_istore dX1_glad_24 (by decide) rfl ?_
  refine x_lv (lv' := [some (.ref 16), some (.ref p), some (.int (nI one)), some (.int (nI nb)), some (.int (nI seat)), some (.int (nI size)), some (.int ((tellV (factsL N Wt one nb seat size D) S jf S.length (-99))))]) rfl ?_
  refine x_aload_n dX1_glad_26 rfl ?_
  refine x_get (v := .ref (p + 1)) f_X1_48 (F2.at (by omega) (F1.at (by omega) g0)) rfl dX1_glad_27 ?_
  refine x_iload_n dX1_glad_30 rfl ?_
  refine x_iald (n := one) (F2.at (by omega) (F1.at (by omega) g1)) rfl (by simp only [List.length_map, List.length_set, *] <;> omega) dX1_glad_31 ?_
  refine x_topi (y := nI ((K.getD one 0))) gm_getD ?_
  refine x_aload_n dX1_glad_32 rfl ?_
  refine x_get (v := .ref (p + 2)) f_X1_30 (F2.at (by omega) (F1.at (by omega) g0)) rfl dX1_glad_33 ?_
  refine x_iload_n dX1_glad_36 rfl ?_
  refine x_iald (n := one) (F2.at (by omega) (F1.at (by omega) g2)) rfl (by simp only [List.length_map, List.length_set, *] <;> omega) dX1_glad_37 ?_
  refine x_topi (y := nI ((N.getD one 0))) gm_getD ?_
  refine x_iload dX1_glad_38 rfl ?_
  refine x_aload_n dX1_glad_40 rfl ?_
  refine x_get (v := .ref (p + 3)) f_X1_33 (F2.at (by omega) (F1.at (by omega) g0)) rfl dX1_glad_41 ?_
  refine x_iload_n dX1_glad_44 rfl ?_
  refine x_iald (n := one) (F2.at (by omega) (F1.at (by omega) g3)) rfl (by simp only [List.length_map, List.length_set, *] <;> omega) dX1_glad_45 ?_
  refine x_iload_n dX1_glad_46 rfl ?_
  refine x_icmp_ne (tgt := 54) dX1_glad_47 (by decide) (fun h3 => ?_) (fun h3 => ?_)
  · refine x_iconst (v := nI 0) dX1_glad_54 (by decide) ?_
    refine x_topi (y := bI (decide (Wt.getD one 0 = nI nb))) (by rw [bI_if, if_neg h3]) ?_
    refine x_callS m_X0_glad l_X1_75 (c_glad (hK5 _)) (by omega) rfl rfl (Nat.le_of_ble_eq_true rfl) ⟨Nat.le_refl _, Nat.le_refl _⟩ dX1_glad_55 (fun r4 s4 q4 => ?_)
    obtain ⟨rfl, e4⟩ := q4
    obtain rfl := e4.symm
    refine x_stk (st' := [.int ((gdI S jf K N Wt D one nb seat size))]) rfl ?_
    exact x_iret ⟨Nat.le_refl _, Nat.le_refl _⟩ rfl dX1_glad_58 ⟨rfl, ((hM.of F1 (by omega) ⟨Ks, F1.at (by omega) mk, hKs⟩ ⟨_, f1, rfl⟩).of F2 (by omega) ⟨K2, c2, e2⟩ ⟨_, F2.at (by omega) f1, rfl⟩), ((Fr.rf.tr (F1.mono (fun i hi => by omega))).tr (F2.mono (fun i hi => by omega)))⟩
  · refine x_iconst (v := nI 1) dX1_glad_50 (by decide) ?_
    refine x_goto (tgt := 55) dX1_glad_51 (by decide) ?_
    refine x_topi (y := bI (decide (Wt.getD one 0 = nI nb))) (by rw [bI_if, if_pos h3]) ?_
    refine x_callS m_X0_glad l_X1_75 (c_glad (hK5 _)) (by omega) rfl rfl (Nat.le_of_ble_eq_true rfl) ⟨Nat.le_refl _, Nat.le_refl _⟩ dX1_glad_55 (fun r5 s5 q5 => ?_)
    obtain ⟨rfl, e5⟩ := q5
    obtain rfl := e5.symm
    refine x_stk (st' := [.int ((gdI S jf K N Wt D one nb seat size))]) rfl ?_
    exact x_iret ⟨Nat.le_refl _, Nat.le_refl _⟩ rfl dX1_glad_58 ⟨rfl, ((hM.of F1 (by omega) ⟨Ks, F1.at (by omega) mk, hKs⟩ ⟨_, f1, rfl⟩).of F2 (by omega) ⟨K2, c2, e2⟩ ⟨_, F2.at (by omega) f1, rfl⟩), ((Fr.rf.tr (F1.mono (fun i hi => by omega))).tr (F2.mono (fun i hi => by omega)))⟩
set_option maxHeartbeats 4000000 in
theorem c_joyOfPair {σ : ZS} {p : Nat} {ro di : Int32} {n : Nat} {K N : List Nat} {Wt : List Int32} {D : List Nat} {ru r s k : Nat} {S : List Nat} {lf jf : Nat} (h : Pa σ p ro di (nI ru) n K N Wt D) (hM : MaW σ ru r s k S lf jf) (hp : p = 1 ∨ p = 11) {a sa b sb size : Nat} (ha : a < 7) (hsa : sa < 100) (hb : b < 7) (hsb : sb < 100) (hz : size < 100) : Cn 3 M_X1_joyOfPair 0 0 [.ref 16, .ref p, .int (nI a), .int (nI sa), .int (nI b), .int (nI sb), .int (nI size)] σ (fun r9 σ' => r9 = some (.int (jpI S jf K N Wt D a sa b sb size)) ∧ MaW σ' ru r s k S lf jf ∧ Fr (fun i => i = 18 ∨ i = k) σ σ') := by
  obtain ⟨g0, g1, g2, g3, g4, hn7, hK7, hN7, hW7, hD49, hK5, hN9, hD999⟩ := id h
  obtain ⟨m0, ⟨rl, m1, hrl⟩, hRu, ⟨Ks, mk, hKs⟩, ⟨F0, mf0, hF0⟩, hloc, hrub⟩ := id hM
  have hkr := hRu.2.2.2.2.2.2.1
  have hks := hRu.2.2.2.2.2.2.2
  refine Cn.intro (lv0 := [some (.ref 16), some (.ref p), some (.int (nI a)), some (.int (nI sa)), some (.int (nI b)), some (.int (nI sb)), some (.int (nI size))]) rfl (Nat.le_of_ble_eq_true rfl) rfl (fun d hd => ?_)
  refine x_aload_n dX1_joyOfPair_0 rfl ?_
  refine x_aload_n dX1_joyOfPair_1 rfl ?_
  refine x_iload_n dX1_joyOfPair_2 rfl ?_
  refine x_iload dX1_joyOfPair_3 rfl ?_
  refine x_iload_n dX1_joyOfPair_5 rfl ?_
  refine x_iload dX1_joyOfPair_6 rfl ?_
  refine x_callV m_X1_glad l_X1_79 (c_gladOf h hM hp (by omega) (by omega) (by omega) (by omega)) rfl m0 (by omega) rfl rfl (Nat.le_of_ble_eq_true rfl) ⟨Nat.le_refl _, Nat.le_refl _⟩ dX1_joyOfPair_8 (fun r1 s1 q1 => ?_)
  obtain ⟨rfl, M1, F1⟩ := q1
  refine x_stk (st' := [.int ((gdI S jf K N Wt D a b sa size))]) rfl ?_
  refine x_aload_n dX1_joyOfPair_11 rfl ?_
  refine x_aload_n dX1_joyOfPair_12 rfl ?_
  refine x_iload dX1_joyOfPair_13 rfl ?_
  refine x_iload_n dX1_joyOfPair_15 rfl ?_
  refine x_iload dX1_joyOfPair_16 rfl ?_
  refine x_iload dX1_joyOfPair_18 rfl ?_
  refine x_callV m_X1_glad l_X1_79 (c_gladOf (h.fr F1 (by omega)) M1 hp (by omega) (by omega) (by omega) (by omega)) rfl (F1.at (by omega) m0) (by omega) rfl rfl (Nat.le_of_ble_eq_true rfl) ⟨Nat.le_refl _, Nat.le_refl _⟩ dX1_joyOfPair_20 (fun r2 s2 q2 => ?_)
  obtain ⟨rfl, M2, F2⟩ := q2
  refine x_stk (st' := [.int ((gdI S jf K N Wt D b a sb size)), .int ((gdI S jf K N Wt D a b sa size))]) rfl ?_
  refine x_iadd dX1_joyOfPair_23 ?_
  exact x_iret ⟨Nat.le_refl _, Nat.le_refl _⟩ rfl dX1_joyOfPair_24 ⟨rfl, M2, ((Fr.rf.tr (F1.mono (fun i hi => by omega))).tr (F2.mono (fun i hi => by omega)))⟩
set_option maxHeartbeats 4000000 in
theorem c_clearedByPair {σ : ZS} {p : Nat} {ro di : Int32} {n : Nat} {K N : List Nat} {Wt : List Int32} {D : List Nat} {ru r s k : Nat} {S : List Nat} {lf jf : Nat} (h : Pa σ p ro di (nI ru) n K N Wt D) (hM : MaW σ ru r s k S lf jf) (hp : p = 1 ∨ p = 11) {a sa b sb size : Nat} (ha : a < 7) (hsa : sa < 100) (hb : b < 7) (hsb : sb < 100) (hz : size < 100) : Cn 4 M_X1_clearedByPair 0 0 [.ref 16, .ref p, .int (nI a), .int (nI sa), .int (nI b), .int (nI sb), .int (nI size)] σ (fun r9 σ' => r9 = some (.int (clI S lf jf K N Wt D a sa b sb size)) ∧ Pa σ' p ro di (nI ru) n K N Wt D ∧ MaW σ' ru r s k S lf jf ∧ Fr (fun i => i = 18 ∨ i = k ∨ i = p + 4) σ σ') := by
  obtain ⟨g0, g1, g2, g3, g4, hn7, hK7, hN7, hW7, hD49, hK5, hN9, hD999⟩ := id h
  obtain ⟨m0, ⟨rl, m1, hrl⟩, hRu, ⟨Ks, mk, hKs⟩, ⟨F0, mf0, hF0⟩, hloc, hrub⟩ := id hM
  have hkr := hRu.2.2.2.2.2.2.1
  have hks := hRu.2.2.2.2.2.2.2
  refine Cn.intro (lv0 := [some (.ref 16), some (.ref p), some (.int (nI a)), some (.int (nI sa)), some (.int (nI b)), some (.int (nI sb)), some (.int (nI size)), none, none, none]) rfl (Nat.le_of_ble_eq_true rfl) rfl (fun d hd => ?_)
  refine x_aload_n dX1_clearedByPair_0 rfl ?_
  refine x_iload_n dX1_clearedByPair_1 rfl ?_
  refine x_iload dX1_clearedByPair_2 rfl ?_
  refine x_callV m_X2_debt l_X1_24 (c_debt h (by omega) (by omega)) rfl g0 (by omega) rfl rfl (Nat.le_of_ble_eq_true rfl) ⟨Nat.le_refl _, Nat.le_refl _⟩ dX1_clearedByPair_4 (fun r1 s1 q1 => ?_)
  obtain ⟨rfl, e1⟩ := q1
  obtain rfl := e1.symm
  refine x_stk (st' := [.int (nI ((D.getD (a * 7 + b) 0)))]) rfl ?_
  refine x_istore dX1_clearedByPair_7 (by decide) rfl ?_
  refine x_lv (lv' := [some (.ref 16), some (.ref p), some (.int (nI a)), some (.int (nI sa)), some (.int (nI b)), some (.int (nI sb)), some (.int (nI size)), some (.int (nI ((D.getD (a * 7 + b) 0)))), none, none]) rfl ?_
  refine x_aload_n dX1_clearedByPair_9 rfl ?_
  refine x_iload dX1_clearedByPair_10 rfl ?_
  refine x_iload_n dX1_clearedByPair_12 rfl ?_
  refine x_callV m_X2_debt l_X1_24 (c_debt h (by omega) (by omega)) rfl g0 (by omega) rfl rfl (Nat.le_of_ble_eq_true rfl) ⟨Nat.le_refl _, Nat.le_refl _⟩ dX1_clearedByPair_13 (fun r2 s2 q2 => ?_)
  obtain ⟨rfl, e2⟩ := q2
  obtain rfl := e2.symm
  refine x_stk (st' := [.int (nI ((D.getD (b * 7 + a) 0)))]) rfl ?_
  refine x_istore dX1_clearedByPair_16 (by decide) rfl ?_
  refine x_lv (lv' := [some (.ref 16), some (.ref p), some (.int (nI a)), some (.int (nI sa)), some (.int (nI b)), some (.int (nI sb)), some (.int (nI size)), some (.int (nI ((D.getD (a * 7 + b) 0)))), some (.int (nI ((D.getD (b * 7 + a) 0)))), none]) rfl ?_
  refine x_aload_n dX1_clearedByPair_18 rfl ?_
  refine x_aload_n dX1_clearedByPair_19 rfl ?_
  refine x_iload_n dX1_clearedByPair_20 rfl ?_
  refine x_iload_n dX1_clearedByPair_21 rfl ?_
  refine x_iload dX1_clearedByPair_22 rfl ?_
  refine x_iload dX1_clearedByPair_24 rfl ?_
  refine x_iload dX1_clearedByPair_26 rfl ?_
  refine x_callV m_X1_meet l_X1_82 (c_meet h hM hp ha hsa hb hsb hz) rfl m0 (by omega) rfl rfl (Nat.le_of_ble_eq_true rfl) ⟨Nat.le_refl _, Nat.le_refl _⟩ dX1_clearedByPair_28 (fun r3 s3 q3 => ?_)
  obtain ⟨rfl, P3, M3, F3⟩ := q3
  refine x_stk (st' := []) rfl ?_
  refine x_aload_n dX1_clearedByPair_31 rfl ?_
  refine x_iload_n dX1_clearedByPair_32 rfl ?_
  refine x_iload dX1_clearedByPair_33 rfl ?_
  refine x_callV m_X2_debt l_X1_24 (c_debt P3 (by omega) (by omega)) rfl (F3.at (by omega) g0) (by omega) rfl rfl (Nat.le_of_ble_eq_true rfl) ⟨Nat.le_refl _, Nat.le_refl _⟩ dX1_clearedByPair_35 (fun r4 s4 q4 => ?_)
  obtain ⟨rfl, e4⟩ := q4
  obtain rfl := e4.symm
  refine x_stk (st' := [.int (nI (((mtD S lf jf K N Wt a sa b sb size D).getD (a * 7 + b) 0)))]) rfl ?_
  refine x_aload_n dX1_clearedByPair_38 rfl ?_
  refine x_iload dX1_clearedByPair_39 rfl ?_
  refine x_iload_n dX1_clearedByPair_41 rfl ?_
  refine x_callV m_X2_debt l_X1_24 (c_debt P3 (by omega) (by omega)) rfl (F3.at (by omega) g0) (by omega) rfl rfl (Nat.le_of_ble_eq_true rfl) ⟨Nat.le_refl _, Nat.le_refl _⟩ dX1_clearedByPair_42 (fun r5 s5 q5 => ?_)
  obtain ⟨rfl, e5⟩ := q5
  obtain rfl := e5.symm
  refine x_stk (st' := [.int (nI (((mtD S lf jf K N Wt a sa b sb size D).getD (b * 7 + a) 0))), .int (nI (((mtD S lf jf K N Wt a sa b sb size D).getD (a * 7 + b) 0)))]) rfl ?_
  refine x_iaddN dX1_clearedByPair_45 ?_
  refine x_istore dX1_clearedByPair_46 (by decide) rfl ?_
  refine x_lv (lv' := [some (.ref 16), some (.ref p), some (.int (nI a)), some (.int (nI sa)), some (.int (nI b)), some (.int (nI sb)), some (.int (nI size)), some (.int (nI ((D.getD (a * 7 + b) 0)))), some (.int (nI ((D.getD (b * 7 + a) 0)))), some (.int (nI ((((mtD S lf jf K N Wt a sa b sb size D).getD (a * 7 + b) 0)) + (((mtD S lf jf K N Wt a sa b sb size D).getD (b * 7 + a) 0)))))]) rfl ?_
  refine x_aload_n dX1_clearedByPair_48 rfl ?_
  refine x_iload_n dX1_clearedByPair_49 rfl ?_
  refine x_iload dX1_clearedByPair_50 rfl ?_
  refine x_iload dX1_clearedByPair_52 rfl ?_
  refine x_callV m_X2_setDebt l_X1_61 (c_setDebt P3 (by omega) (by omega)) rfl (F3.at (by omega) g0) (by omega) rfl rfl (Nat.le_of_ble_eq_true rfl) ⟨Nat.le_refl _, Nat.le_refl _⟩ dX1_clearedByPair_54 (fun r6 s6 q6 => ?_)
  obtain ⟨rfl, rfl⟩ := q6
  refine x_stk (st' := []) rfl ?_
  refine x_aload_n dX1_clearedByPair_57 rfl ?_
  refine x_iload dX1_clearedByPair_58 rfl ?_
  refine x_iload_n dX1_clearedByPair_60 rfl ?_
  refine x_iload dX1_clearedByPair_61 rfl ?_
  refine x_callV m_X2_setDebt l_X1_61 (c_setDebt (P3.setD (D' := ((mtD S lf jf K N Wt a sa b sb size D).set (a * 7 + b) ((D.getD (a * 7 + b) 0)))) (by rw [List.length_set]; exact P3.2.2.2.2.2.2.2.2.2.1) (getD_set_le P3.2.2.2.2.2.2.2.2.2.2.2.2 (hD999 _))) (by omega) (by omega)) rfl ((Fr.rf.zs rfl : Fr (fun i => i = p + 4) s3 (zs s3 (p + 4) (.inl (0, ((mtD S lf jf K N Wt a sa b sb size D).set (a * 7 + b) ((D.getD (a * 7 + b) 0))).map nI)))).at (by omega) (F3.at (by omega) g0)) (by omega) rfl rfl (Nat.le_of_ble_eq_true rfl) ⟨Nat.le_refl _, Nat.le_refl _⟩ dX1_clearedByPair_63 (fun r7 s7 q7 => ?_)
  obtain ⟨rfl, rfl⟩ := q7
  refine x_stk (st' := []) rfl ?_
  refine x_iload dX1_clearedByPair_66 rfl ?_
  refine x_iload dX1_clearedByPair_68 rfl ?_
  refine x_iaddN dX1_clearedByPair_70 ?_
  refine x_iload dX1_clearedByPair_71 rfl ?_
  refine x_isub dX1_clearedByPair_73 ?_
  exact x_iret ⟨Nat.le_refl _, Nat.le_refl _⟩ rfl dX1_clearedByPair_74 ⟨rfl, Pa.cD (mtD_back hD49 ha hb) ((P3.setD (D' := ((mtD S lf jf K N Wt a sa b sb size D).set (a * 7 + b) ((D.getD (a * 7 + b) 0)))) (by rw [List.length_set]; exact P3.2.2.2.2.2.2.2.2.2.1) (getD_set_le P3.2.2.2.2.2.2.2.2.2.2.2.2 (hD999 _))).setD (D' := (((mtD S lf jf K N Wt a sa b sb size D).set (a * 7 + b) ((D.getD (a * 7 + b) 0))).set (b * 7 + a) ((D.getD (b * 7 + a) 0)))) (by rw [List.length_set]; exact (P3.setD (D' := ((mtD S lf jf K N Wt a sa b sb size D).set (a * 7 + b) ((D.getD (a * 7 + b) 0)))) (by rw [List.length_set]; exact P3.2.2.2.2.2.2.2.2.2.1) (getD_set_le P3.2.2.2.2.2.2.2.2.2.2.2.2 (hD999 _))).2.2.2.2.2.2.2.2.2.1) (getD_set_le (P3.setD (D' := ((mtD S lf jf K N Wt a sa b sb size D).set (a * 7 + b) ((D.getD (a * 7 + b) 0)))) (by rw [List.length_set]; exact P3.2.2.2.2.2.2.2.2.2.1) (getD_set_le P3.2.2.2.2.2.2.2.2.2.2.2.2 (hD999 _))).2.2.2.2.2.2.2.2.2.2.2.2 (hD999 _))), ((M3.fr (Fr.rf.zs rfl : Fr (fun i => i = p + 4) s3 (zs s3 (p + 4) (.inl (0, ((mtD S lf jf K N Wt a sa b sb size D).set (a * 7 + b) ((D.getD (a * 7 + b) 0))).map nI)))) (by omega)).fr (Fr.rf.zs rfl : Fr (fun i => i = p + 4) (zs s3 (p + 4) (.inl (0, ((mtD S lf jf K N Wt a sa b sb size D).set (a * 7 + b) ((D.getD (a * 7 + b) 0))).map nI))) (zs (zs s3 (p + 4) (.inl (0, ((mtD S lf jf K N Wt a sa b sb size D).set (a * 7 + b) ((D.getD (a * 7 + b) 0))).map nI))) (p + 4) (.inl (0, (((mtD S lf jf K N Wt a sa b sb size D).set (a * 7 + b) ((D.getD (a * 7 + b) 0))).set (b * 7 + a) ((D.getD (b * 7 + a) 0))).map nI)))) (by omega)), (((Fr.rf.tr (F3.mono (fun i hi => by omega))).tr ((Fr.rf.zs rfl : Fr (fun i => i = p + 4) s3 (zs s3 (p + 4) (.inl (0, ((mtD S lf jf K N Wt a sa b sb size D).set (a * 7 + b) ((D.getD (a * 7 + b) 0))).map nI)))).mono (fun i hi => by omega))).tr ((Fr.rf.zs rfl : Fr (fun i => i = p + 4) (zs s3 (p + 4) (.inl (0, ((mtD S lf jf K N Wt a sa b sb size D).set (a * 7 + b) ((D.getD (a * 7 + b) 0))).map nI))) (zs (zs s3 (p + 4) (.inl (0, ((mtD S lf jf K N Wt a sa b sb size D).set (a * 7 + b) ((D.getD (a * 7 + b) 0))).map nI))) (p + 4) (.inl (0, (((mtD S lf jf K N Wt a sa b sb size D).set (a * 7 + b) ((D.getD (a * 7 + b) 0))).set (b * 7 + a) ((D.getD (b * 7 + a) 0))).map nI)))).mono (fun i hi => by omega)))⟩
