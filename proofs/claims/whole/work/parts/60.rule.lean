set_option maxHeartbeats 4000000 in
theorem c_ruleInit0 {σ : ZS} {r s c : Nat} {A : List Int32} {lf jf : Int32} (hLn : Ln σ c 0 0) (hc : c < 40) (g0 : zg σ r = some (.inr (.inr (3, [.null, .int 0, .int 0, .null])))) (g1 : zg σ s = some (.inl (0, A))) (hA : A.length ≤ 200) (hrs : r ≠ s) (hr : r ≠ c) (hs : s ≠ c) : Cn 1 M_X4_init 1 200 [.ref r, .ref s, .int lf, .int jf] σ (fun r9 σ' => r9 = none ∧ zg σ' r = some (.inr (.inr (3, [.ref s, .int lf, .int jf, .ref c]))) ∧ zg σ' c = some (.inl (0, List.replicate A.length 0)) ∧ Ln σ' (c + 1) 0 0 ∧ Fr (fun i => i = r ∨ i = c) σ σ') := by
  refine Cn.intro (lv0 := [some (.ref r), some (.ref s), some (.int lf), some (.int jf)]) rfl (Nat.le_of_ble_eq_true rfl) rfl (fun d hd => ?_)
  refine x_aload_n dX4_init_0 rfl ?_
  refine x_objInit l_X4_1 w_oi w_oc (by omega) (Nat.le_of_ble_eq_true rfl) dX4_init_1 ?_
  refine x_aload_n dX4_init_4 rfl ?_
  refine x_aload_n dX4_init_5 rfl ?_
  refine x_putFG f_X4_7 rfl g0 (Nat.le_of_ble_eq_true rfl) (fun c => ⟨rfl, rfl⟩) dX4_init_6 (fun sw1 gw1 Fw1 Lw1 => ?_)
  refine x_aload_n dX4_init_9 rfl ?_
  refine x_iload_n dX4_init_10 rfl ?_
  refine x_putFG f_X4_13 rfl gw1 (Nat.le_of_ble_eq_true rfl) (fun c => ⟨rfl, rfl⟩) dX4_init_11 (fun sw2 gw2 Fw2 Lw2 => ?_)
  refine x_aload_n dX4_init_14 rfl ?_
  refine x_iload_n dX4_init_15 rfl ?_
  refine x_putFG f_X4_17 rfl gw2 (Nat.le_of_ble_eq_true rfl) (fun c => ⟨rfl, rfl⟩) dX4_init_16 (fun sw3 gw3 Fw3 Lw3 => ?_)
  refine x_aload_n dX4_init_19 rfl ?_
  refine x_aload_n dX4_init_20 rfl ?_
  refine x_alen (by decide) (Fw3.at (by omega) (Fw2.at (by omega) (Fw1.at (by omega) g1))) dX4_init_21 ?_
  refine x_newIG (n := A.length) (kr := 0) (r := c) w_ai rfl (by omega) ((Lw3 _ _ _ (Lw2 _ _ _ (Lw1 _ _ _ hLn))).zq0 (by omega)) (Lw3 _ _ _ (Lw2 _ _ _ (Lw1 _ _ _ hLn))).zn0 (by omega) (by omega) dX4_init_22 (fun sw4 Gz4 => ?_)
  refine x_putFG f_X4_20 rfl (Gz4.2.1.at (by omega) gw3) (Nat.le_of_ble_eq_true rfl) (fun c => ⟨rfl, rfl⟩) dX4_init_24 (fun sw5 gw5 Fw5 Lw5 => ?_)
  exact x_vret ⟨by omega, by first | omega | (simp only [List.length_cons, List.length_nil]; omega)⟩ rfl dX4_init_27 ⟨rfl, gw5, (Fw5.at (by omega) Gz4.1), (Lw5 _ _ _ (Gz4.2.2.1 _ rfl (Lw3 _ _ _ (Lw2 _ _ _ (Lw1 _ _ _ hLn))))), (((((Fr.rf.tr (Fw1.mono (fun i hi => by omega))).tr (Fw2.mono (fun i hi => by omega))).tr (Fw3.mono (fun i hi => by omega))).tr (Gz4.2.1.mono (fun i hi => by omega))).tr (Fw5.mono (fun i hi => by omega)))⟩
set_option maxHeartbeats 4000000 in
theorem c_ruleInit2 {σ : ZS} {r s c : Nat} {A : List Int32} {lf jf : Int32} (hLn : Ln σ 40 18 c) (hc : c < 1000) (g0 : zg σ r = some (.inr (.inr (3, [.null, .int 0, .int 0, .null])))) (g1 : zg σ s = some (.inl (0, A))) (hA : A.length ≤ 200) (hrs : r ≠ s) (hr : r ≠ (2000 + c)) (hs : s ≠ (2000 + c)) : Cn 1 M_X4_init 1 200 [.ref r, .ref s, .int lf, .int jf] σ (fun r9 σ' => r9 = none ∧ zg σ' r = some (.inr (.inr (3, [.ref s, .int lf, .int jf, .ref (2000 + c)]))) ∧ zg σ' (2000 + c) = some (.inl (0, List.replicate A.length 0)) ∧ Ln σ' 40 18 (c + 1) ∧ Fr (fun i => i = r ∨ i = (2000 + c)) σ σ') := by
  refine Cn.intro (lv0 := [some (.ref r), some (.ref s), some (.int lf), some (.int jf)]) rfl (Nat.le_of_ble_eq_true rfl) rfl (fun d hd => ?_)
  refine x_aload_n dX4_init_0 rfl ?_
  refine x_objInit l_X4_1 w_oi w_oc (by omega) (Nat.le_of_ble_eq_true rfl) dX4_init_1 ?_
  refine x_aload_n dX4_init_4 rfl ?_
  refine x_aload_n dX4_init_5 rfl ?_
  refine x_putFG f_X4_7 rfl g0 (Nat.le_of_ble_eq_true rfl) (fun c => ⟨rfl, rfl⟩) dX4_init_6 (fun sw1 gw1 Fw1 Lw1 => ?_)
  refine x_aload_n dX4_init_9 rfl ?_
  refine x_iload_n dX4_init_10 rfl ?_
  refine x_putFG f_X4_13 rfl gw1 (Nat.le_of_ble_eq_true rfl) (fun c => ⟨rfl, rfl⟩) dX4_init_11 (fun sw2 gw2 Fw2 Lw2 => ?_)
  refine x_aload_n dX4_init_14 rfl ?_
  refine x_iload_n dX4_init_15 rfl ?_
  refine x_putFG f_X4_17 rfl gw2 (Nat.le_of_ble_eq_true rfl) (fun c => ⟨rfl, rfl⟩) dX4_init_16 (fun sw3 gw3 Fw3 Lw3 => ?_)
  refine x_aload_n dX4_init_19 rfl ?_
  refine x_aload_n dX4_init_20 rfl ?_
  refine x_alen (by decide) (Fw3.at (by omega) (Fw2.at (by omega) (Fw1.at (by omega) g1))) dX4_init_21 ?_
  refine x_newIG (n := A.length) (kr := 2) (r := (2000 + c)) w_ai rfl (by omega) ((Lw3 _ _ _ (Lw2 _ _ _ (Lw1 _ _ _ hLn))).zq2 (by omega)) (Lw3 _ _ _ (Lw2 _ _ _ (Lw1 _ _ _ hLn))).zn2 (by omega) (by omega) dX4_init_22 (fun sw4 Gz4 => ?_)
  refine x_putFG f_X4_20 rfl (Gz4.2.1.at (by omega) gw3) (Nat.le_of_ble_eq_true rfl) (fun c => ⟨rfl, rfl⟩) dX4_init_24 (fun sw5 gw5 Fw5 Lw5 => ?_)
  exact x_vret ⟨by omega, by first | omega | (simp only [List.length_cons, List.length_nil]; omega)⟩ rfl dX4_init_27 ⟨rfl, gw5, (Fw5.at (by omega) Gz4.1), (Lw5 _ _ _ (Gz4.2.2.2.2 _ rfl (Lw3 _ _ _ (Lw2 _ _ _ (Lw1 _ _ _ hLn))))), (((((Fr.rf.tr (Fw1.mono (fun i hi => by omega))).tr (Fw2.mono (fun i hi => by omega))).tr (Fw3.mono (fun i hi => by omega))).tr (Gz4.2.1.mono (fun i hi => by omega))).tr (Fw5.mono (fun i hi => by omega)))⟩
theorem cpy_take {St : List Int32} {S : List Nat} (hl : S.length ≤ St.length) (h : ∀ i, i < S.length → St.getD i 0 = nI (S.getD i 0)) : zcpy St (List.replicate S.length 0) 0 0 S.length = S.map nI := by
  refine List.ext_getElem? (fun j => ?_)
  rw [zcpy, List.getElem?_map, List.length_replicate]
  by_cases hj : j < S.length
  · rw [List.getElem?_range hj, Option.map_some, if_pos ⟨by omega, by omega⟩, Nat.zero_add, Nat.sub_zero, h j hj, List.getElem?_map, List.getD_eq_getElem?_getD, List.getElem?_eq_getElem hj]
    rfl
  · rw [List.getElem?_eq_none (by simp; omega), List.getElem?_eq_none (by simp; omega)]
    rfl
set_option maxHeartbeats 4000000 in
theorem c_copyOf {σ : ZS} {c : Nat} {St : List Int32} {S : List Nat} (hLn : Ln σ 40 18 c) (hc : c < 1000) (g0 : zg σ 30 = some (.inl (0, St))) (hl : St.length = 160) (hS6 : S.length < 160) (hS : ∀ i, i < S.length → St.getD i 0 = nI (S.getD i 0)) : Cn 1 M_J7_copyOf_59c91 1 160 [.ref 30, .int (nI S.length)] σ (fun r9 σ' => r9 = some (.ref (2000 + c)) ∧ zg σ' (2000 + c) = some (.inl (0, S.map nI)) ∧ Ln σ' 40 18 (c + 1) ∧ Fr (fun i => i = 2000 + c) σ σ') := by
  refine Cn.intro (lv0 := [some (.ref 30), some (.int (nI S.length)), none]) rfl (Nat.le_of_ble_eq_true rfl) rfl (fun d hd => ?_)
  refine x_iload_n dJ7_copyOf_59c91_0 rfl ?_
  refine x_aload_n dJ7_copyOf_59c91_1 rfl ?_
  refine x_alen (by decide) g0 dJ7_copyOf_59c91_2 ?_
  refine x_icmpN_ne (tgt := 14) dJ7_copyOf_59c91_3 (by decide) (by omega) (by omega) (fun hv1 => ?_) (fun hv1 => ?_)
  · refine x_iload_n dJ7_copyOf_59c91_14 rfl ?_
    refine x_newIG (n := S.length) (kr := 2) (r := (2000 + c)) w_ai rfl (by omega) (hLn.zq2 (by omega)) hLn.zn2 (by omega) (by omega) dJ7_copyOf_59c91_15 (fun sw2 Gz2 => ?_)
    refine x_astore_n dJ7_copyOf_59c91_17 (by decide) rfl ?_
    refine x_lv (lv' := [some (.ref 30), some (.int (nI S.length)), some (.ref ((2000 + c)))]) rfl ?_
    refine x_aload_n dJ7_copyOf_59c91_18 rfl ?_
    refine x_iconst (v := nI 0) dJ7_copyOf_59c91_19 (by decide) ?_
    refine x_aload_n dJ7_copyOf_59c91_20 rfl ?_
    refine x_iconst (v := nI 0) dJ7_copyOf_59c91_21 (by decide) ?_
    refine x_aload_n dJ7_copyOf_59c91_22 rfl ?_
    refine x_alen (by decide) (Gz2.2.1.at (by omega) g0) dJ7_copyOf_59c91_23 ?_
    refine x_iload_n dJ7_copyOf_59c91_24 rfl ?_
    refine x_mmin l_J7_304 (by omega) (Nat.le_of_ble_eq_true rfl) ⟨by omega, by first | omega | (simp only [List.length_cons, List.length_nil]; omega)⟩ dJ7_copyOf_59c91_25 ?_
    refine x_topi (y := nI S.length) (by rw [if_pos (by rw [tI_nI (by omega), tI_nI (by omega)]; omega)]) ?_
    refine x_copy l_J7_150 w_ac (Gz2.2.1.at (by omega) g0) Gz2.1 rfl rfl rfl (by omega) (by rw [List.length_replicate]; omega) (by omega) (Nat.le_of_ble_eq_true rfl) dJ7_copyOf_59c91_28 ?_
    have hz9 : zg (zs sw2 (2000 + c) (.inl (0, zcpy St (List.replicate S.length 0) 0 0 S.length))) (2000 + c) = some (.inl (0, S.map nI)) := by rw [zs_eq Gz2.1, cpy_take (by omega) hS]
    refine x_aload_n dJ7_copyOf_59c91_31 rfl ?_
    exact x_aret ⟨by omega, by first | omega | (simp only [List.length_cons, List.length_nil]; omega)⟩ rfl (Or.inr ⟨_, rfl⟩) dJ7_copyOf_59c91_32 ⟨rfl, hz9, (zs_Ln (Gz2.2.2.2.2 _ rfl hLn)), ((Fr.rf.tr (Gz2.2.1.mono (fun i hi => by omega))).tr ((Fr.rf.zs rfl : Fr (fun i => i = 2000 + c) sw2 (zs sw2 (2000 + c) (.inl (0, zcpy St (List.replicate S.length 0) 0 0 S.length)))).mono (fun i hi => by omega)))⟩
  · exact absurd hv1 (by omega)
set_option maxHeartbeats 4000000 in
theorem c_rule {L : List Nat} {Tp : List Int32} {l j : Nat} {σ : ZS} {S : List Nat} {p c : Nat} (hO : RdOk σ L Tp (nI l) (nI j) S p) (hS6 : S.length < 160) (hLn : Ln σ 40 18 c) (hc : c + 3 < 1000) : Cn 2 M_X3_rule 3 364 [.ref 28] σ (fun r9 σ' => r9 = some (.ref (2000 + c)) ∧ zg σ' (2000 + c) = some (.inr (.inr (3, [.ref (2000 + (c + 1)), .int (nI l), .int (nI j), .ref (2000 + (c + 1 + 1))]))) ∧ zg σ' (2000 + (c + 1)) = some (.inl (0, S.map nI)) ∧ zg σ' (2000 + (c + 1 + 1)) = some (.inl (0, List.replicate S.length 0)) ∧ Ln σ' 40 18 (c + 1 + 1 + 1) ∧ Fr (fun i => 2000 + c ≤ i ∧ i ≤ 2000 + (c + 1 + 1)) σ σ') := by
  obtain ⟨tv, St, h, hv, hS, hl⟩ := id hO
  obtain ⟨d_0, d_1, d_2, lt1, lt2⟩ := id h
  refine Cn.intro (lv0 := [some (.ref 28)]) rfl (Nat.le_of_ble_eq_true rfl) rfl (fun d hd => ?_)
  refine x_newG (kr := 2) (r := (2000 + c)) k_X3_53 (hLn.zq2 (by omega)) hLn.zn2 (by omega) (by show _ + 4 ≤ _; omega) dX3_rule_0 (fun sw1 Gz1 => ?_)
  refine x_dup dX3_rule_3 rfl ?_
  refine x_aload_n dX3_rule_4 rfl ?_
  refine x_get (v := .ref 30) f_X3_19 (Gz1.2.1.at (by omega) d_0) rfl dX3_rule_5 ?_
  refine x_aload_n dX3_rule_8 rfl ?_
  refine x_get (v := .int (nI S.length)) f_X3_25 (Gz1.2.1.at (by omega) d_0) rfl dX3_rule_9 ?_
  refine x_callS m_J7_copyOf_59c91 l_X3_55 (c_copyOf (Gz1.2.2.2.2 _ rfl hLn) (by omega) (Gz1.2.1.at (by omega) d_2) lt2 (by omega) hS) (by omega) rfl rfl (Nat.le_of_ble_eq_true rfl) ⟨by omega, by first | omega | (simp only [List.length_cons, List.length_nil]; omega)⟩ dX3_rule_12 (fun r2 s2 q2 => ?_)
  obtain ⟨rfl, z2, L2, F2⟩ := q2
  refine x_stk (st' := [.ref ((2000 + (c + 1))), .ref ((2000 + c)), .ref ((2000 + c))]) rfl ?_
  refine x_aload_n dX3_rule_15 rfl ?_
  refine x_get (v := .int (nI l)) f_X3_41 (F2.at (by omega) (Gz1.2.1.at (by omega) d_0)) rfl dX3_rule_16 ?_
  refine x_aload_n dX3_rule_19 rfl ?_
  refine x_get (v := .int (nI j)) f_X3_44 (F2.at (by omega) (Gz1.2.1.at (by omega) d_0)) rfl dX3_rule_20 ?_
  refine x_callI m_X4_init l_X3_61 (c_ruleInit2 L2 (by omega) (F2.at (by omega) Gz1.1) z2 (by rw [List.length_map]; omega) (by omega) (by omega) (by omega)) (by omega) rfl rfl (Nat.le_of_ble_eq_true rfl) ⟨by omega, by first | omega | (simp only [List.length_cons, List.length_nil]; omega)⟩ dX3_rule_23 (fun r3 s3 q3 => ?_)
  obtain ⟨rfl, y3, z3, L3, F3⟩ := q3
  refine x_stk (st' := [.ref ((2000 + c))]) rfl ?_
  exact x_aret ⟨by omega, by first | omega | (simp only [List.length_cons, List.length_nil]; omega)⟩ rfl (Or.inl ⟨_, rfl⟩) dX3_rule_26 ⟨rfl, y3, (F3.at (by omega) z2), by rw [List.length_map] at z3; exact z3, L3, (((Fr.rf.tr (Gz1.2.1.mono (fun i hi => by omega))).tr (F2.mono (fun i hi => by omega))).tr (F3.mono (fun i hi => by omega)))⟩
