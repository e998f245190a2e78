set_option maxHeartbeats 4000000 in
theorem l_words {σ0 : ZS} {q : Nat} {fa sc lf jf : Int32} {St : List Int32} {L : List Nat} {Tp : List Int32} (hT : TxL L Tp) (hq : q < L.length) {d : Nat} (hd : 5 ≤ d) : ∀ (q9 k : Nat) (tv : Int32) (σ : ZS) (h : Rd σ (nI L.length) (nI (skip isLt L q)) (nI (wK (wIx (sub L q (skip isLt L q)) k))) (nI q) tv fa sc lf jf Tp St) (hv : ∀ j, wIx (sub L q (skip isLt L q)) k = some j → tv = nI j - nI 6) (hF : Fr (fun i => i = 28) σ0 σ), k + q9 = 12 → X M_X3_readWord d 0 0 (fun r9 σ' => r9 = none ∧ ∃ tv' : Int32, Rd σ' (nI L.length) (nI (skip isLt L q)) (nI (wK (wIx (sub L q (skip isLt L q)) 12))) (nI q) tv' fa sc lf jf Tp St ∧ (∀ j, wIx (sub L q (skip isLt L q)) 12 = some j → tv' = nI j - nI 6) ∧ Fr (fun i => i = 28) σ0 σ') 0 0 46 [some (.ref 28), some (.int (nI k))] [] σ := by
  intro q9
  induction q9 with
  | zero =>
    intro k tv σ h hv hF hk
    obtain ⟨d0, d1, d2, lt1, lt2⟩ := id h
    have hL := hT.1
    have hsb := skip_b isLt (show q ≤ L.length by omega)
    refine x_iload_n dX3_readWord_46 rfl ?_
    refine x_bipush (v := nI 12) dX3_readWord_47 (by decide) ?_
    refine x_icmpN_ge (tgt := 94) dX3_readWord_49 (by decide) (by omega) (by omega) (fun hv1 => ?_) (fun hv1 => ?_)
    · exact x_vret ⟨Nat.le_refl _, Nat.le_refl _⟩ rfl dX3_readWord_94 ⟨rfl, tv, by rw [show k = 12 by omega] at h; exact h, fun j hj => hv j (by rw [show k = 12 by omega]; exact hj), hF⟩
    · exact absurd hv1 (by omega)
  | succ q9 ih =>
    intro k tv σ h hv hF hk
    obtain ⟨d0, d1, d2, lt1, lt2⟩ := id h
    have hL := hT.1
    have hsb := skip_b isLt (show q ≤ L.length by omega)
    refine x_iload_n dX3_readWord_46 rfl ?_
    refine x_bipush (v := nI 12) dX3_readWord_47 (by decide) ?_
    refine x_icmpN_ge (tgt := 94) dX3_readWord_49 (by decide) (by omega) (by omega) (fun hv1 => ?_) (fun hv1 => ?_)
    · exact absurd hv1 (by omega)
    · refine x_aload_n dX3_readWord_52 rfl ?_
      refine x_iload_n dX3_readWord_53 rfl ?_
      refine x_callS m_X3_spelling l_X3_110 (c_spelling (by omega)) (by omega) rfl rfl (Nat.le_of_ble_eq_true rfl) ⟨Nat.le_refl _, Nat.le_refl _⟩ dX3_readWord_54 (fun r2 s2 q2 => ?_)
      obtain ⟨rfl, eq2⟩ := q2
      obtain rfl := eq2.symm
      refine x_stk (st' := [.ref ((3000 + k)), .ref 28]) rfl ?_
      refine x_callV m_X3_isSpelled l_X3_114 (c_isSpelled hT h (by omega) (by omega) (by omega)) rfl d0 (by omega) rfl rfl (Nat.le_of_ble_eq_true rfl) ⟨Nat.le_refl _, Nat.le_refl _⟩ dX3_readWord_57 (fun r3 s3 q3 => ?_)
      obtain ⟨rfl, eq3⟩ := q3
      obtain rfl := eq3.symm
      refine x_stk (st' := [.int (bI ((spB L q (skip isLt L q) k)))]) rfl ?_
      refine x_ifB_eq (tgt := 88) dX3_readWord_60 (by decide) (fun hv4 => ?_) (fun hv4 => ?_)
      · refine x_iincN dX3_readWord_88 rfl (by decide) rfl ?_
        refine x_lv (lv' := [some (.ref 28), some (.int (nI (k + 1)))]) rfl ?_
        refine x_goto (tgt := 46) dX3_readWord_91 (by decide) ?_
        exact ih (k + 1) tv σ (by rw [(show wIx (sub L q (skip isLt L q)) (k + 1) = wIx (sub L q (skip isLt L q)) k by rw [wIx, if_neg (of_decide_eq_false hv4)])]; exact h) (fun j hj => hv j (by rw [(show wIx (sub L q (skip isLt L q)) (k + 1) = wIx (sub L q (skip isLt L q)) k by rw [wIx, if_neg (of_decide_eq_false hv4)])] at hj; exact hj)) hF (by omega)
      · refine x_aload_n dX3_readWord_63 rfl ?_
        refine x_iload_n dX3_readWord_64 rfl ?_
        refine x_bipush (v := nI 6) dX3_readWord_65 (by decide) ?_
        refine x_icmpN_ge (tgt := 76) dX3_readWord_67 (by decide) (by omega) (by omega) (fun hv5 => ?_) (fun hv5 => ?_)
        · refine x_iconst (v := nI 3) dX3_readWord_76 (by decide) ?_
          refine x_putK f_X3_47 d0 (Nat.le_of_ble_eq_true rfl) (fun c => ⟨rfl, rfl⟩) dX3_readWord_77 (fun sw6 gw6 Fw6 => ?_)
          refine x_aload_n dX3_readWord_80 rfl ?_
          refine x_iload_n dX3_readWord_81 rfl ?_
          refine x_bipush (v := nI 6) dX3_readWord_82 (by decide) ?_
          refine x_isub dX3_readWord_84 ?_
          refine x_putK f_X3_86 gw6 (Nat.le_of_ble_eq_true rfl) (fun c => ⟨rfl, rfl⟩) dX3_readWord_85 (fun sw7 gw7 Fw7 => ?_)
          refine x_iincN dX3_readWord_88 rfl (by decide) rfl ?_
          refine x_lv (lv' := [some (.ref 28), some (.int (nI (k + 1)))]) rfl ?_
          refine x_goto (tgt := 46) dX3_readWord_91 (by decide) ?_
          exact ih (k + 1) _ sw7 (by rw [(show wIx (sub L q (skip isLt L q)) (k + 1) = some k by rw [wIx, if_pos (of_decide_eq_true hv4)]), (show wK (some k) = 3 by rw [wK, if_neg (by omega)])]; exact ⟨gw7, (Fw7.at (by omega) (Fw6.at (by omega) d1)), (Fw7.at (by omega) (Fw6.at (by omega) d2)), lt1, (by first | exact lt2 | (rw [List.length_set]; exact lt2))⟩) (fun j hj => by rw [(show wIx (sub L q (skip isLt L q)) (k + 1) = some k by rw [wIx, if_pos (of_decide_eq_true hv4)])] at hj; cases hj; rfl) (hF.tr ((Fr.rf.tr (Fw6.mono (fun i hi => by omega))).tr (Fw7.mono (fun i hi => by omega)))) (by omega)
        · refine x_iconst (v := nI 5) dX3_readWord_70 (by decide) ?_
          refine x_iload_n dX3_readWord_71 rfl ?_
          refine x_iaddN dX3_readWord_72 ?_
          refine x_goto (tgt := 77) dX3_readWord_73 (by decide) ?_
          refine x_putK f_X3_47 d0 (Nat.le_of_ble_eq_true rfl) (fun c => ⟨rfl, rfl⟩) dX3_readWord_77 (fun sw8 gw8 Fw8 => ?_)
          refine x_aload_n dX3_readWord_80 rfl ?_
          refine x_iload_n dX3_readWord_81 rfl ?_
          refine x_bipush (v := nI 6) dX3_readWord_82 (by decide) ?_
          refine x_isub dX3_readWord_84 ?_
          refine x_putK f_X3_86 gw8 (Nat.le_of_ble_eq_true rfl) (fun c => ⟨rfl, rfl⟩) dX3_readWord_85 (fun sw9 gw9 Fw9 => ?_)
          refine x_iincN dX3_readWord_88 rfl (by decide) rfl ?_
          refine x_lv (lv' := [some (.ref 28), some (.int (nI (k + 1)))]) rfl ?_
          refine x_goto (tgt := 46) dX3_readWord_91 (by decide) ?_
          exact ih (k + 1) _ sw9 (by rw [(show wIx (sub L q (skip isLt L q)) (k + 1) = some k by rw [wIx, if_pos (of_decide_eq_true hv4)]), (show wK (some k) = 5 + k by rw [wK, if_pos (by omega)])]; exact ⟨gw9, (Fw9.at (by omega) (Fw8.at (by omega) d1)), (Fw9.at (by omega) (Fw8.at (by omega) d2)), lt1, (by first | exact lt2 | (rw [List.length_set]; exact lt2))⟩) (fun j hj => by rw [(show wIx (sub L q (skip isLt L q)) (k + 1) = some k by rw [wIx, if_pos (of_decide_eq_true hv4)])] at hj; cases hj; rfl) (hF.tr ((Fr.rf.tr (Fw8.mono (fun i hi => by omega))).tr (Fw9.mono (fun i hi => by omega)))) (by omega)
set_option maxHeartbeats 4000000 in
theorem c_readWord {σ : ZS} {q : Nat} {tk tv : Int32} {fa sc lf jf : Int32} {St : List Int32} {L : List Nat} {Tp : List Int32} (hT : TxL L Tp) (hq : q < L.length) (h : Rd σ (nI L.length) (nI q) tk (nI q) tv fa sc lf jf Tp St) : Cn 5 M_X3_readWord 0 0 [.ref 28] σ (fun r9 σ' => r9 = none ∧ ∃ tv' : Int32, Rd σ' (nI L.length) (nI (skip isLt L q)) (nI (wK (wIx (sub L q (skip isLt L q)) 12))) (nI q) tv' fa sc lf jf Tp St ∧ (∀ j, wIx (sub L q (skip isLt L q)) 12 = some j → tv' = nI j - nI 6) ∧ Fr (fun i => i = 28) σ σ') := by
  refine Cn.intro (lv0 := [some (.ref 28), none]) rfl (Nat.le_of_ble_eq_true rfl) rfl (fun d hd => ?_)
  refine l_word (p0 := q) hT (by omega) (fun σ h hF => ?_) (L.length - q) q σ h Fr.rf (by omega) rfl (by omega)
  obtain ⟨d0, d1, d2, lt1, lt2⟩ := id h
  refine x_aload_n dX3_readWord_39 rfl ?_
  refine x_iconst (v := nI 1) dX3_readWord_40 (by decide) ?_
  refine x_putK f_X3_47 d0 (Nat.le_of_ble_eq_true rfl) (fun c => ⟨rfl, rfl⟩) dX3_readWord_41 (fun sw501 gw501 Fw501 => ?_)
  refine x_iconst (v := nI 0) dX3_readWord_44 (by decide) ?_
  refine x_istore_n dX3_readWord_45 (by decide) rfl ?_
  refine x_lv (lv' := [some (.ref 28), some (.int (nI 0))]) rfl ?_
  exact l_words hT hq hd 12 0 tv sw501 ⟨gw501, (Fw501.at (by omega) d1), (Fw501.at (by omega) d2), lt1, (by first | exact lt2 | (rw [List.length_set]; exact lt2))⟩ (fun j hj => by cases hj) (hF.tr (Fr.rf.tr (Fw501.mono (fun i hi => by omega)))) (by omega)
set_option maxHeartbeats 4000000 in
theorem l_num {σ0 : ZS} {q : Nat} {tk tv : Int32} {fa sc lf jf : Int32} {St : List Int32} {L : List Nat} {Tp : List Int32} (hT : TxL L Tp) {d : Nat} (hd : 1 ≤ d) : ∀ (q9 j : Nat) (σ : ZS) (h : Rd σ (nI L.length) (nI (q + j)) tk (nI q) tv fa sc lf jf Tp St) (hF : Fr (fun i => i = 28) σ0 σ), q + j + q9 = L.length → skip isDg L q = skip isDg L (q + j) → q + j ≤ L.length → X M_X3_readNumeral d 0 0 (fun r9 σ' => r9 = none ∧ Rd σ' (nI L.length) (nI (skip isDg L q)) (nI (if 4 < (skip isDg L q) - q then 1 else 2)) (nI q) (nI (numV L q ((skip isDg L q) - q))) fa sc lf jf Tp St ∧ Fr (fun i => i = 28) σ0 σ') 0 0 2 [some (.ref 28), some (.int (nI ((numV L q j))))] [] σ := by
  intro q9
  induction q9 with
  | zero =>
    intro j σ h hF hpq hsk hk
    obtain ⟨d0, d1, d2, lt1, lt2⟩ := id h
    have hL := hT.1
    refine x_aload_n dX3_readNumeral_2 rfl ?_
    refine x_get (v := .int (nI (q + j))) f_X3_22 d0 rfl dX3_readNumeral_3 ?_
    refine x_aload_n dX3_readNumeral_6 rfl ?_
    refine x_get (v := .int (nI L.length)) f_X3_15 d0 rfl dX3_readNumeral_7 ?_
    refine x_icmpN_ge (tgt := 59) dX3_readNumeral_10 (by decide) (by omega) (by omega) (fun hv1 => ?_) (fun hv1 => ?_)
    · refine x_aload_n dX3_readNumeral_59 rfl ?_
      refine x_aload_n dX3_readNumeral_60 rfl ?_
      refine x_get (v := .int (nI (q + j))) f_X3_22 d0 rfl dX3_readNumeral_61 ?_
      refine x_aload_n dX3_readNumeral_64 rfl ?_
      refine x_get (v := .int (nI q)) f_X3_89 d0 rfl dX3_readNumeral_65 ?_
      refine x_isubN (by omega) dX3_readNumeral_68 ?_
      refine x_iconst (v := nI 4) dX3_readNumeral_69 (by decide) ?_
      refine x_icmpN_le (tgt := 77) dX3_readNumeral_70 (by decide) (by omega) (by omega) (fun hv2 => ?_) (fun hv2 => ?_)
      · refine x_iconst (v := nI 2) dX3_readNumeral_77 (by decide) ?_
        refine x_putK f_X3_47 d0 (Nat.le_of_ble_eq_true rfl) (fun c => ⟨rfl, rfl⟩) dX3_readNumeral_78 (fun sw3 gw3 Fw3 => ?_)
        refine x_aload_n dX3_readNumeral_81 rfl ?_
        refine x_iload_n dX3_readNumeral_82 rfl ?_
        refine x_putK f_X3_86 gw3 (Nat.le_of_ble_eq_true rfl) (fun c => ⟨rfl, rfl⟩) dX3_readNumeral_83 (fun sw4 gw4 Fw4 => ?_)
        exact x_vret ⟨Nat.le_refl _, Nat.le_refl _⟩ rfl dX3_readNumeral_86 ⟨rfl, by rw [hsk, skip_e (by omega), Nat.add_sub_cancel_left, if_neg (by omega)]; exact ⟨gw4, (Fw4.at (by omega) (Fw3.at (by omega) d1)), (Fw4.at (by omega) (Fw3.at (by omega) d2)), lt1, (by first | exact lt2 | (rw [List.length_set]; exact lt2))⟩, hF.tr ((Fr.rf.tr (Fw3.mono (fun i hi => by omega))).tr (Fw4.mono (fun i hi => by omega)))⟩
      · refine x_iconst (v := nI 1) dX3_readNumeral_73 (by decide) ?_
        refine x_goto (tgt := 78) dX3_readNumeral_74 (by decide) ?_
        refine x_putK f_X3_47 d0 (Nat.le_of_ble_eq_true rfl) (fun c => ⟨rfl, rfl⟩) dX3_readNumeral_78 (fun sw5 gw5 Fw5 => ?_)
        refine x_aload_n dX3_readNumeral_81 rfl ?_
        refine x_iload_n dX3_readNumeral_82 rfl ?_
        refine x_putK f_X3_86 gw5 (Nat.le_of_ble_eq_true rfl) (fun c => ⟨rfl, rfl⟩) dX3_readNumeral_83 (fun sw6 gw6 Fw6 => ?_)
        exact x_vret ⟨Nat.le_refl _, Nat.le_refl _⟩ rfl dX3_readNumeral_86 ⟨rfl, by rw [hsk, skip_e (by omega), Nat.add_sub_cancel_left, if_pos (by omega)]; exact ⟨gw6, (Fw6.at (by omega) (Fw5.at (by omega) d1)), (Fw6.at (by omega) (Fw5.at (by omega) d2)), lt1, (by first | exact lt2 | (rw [List.length_set]; exact lt2))⟩, hF.tr ((Fr.rf.tr (Fw5.mono (fun i hi => by omega))).tr (Fw6.mono (fun i hi => by omega)))⟩
    · exact absurd hv1 (by omega)
  | succ q9 ih =>
    intro j σ h hF hpq hsk hk
    obtain ⟨d0, d1, d2, lt1, lt2⟩ := id h
    have hL := hT.1
    refine x_aload_n dX3_readNumeral_2 rfl ?_
    refine x_get (v := .int (nI (q + j))) f_X3_22 d0 rfl dX3_readNumeral_3 ?_
    refine x_aload_n dX3_readNumeral_6 rfl ?_
    refine x_get (v := .int (nI L.length)) f_X3_15 d0 rfl dX3_readNumeral_7 ?_
    refine x_icmpN_ge (tgt := 59) dX3_readNumeral_10 (by decide) (by omega) (by omega) (fun hv1 => ?_) (fun hv1 => ?_)
    · exact absurd hv1 (by omega)
    · refine x_aload_n dX3_readNumeral_13 rfl ?_
      refine x_get (v := .ref 29) f_X3_11 d0 rfl dX3_readNumeral_14 ?_
      refine x_aload_n dX3_readNumeral_17 rfl ?_
      refine x_get (v := .int (nI (q + j))) f_X3_22 d0 rfl dX3_readNumeral_18 ?_
      refine x_iald (n := q + j) d1 rfl (by rw [lt1]; omega) dX3_readNumeral_21 ?_
      refine x_topi (y := nI ((L.getD (q + j) 0))) (hT.2.1 _ (by omega)) ?_
      refine x_callS m_X3_isDigit l_X3_101 (c_isDigit (hT.2.2 _)) (by omega) rfl rfl (Nat.le_of_ble_eq_true rfl) ⟨Nat.le_refl _, Nat.le_refl _⟩ dX3_readNumeral_22 (fun r2 s2 q2 => ?_)
      obtain ⟨rfl, eq2⟩ := q2
      obtain rfl := eq2.symm
      refine x_stk (st' := [.int (bI ((isDg ((L.getD (q + j) 0)))))]) rfl ?_
      refine x_ifB_eq (tgt := 59) dX3_readNumeral_25 (by decide) (fun hv3 => ?_) (fun hv3 => ?_)
      · refine x_aload_n dX3_readNumeral_59 rfl ?_
        refine x_aload_n dX3_readNumeral_60 rfl ?_
        refine x_get (v := .int (nI (q + j))) f_X3_22 d0 rfl dX3_readNumeral_61 ?_
        refine x_aload_n dX3_readNumeral_64 rfl ?_
        refine x_get (v := .int (nI q)) f_X3_89 d0 rfl dX3_readNumeral_65 ?_
        refine x_isubN (by omega) dX3_readNumeral_68 ?_
        refine x_iconst (v := nI 4) dX3_readNumeral_69 (by decide) ?_
        refine x_icmpN_le (tgt := 77) dX3_readNumeral_70 (by decide) (by omega) (by omega) (fun hv4 => ?_) (fun hv4 => ?_)
        · refine x_iconst (v := nI 2) dX3_readNumeral_77 (by decide) ?_
          refine x_putK f_X3_47 d0 (Nat.le_of_ble_eq_true rfl) (fun c => ⟨rfl, rfl⟩) dX3_readNumeral_78 (fun sw5 gw5 Fw5 => ?_)
          refine x_aload_n dX3_readNumeral_81 rfl ?_
          refine x_iload_n dX3_readNumeral_82 rfl ?_
          refine x_putK f_X3_86 gw5 (Nat.le_of_ble_eq_true rfl) (fun c => ⟨rfl, rfl⟩) dX3_readNumeral_83 (fun sw6 gw6 Fw6 => ?_)
          exact x_vret ⟨Nat.le_refl _, Nat.le_refl _⟩ rfl dX3_readNumeral_86 ⟨rfl, by rw [hsk, skip_f hv3, Nat.add_sub_cancel_left, if_neg (by omega)]; exact ⟨gw6, (Fw6.at (by omega) (Fw5.at (by omega) d1)), (Fw6.at (by omega) (Fw5.at (by omega) d2)), lt1, (by first | exact lt2 | (rw [List.length_set]; exact lt2))⟩, hF.tr ((Fr.rf.tr (Fw5.mono (fun i hi => by omega))).tr (Fw6.mono (fun i hi => by omega)))⟩
        · refine x_iconst (v := nI 1) dX3_readNumeral_73 (by decide) ?_
          refine x_goto (tgt := 78) dX3_readNumeral_74 (by decide) ?_
          refine x_putK f_X3_47 d0 (Nat.le_of_ble_eq_true rfl) (fun c => ⟨rfl, rfl⟩) dX3_readNumeral_78 (fun sw7 gw7 Fw7 => ?_)
          refine x_aload_n dX3_readNumeral_81 rfl ?_
          refine x_iload_n dX3_readNumeral_82 rfl ?_
          refine x_putK f_X3_86 gw7 (Nat.le_of_ble_eq_true rfl) (fun c => ⟨rfl, rfl⟩) dX3_readNumeral_83 (fun sw8 gw8 Fw8 => ?_)
          exact x_vret ⟨Nat.le_refl _, Nat.le_refl _⟩ rfl dX3_readNumeral_86 ⟨rfl, by rw [hsk, skip_f hv3, Nat.add_sub_cancel_left, if_pos (by omega)]; exact ⟨gw8, (Fw8.at (by omega) (Fw7.at (by omega) d1)), (Fw8.at (by omega) (Fw7.at (by omega) d2)), lt1, (by first | exact lt2 | (rw [List.length_set]; exact lt2))⟩, hF.tr ((Fr.rf.tr (Fw7.mono (fun i hi => by omega))).tr (Fw8.mono (fun i hi => by omega)))⟩
      · refine x_iload_n dX3_readNumeral_28 rfl ?_
        refine x_bipush (v := nI 10) dX3_readNumeral_29 (by decide) ?_
        refine x_imulN dX3_readNumeral_31 ?_
        refine x_aload_n dX3_readNumeral_32 rfl ?_
        refine x_get (v := .ref 29) f_X3_11 d0 rfl dX3_readNumeral_33 ?_
        refine x_aload_n dX3_readNumeral_36 rfl ?_
        refine x_get (v := .int (nI (q + j))) f_X3_22 d0 rfl dX3_readNumeral_37 ?_
        refine x_iald (n := q + j) d1 rfl (by rw [lt1]; omega) dX3_readNumeral_40 ?_
        refine x_topi (y := nI ((L.getD (q + j) 0))) (hT.2.1 _ (by omega)) ?_
        have hdg := of_decide_eq_true hv3
        refine x_bipush (v := nI 48) dX3_readNumeral_41 (by decide) ?_
        refine x_isubN (by omega) dX3_readNumeral_43 ?_
        refine x_iaddN dX3_readNumeral_44 ?_
        refine x_istore_n dX3_readNumeral_45 (by decide) rfl ?_
        refine x_lv (lv' := [some (.ref 28), some (.int (nI ((((numV L q j)) * 10) + (((L.getD (q + j) 0)) - 48))))]) rfl ?_
        refine x_aload_n dX3_readNumeral_46 rfl ?_
        refine x_dup dX3_readNumeral_47 rfl ?_
        refine x_get (v := .int (nI (q + j))) f_X3_22 d0 rfl dX3_readNumeral_48 ?_
        refine x_iconst (v := nI 1) dX3_readNumeral_51 (by decide) ?_
        refine x_iaddN dX3_readNumeral_52 ?_
        refine x_putK f_X3_22 d0 (Nat.le_of_ble_eq_true rfl) (fun c => ⟨rfl, rfl⟩) dX3_readNumeral_53 (fun sw9 gw9 Fw9 => ?_)
        refine x_goto (tgt := 2) dX3_readNumeral_56 (by decide) ?_
        exact ih (j + 1) sw9 ⟨gw9, (Fw9.at (by omega) d1), (Fw9.at (by omega) d2), lt1, (by first | exact lt2 | (rw [List.length_set]; exact lt2))⟩ (hF.tr (Fr.rf.tr (Fw9.mono (fun i hi => by omega)))) (by omega) (by rw [hsk, skip_t (by omega) hv3]; rfl) (by omega)
set_option maxHeartbeats 4000000 in
theorem c_readNumeral {σ : ZS} {q : Nat} {tk tv : Int32} {fa sc lf jf : Int32} {St : List Int32} {L : List Nat} {Tp : List Int32} (hT : TxL L Tp) (hq : q < L.length) (h : Rd σ (nI L.length) (nI q) tk (nI q) tv fa sc lf jf Tp St) : Cn 1 M_X3_readNumeral 0 0 [.ref 28] σ (fun r9 σ' => r9 = none ∧ Rd σ' (nI L.length) (nI (skip isDg L q)) (nI (if 4 < (skip isDg L q) - q then 1 else 2)) (nI q) (nI (numV L q ((skip isDg L q) - q))) fa sc lf jf Tp St ∧ Fr (fun i => i = 28) σ σ') := by
  refine Cn.intro (lv0 := [some (.ref 28), none]) rfl (Nat.le_of_ble_eq_true rfl) rfl (fun d hd => ?_)
  refine x_iconst (v := nI 0) dX3_readNumeral_0 (by decide) ?_
  refine x_istore_n dX3_readNumeral_1 (by decide) rfl ?_
  refine x_lv (lv' := [some (.ref 28), some (.int (nI 0))]) rfl ?_
  exact l_num hT hd (L.length - q) 0 σ h Fr.rf (by omega) rfl (by omega)
theorem word_v {w : List Nat} {tv : Int32} (h : ∀ j, wIx w 12 = some j → tv = nI j - nI 6) (q : wK (wIx w 12) = 2 ∨ wK (wIx w 12) = 3) : tv = nI (wV (wIx w 12)) := by
  have q2 : wK (wIx w 12) = 3 := by
    rcases q with q | q
    · exact absurd q (wK_ne _)
    · exact q
  cases hw : wIx w 12 with
  | none => rw [hw] at q2; cases q2
  | some j =>
    rw [hw, wK] at q2
    have hj := (wIx_lt hw).1
    by_cases h6 : j < 6
    · rw [if_pos h6] at q2; omega
    · rw [h j hw, wV]
      have e : ∀ j, j < 12 → 6 ≤ j → nI j - nI 6 = nI (j - 6) := by decide
      exact e j hj (by omega)
set_option maxHeartbeats 4000000 in
theorem c_next {σ : ZS} {p : Nat} {tk tp tv : Int32} {fa sc lf jf : Int32} {St : List Int32} {L : List Nat} {Tp : List Int32} (hT : TxL L Tp) (hp : p ≤ L.length) (h : Rd σ (nI L.length) (nI p) tk tp tv fa sc lf jf Tp St) : Cn 6 M_X3_next 0 0 [.ref 28] σ (fun r9 σ' => r9 = none ∧ ∃ tv' : Int32, Rd σ' (nI L.length) (nI (tkN L p)) (nI (tkK L p)) (nI (lexP L p)) tv' fa sc lf jf Tp St ∧ (tkK L p = 2 ∨ tkK L p = 3 → tv' = nI (tkV L p)) ∧ Fr (fun i => i = 28) σ σ') := by
  refine Cn.intro (lv0 := [some (.ref 28)]) rfl (Nat.le_of_ble_eq_true rfl) rfl (fun d hd => ?_)
  refine l_blank (p0 := p) hT (by omega) (fun σ h hF => ?_) (L.length - p) p σ h Fr.rf (by omega) rfl hp
  have h : Rd σ (nI L.length) (nI (lexP L p)) tk tp tv fa sc lf jf Tp St := h
  obtain ⟨d0, d1, d2, lt1, lt2⟩ := id h
  have hL := hT.1
  have hlp := lexP_b hp
  refine x_aload_n dX3_next_39 rfl ?_
  refine x_aload_n dX3_next_40 rfl ?_
  refine x_get (v := .int (nI ((lexP L p)))) f_X3_22 d0 rfl dX3_next_41 ?_
  refine x_putK f_X3_89 d0 (Nat.le_of_ble_eq_true rfl) (fun c => ⟨rfl, rfl⟩) dX3_next_44 (fun sw501 gw501 Fw501 => ?_)
  refine x_aload_n dX3_next_47 rfl ?_
  refine x_get (v := .int (nI ((lexP L p)))) f_X3_22 gw501 rfl dX3_next_48 ?_
  refine x_aload_n dX3_next_51 rfl ?_
  refine x_get (v := .int (nI L.length)) f_X3_15 gw501 rfl dX3_next_52 ?_
  refine x_icmpN_lt (tgt := 66) dX3_next_55 (by decide) (by omega) (by omega) (fun hv502 => ?_) (fun hv502 => ?_)
  · refine x_aload_n dX3_next_66 rfl ?_
    refine x_get (v := .ref 29) f_X3_11 gw501 rfl dX3_next_67 ?_
    refine x_aload_n dX3_next_70 rfl ?_
    refine x_get (v := .int (nI ((lexP L p)))) f_X3_22 gw501 rfl dX3_next_71 ?_
    refine x_iald (n := (lexP L p)) (Fw501.at (by omega) d1) rfl (by rw [lt1]; omega) dX3_next_74 ?_
    refine x_topi (y := nI ((L.getD (lexP L p) 0))) (hT.2.1 _ (by omega)) ?_
    refine x_callS m_X3_isSmallLetter l_X3_95 (c_isSmall (hT.2.2 _)) (by omega) rfl rfl (Nat.le_of_ble_eq_true rfl) ⟨Nat.le_refl _, Nat.le_refl _⟩ dX3_next_75 (fun r503 s503 q503 => ?_)
    obtain ⟨rfl, eq503⟩ := q503
    obtain rfl := eq503.symm
    refine x_stk (st' := [.int (bI ((isLt ((L.getD (lexP L p) 0)))))]) rfl ?_
    refine x_ifB_eq (tgt := 88) dX3_next_78 (by decide) (fun hv504 => ?_) (fun hv504 => ?_)
    · refine x_aload_n dX3_next_88 rfl ?_
      refine x_get (v := .ref 29) f_X3_11 gw501 rfl dX3_next_89 ?_
      refine x_aload_n dX3_next_92 rfl ?_
      refine x_get (v := .int (nI ((lexP L p)))) f_X3_22 gw501 rfl dX3_next_93 ?_
      refine x_iald (n := (lexP L p)) (Fw501.at (by omega) d1) rfl (by rw [lt1]; omega) dX3_next_96 ?_
      refine x_topi (y := nI ((L.getD (lexP L p) 0))) (hT.2.1 _ (by omega)) ?_
      refine x_callS m_X3_isDigit l_X3_101 (c_isDigit (hT.2.2 _)) (by omega) rfl rfl (Nat.le_of_ble_eq_true rfl) ⟨Nat.le_refl _, Nat.le_refl _⟩ dX3_next_97 (fun r505 s505 q505 => ?_)
      obtain ⟨rfl, eq505⟩ := q505
      obtain rfl := eq505.symm
      refine x_stk (st' := [.int (bI ((isDg ((L.getD (lexP L p) 0)))))]) rfl ?_
      refine x_ifB_eq (tgt := 110) dX3_next_100 (by decide) (fun hv506 => ?_) (fun hv506 => ?_)
      · refine x_aload_n dX3_next_110 rfl ?_
        refine x_aload_n dX3_next_111 rfl ?_
        refine x_get (v := .ref 29) f_X3_11 gw501 rfl dX3_next_112 ?_
        refine x_aload_n dX3_next_115 rfl ?_
        refine x_get (v := .int (nI ((lexP L p)))) f_X3_22 gw501 rfl dX3_next_116 ?_
        refine x_iald (n := (lexP L p)) (Fw501.at (by omega) d1) rfl (by rw [lt1]; omega) dX3_next_119 ?_
        refine x_topi (y := nI ((L.getD (lexP L p) 0))) (hT.2.1 _ (by omega)) ?_
        refine x_callS m_X3_isSign l_X3_107 (c_isSign (hT.2.2 _)) (by omega) rfl rfl (Nat.le_of_ble_eq_true rfl) ⟨Nat.le_refl _, Nat.le_refl _⟩ dX3_next_120 (fun r507 s507 q507 => ?_)
        obtain ⟨rfl, eq507⟩ := q507
        obtain rfl := eq507.symm
        refine x_stk (st' := [.int (bI ((isSg ((L.getD (lexP L p) 0))))), .ref 28]) rfl ?_
        refine x_ifB_eq (tgt := 138) dX3_next_123 (by decide) (fun hv508 => ?_) (fun hv508 => ?_)
        · refine x_iconst (v := nI 1) dX3_next_138 (by decide) ?_
          refine x_putK f_X3_47 gw501 (Nat.le_of_ble_eq_true rfl) (fun c => ⟨rfl, rfl⟩) dX3_next_139 (fun sw509 gw509 Fw509 => ?_)
          refine x_aload_n dX3_next_142 rfl ?_
          refine x_dup dX3_next_143 rfl ?_
          refine x_get (v := .int (nI ((lexP L p)))) f_X3_22 gw509 rfl dX3_next_144 ?_
          refine x_iconst (v := nI 1) dX3_next_147 (by decide) ?_
          refine x_iaddN dX3_next_148 ?_
          refine x_putK f_X3_22 gw509 (Nat.le_of_ble_eq_true rfl) (fun c => ⟨rfl, rfl⟩) dX3_next_149 (fun sw510 gw510 Fw510 => ?_)
          exact x_vret ⟨Nat.le_refl _, Nat.le_refl _⟩ rfl dX3_next_152 ⟨rfl, tv, by rw [tkN, tkK, if_neg (show ¬ L.length ≤ (lexP L p) by omega), if_neg (show ¬ L.length ≤ (lexP L p) by omega), if_neg (show ¬ isLt (L.getD (lexP L p) 0) = true by rw [hv504]; decide), if_neg (show ¬ isLt (L.getD (lexP L p) 0) = true by rw [hv504]; decide), if_neg (show ¬ isDg (L.getD (lexP L p) 0) = true by rw [hv506]; decide), if_neg (show ¬ isDg (L.getD (lexP L p) 0) = true by rw [hv506]; decide), if_neg (show ¬ isSg (L.getD (lexP L p) 0) = true by rw [hv508]; decide)]; exact ⟨gw510, (Fw510.at (by omega) (Fw509.at (by omega) (Fw501.at (by omega) d1))), (Fw510.at (by omega) (Fw509.at (by omega) (Fw501.at (by omega) d2))), lt1, (by first | exact lt2 | (rw [List.length_set]; exact lt2))⟩, fun q => by
    exfalso
    rw [tkK, if_neg (show ¬ L.length ≤ (lexP L p) by omega), if_neg (show ¬ isLt (L.getD (lexP L p) 0) = true by rw [hv504]; decide), if_neg (show ¬ isDg (L.getD (lexP L p) 0) = true by rw [hv506]; decide), if_neg (show ¬ isSg (L.getD (lexP L p) 0) = true by rw [hv508]; decide)] at q
    omega, hF.tr (((Fr.rf.tr (Fw501.mono (fun i hi => by omega))).tr (Fw509.mono (fun i hi => by omega))).tr (Fw510.mono (fun i hi => by omega)))⟩
        · refine x_aload_n dX3_next_126 rfl ?_
          refine x_get (v := .ref 29) f_X3_11 gw501 rfl dX3_next_127 ?_
          refine x_aload_n dX3_next_130 rfl ?_
          refine x_get (v := .int (nI ((lexP L p)))) f_X3_22 gw501 rfl dX3_next_131 ?_
          refine x_iald (n := (lexP L p)) (Fw501.at (by omega) d1) rfl (by rw [lt1]; omega) dX3_next_134 ?_
          refine x_topi (y := nI ((L.getD (lexP L p) 0))) (hT.2.1 _ (by omega)) ?_
          refine x_goto (tgt := 139) dX3_next_135 (by decide) ?_
          refine x_putK f_X3_47 gw501 (Nat.le_of_ble_eq_true rfl) (fun c => ⟨rfl, rfl⟩) dX3_next_139 (fun sw511 gw511 Fw511 => ?_)
          refine x_aload_n dX3_next_142 rfl ?_
          refine x_dup dX3_next_143 rfl ?_
          refine x_get (v := .int (nI ((lexP L p)))) f_X3_22 gw511 rfl dX3_next_144 ?_
          refine x_iconst (v := nI 1) dX3_next_147 (by decide) ?_
          refine x_iaddN dX3_next_148 ?_
          refine x_putK f_X3_22 gw511 (Nat.le_of_ble_eq_true rfl) (fun c => ⟨rfl, rfl⟩) dX3_next_149 (fun sw512 gw512 Fw512 => ?_)
          exact x_vret ⟨Nat.le_refl _, Nat.le_refl _⟩ rfl dX3_next_152 ⟨rfl, tv, by rw [tkN, tkK, if_neg (show ¬ L.length ≤ (lexP L p) by omega), if_neg (show ¬ L.length ≤ (lexP L p) by omega), if_neg (show ¬ isLt (L.getD (lexP L p) 0) = true by rw [hv504]; decide), if_neg (show ¬ isLt (L.getD (lexP L p) 0) = true by rw [hv504]; decide), if_neg (show ¬ isDg (L.getD (lexP L p) 0) = true by rw [hv506]; decide), if_neg (show ¬ isDg (L.getD (lexP L p) 0) = true by rw [hv506]; decide), if_pos hv508]; exact ⟨gw512, (Fw512.at (by omega) (Fw511.at (by omega) (Fw501.at (by omega) d1))), (Fw512.at (by omega) (Fw511.at (by omega) (Fw501.at (by omega) d2))), lt1, (by first | exact lt2 | (rw [List.length_set]; exact lt2))⟩, fun q => by
    exfalso
    rw [tkK, if_neg (show ¬ L.length ≤ (lexP L p) by omega), if_neg (show ¬ isLt (L.getD (lexP L p) 0) = true by rw [hv504]; decide), if_neg (show ¬ isDg (L.getD (lexP L p) 0) = true by rw [hv506]; decide), if_pos hv508] at q
    have := of_decide_eq_true hv508
    omega, hF.tr (((Fr.rf.tr (Fw501.mono (fun i hi => by omega))).tr (Fw511.mono (fun i hi => by omega))).tr (Fw512.mono (fun i hi => by omega)))⟩
      · refine x_aload_n dX3_next_103 rfl ?_
        refine x_callV m_X3_readNumeral l_X3_104 (c_readNumeral hT (by omega) ⟨gw501, (Fw501.at (by omega) d1), (Fw501.at (by omega) d2), lt1, (by first | exact lt2 | (rw [List.length_set]; exact lt2))⟩) rfl gw501 (by omega) rfl rfl (Nat.le_of_ble_eq_true rfl) ⟨Nat.le_refl _, Nat.le_refl _⟩ dX3_next_104 (fun r513 s513 q513 => ?_)
        obtain ⟨rfl, h513, F513⟩ := q513
        refine x_stk (st' := []) rfl ?_
        refine x_goto (tgt := 152) dX3_next_107 (by decide) ?_
        exact x_vret ⟨Nat.le_refl _, Nat.le_refl _⟩ rfl dX3_next_152 ⟨rfl, _, by rw [tkN, tkK, if_neg (show ¬ L.length ≤ (lexP L p) by omega), if_neg (show ¬ L.length ≤ (lexP L p) by omega), if_neg (show ¬ isLt (L.getD (lexP L p) 0) = true by rw [hv504]; decide), if_neg (show ¬ isLt (L.getD (lexP L p) 0) = true by rw [hv504]; decide), if_pos hv506, if_pos hv506]; exact h513, fun q => by rw [tkV, if_neg (show ¬ isLt (L.getD (lexP L p) 0) = true by rw [hv504]; decide)], hF.tr ((Fr.rf.tr (Fw501.mono (fun i hi => by omega))).tr (F513.mono (fun i hi => by omega)))⟩
    · refine x_aload_n dX3_next_81 rfl ?_
      refine x_callV m_X3_readWord l_X3_98 (c_readWord hT (by omega) ⟨gw501, (Fw501.at (by omega) d1), (Fw501.at (by omega) d2), lt1, (by first | exact lt2 | (rw [List.length_set]; exact lt2))⟩) rfl gw501 (by omega) rfl rfl (Nat.le_of_ble_eq_true rfl) ⟨Nat.le_refl _, Nat.le_refl _⟩ dX3_next_82 (fun r514 s514 q514 => ?_)
      obtain ⟨rfl, tv514, h514, v514, F514⟩ := q514
      refine x_stk (st' := []) rfl ?_
      refine x_goto (tgt := 152) dX3_next_85 (by decide) ?_
      exact x_vret ⟨Nat.le_refl _, Nat.le_refl _⟩ rfl dX3_next_152 ⟨rfl, tv514, by rw [tkN, tkK, if_neg (show ¬ L.length ≤ (lexP L p) by omega), if_neg (show ¬ L.length ≤ (lexP L p) by omega), if_pos hv504, if_pos hv504]; exact h514, fun q => by
    rw [tkK, if_neg (show ¬ L.length ≤ (lexP L p) by omega), if_pos hv504] at q
    rw [tkV, if_pos hv504]
    exact word_v v514 q, hF.tr ((Fr.rf.tr (Fw501.mono (fun i hi => by omega))).tr (F514.mono (fun i hi => by omega)))⟩
  · refine x_aload_n dX3_next_58 rfl ?_
    refine x_iconst (v := nI 0) dX3_next_59 (by decide) ?_
    refine x_putK f_X3_47 gw501 (Nat.le_of_ble_eq_true rfl) (fun c => ⟨rfl, rfl⟩) dX3_next_60 (fun sw515 gw515 Fw515 => ?_)
    refine x_goto (tgt := 152) dX3_next_63 (by decide) ?_
    exact x_vret ⟨Nat.le_refl _, Nat.le_refl _⟩ rfl dX3_next_152 ⟨rfl, tv, by rw [tkN, tkK, if_pos (show L.length ≤ (lexP L p) by omega), if_pos (show L.length ≤ (lexP L p) by omega)]; exact ⟨gw515, (Fw515.at (by omega) (Fw501.at (by omega) d1)), (Fw515.at (by omega) (Fw501.at (by omega) d2)), lt1, (by first | exact lt2 | (rw [List.length_set]; exact lt2))⟩, fun q => absurd q (by rw [tkK, if_pos (show L.length ≤ (lexP L p) by omega)]; omega), hF.tr ((Fr.rf.tr (Fw501.mono (fun i hi => by omega))).tr (Fw515.mono (fun i hi => by omega)))⟩
