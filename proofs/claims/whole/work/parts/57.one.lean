set_option maxHeartbeats 4000000 in
theorem c_not_ok0 {L : List Nat} {Tp : List Int32} {lf jf : Int32} {op dd kq : Nat} (hT : TxL L Tp) (hod : op + dd = 5) (hN : 0 < dd → CR kq M_X3_readNot (op + 1) L Tp lf jf (pNot L (dd - 1))) (hS9 : CR kq M_X3_readSum op L Tp lf jf (pSum L dd)) (hGN : 0 < dd → ∀ p, p ≤ L.length → Good L p (pNot L (dd - 1) p)) (hGS : ∀ p, p ≤ L.length → Good L p (pSum L dd p)) {σ : ZS} {S : List Nat} {p : Nat} (hO : RdOk σ L Tp lf jf S p) (hle : S.length ≤ p) (hp : p ≤ L.length) : Cn (kq + 9) M_X3_readNot 0 0 [.ref 28, .int (nI op)] σ (fun r9 σ' => r9 = none ∧ RdR σ' L Tp lf jf S (pNot L dd p) ∧ Fr (fun i => i = 28 ∨ i = 30) σ σ') := by
  obtain ⟨tv, St, h, hv, hS, hl⟩ := id hO
  obtain ⟨d_0, d_1, d_2, lt1, lt2⟩ := id h
  have hL := hT.1
  have hk9 := tkK_lt (L := L) (p := p)
  refine Cn.intro (lv0 := [some (.ref 28), some (.int (nI op)), none]) rfl (Nat.le_of_ble_eq_true rfl) rfl (fun d hd => ?_)
  refine x_aload_n dX3_readNot_0 rfl ?_
  refine x_get (v := .int (nI ((tkK L p)))) f_X3_47 d_0 rfl dX3_readNot_1 ?_
  refine x_bipush (v := nI 10) dX3_readNot_4 (by decide) ?_
  refine x_icmpN_ne (tgt := 32) dX3_readNot_6 (by decide) (by omega) (by omega) (fun hv1 => ?_) (fun hv1 => ?_)
  · refine x_aload_n dX3_readNot_32 rfl ?_
    refine x_iload_n dX3_readNot_33 rfl ?_
    refine x_callV m_X3_readSum l_X3_77 (hS9 σ S p hO (by first | omega | (simp only [List.length_append] at *; omega)) (by omega)) rfl d_0 (by omega) rfl rfl (Nat.le_of_ble_eq_true rfl) ⟨Nat.le_refl _, Nat.le_refl _⟩ dX3_readNot_34 (fun r2 s2 q2 => ?_)
    obtain ⟨rfl, hR2, F2⟩ := q2
    refine x_stk (st' := []) rfl ?_
    rcases hs2 : (pSum L dd) p with e2 | ⟨a2, b2⟩
    · have hO2 : RdFt s2 L Tp lf jf e2 := by rw [hs2] at hR2; exact hR2
      obtain ⟨ap2, tp2, tv2, sc2, St2, h2, hsc2, hf2⟩ := id hO2
      obtain ⟨d2_0, d2_1, d2_2, lt12, lt22⟩ := id h2
      refine x_aload_n dX3_readNot_37 rfl ?_
      refine x_get (v := .int (nI 1)) f_X3_47 d2_0 rfl dX3_readNot_38 ?_
      refine x_bipush (v := nI 60) dX3_readNot_41 (by decide) ?_
      refine x_icmpN_eq (tgt := 55) dX3_readNot_43 (by decide) (by omega) (by omega) (fun hv3 => ?_) (fun hv3 => ?_)
      · exact absurd hv3 (by decide)
      · refine x_aload_n dX3_readNot_46 rfl ?_
        refine x_get (v := .int (nI 1)) f_X3_47 d2_0 rfl dX3_readNot_47 ?_
        refine x_bipush (v := nI 61) dX3_readNot_50 (by decide) ?_
        refine x_icmpN_ne (tgt := 78) dX3_readNot_52 (by decide) (by omega) (by omega) (fun hv4 => ?_) (fun hv4 => ?_)
        · exact x_vret ⟨Nat.le_refl _, Nat.le_refl _⟩ rfl dX3_readNot_78 ⟨rfl, by rw [pNot_eq, if_neg hv1, pCmp, hs2]; exact hO2, (Fr.rf.tr (F2.mono (fun i hi => by omega)))⟩
        · exact absurd hv4 (by decide)
    · have hO2 : RdOk s2 L Tp lf jf (S ++ a2) b2 := by rw [hs2] at hR2; exact hR2
      have hg2 := hGS p (by omega) _ _ hs2
      obtain ⟨tv2, St2, h2, hv2, hS2, hl2⟩ := id hO2
      obtain ⟨d2_0, d2_1, d2_2, lt12, lt22⟩ := id h2
      have hk92 := tkK_lt (L := L) (p := b2)
      refine x_aload_n dX3_readNot_37 rfl ?_
      refine x_get (v := .int (nI ((tkK L b2)))) f_X3_47 d2_0 rfl dX3_readNot_38 ?_
      refine x_bipush (v := nI 60) dX3_readNot_41 (by decide) ?_
      refine x_icmpN_eq (tgt := 55) dX3_readNot_43 (by decide) (by omega) (by omega) (fun hv5 => ?_) (fun hv5 => ?_)
      · refine x_aload_n dX3_readNot_55 rfl ?_
        refine x_get (v := .int (nI ((tkK L b2)))) f_X3_47 d2_0 rfl dX3_readNot_56 ?_
        refine x_istore_n dX3_readNot_59 (by decide) rfl ?_
        refine x_lv (lv' := [some (.ref 28), some (.int (nI op)), some (.int (nI ((tkK L b2))))]) rfl ?_
        refine x_aload_n dX3_readNot_60 rfl ?_
        refine x_callV m_X3_next l_X3_31 (c_next_ok hT hO2 (by omega)) rfl d2_0 (by omega) rfl rfl (Nat.le_of_ble_eq_true rfl) ⟨Nat.le_refl _, Nat.le_refl _⟩ dX3_readNot_61 (fun r6 s6 q6 => ?_)
        obtain ⟨rfl, hO6, F6⟩ := q6
        obtain ⟨tv6, St6, h6, hv6, hS6, hl6⟩ := id hO6
        obtain ⟨d6_0, d6_1, d6_2, lt16, lt26⟩ := id h6
        have hn6 := tkN_b (show b2 ≤ L.length by omega)
        have hl96 := lexP_b (show b2 ≤ L.length by omega)
        refine x_stk (st' := []) rfl ?_
        refine x_aload_n dX3_readNot_64 rfl ?_
        refine x_iload_n dX3_readNot_65 rfl ?_
        refine x_callV m_X3_readSum l_X3_77 (hS9 s6 (S ++ a2) (tkN L b2) hO6 (by first | omega | (simp only [List.length_append] at *; omega)) (by omega)) rfl d6_0 (by omega) rfl rfl (Nat.le_of_ble_eq_true rfl) ⟨Nat.le_refl _, Nat.le_refl _⟩ dX3_readNot_66 (fun r7 s7 q7 => ?_)
        obtain ⟨rfl, hR7, F7⟩ := q7
        refine x_stk (st' := []) rfl ?_
        rcases hs7 : (pSum L dd) (tkN L b2) with e7 | ⟨a7, b7⟩
        · have hO7 : RdFt s7 L Tp lf jf e7 := by rw [hs7] at hR7; exact hR7
          obtain ⟨ap7, tp7, tv7, sc7, St7, h7, hsc7, hf7⟩ := id hO7
          obtain ⟨d7_0, d7_1, d7_2, lt17, lt27⟩ := id h7
          refine x_aload_n dX3_readNot_69 rfl ?_
          refine x_sipush (v := nI 20000) dX3_readNot_70 (by decide) ?_
          refine x_iload_n dX3_readNot_73 rfl ?_
          refine x_iaddN dX3_readNot_74 ?_
          refine x_callV m_X3_add l_X3_67 (c_add_ft hT hO7) rfl d7_0 (by omega) rfl rfl (Nat.le_of_ble_eq_true rfl) ⟨Nat.le_refl _, Nat.le_refl _⟩ dX3_readNot_75 (fun r8 s8 q8 => ?_)
          obtain ⟨rfl, hO8, F8⟩ := q8
          obtain ⟨ap8, tp8, tv8, sc8, St8, h8, hsc8, hf8⟩ := id hO8
          obtain ⟨d8_0, d8_1, d8_2, lt18, lt28⟩ := id h8
          refine x_stk (st' := []) rfl ?_
          exact x_vret ⟨Nat.le_refl _, Nat.le_refl _⟩ rfl dX3_readNot_78 ⟨rfl, by rw [pNot_eq, if_neg hv1, pCmp, hs2]; simp only; rw [if_pos (by omega), hs7]; exact hO8, ((((Fr.rf.tr (F2.mono (fun i hi => by omega))).tr (F6.mono (fun i hi => by omega))).tr (F7.mono (fun i hi => by omega))).tr (F8.mono (fun i hi => by omega)))⟩
        · have hO7 : RdOk s7 L Tp lf jf ((S ++ a2) ++ a7) b7 := by rw [hs7] at hR7; exact hR7
          have hg7 := hGS (tkN L b2) (by omega) _ _ hs7
          obtain ⟨tv7, St7, h7, hv7, hS7, hl7⟩ := id hO7
          obtain ⟨d7_0, d7_1, d7_2, lt17, lt27⟩ := id h7
          have hk97 := tkK_lt (L := L) (p := b7)
          refine x_aload_n dX3_readNot_69 rfl ?_
          refine x_sipush (v := nI 20000) dX3_readNot_70 (by decide) ?_
          refine x_iload_n dX3_readNot_73 rfl ?_
          refine x_iaddN dX3_readNot_74 ?_
          refine x_callV m_X3_add l_X3_67 (c_add_ok hT hO7 (by first | omega | (simp only [List.length_append] at *; omega))) rfl d7_0 (by omega) rfl rfl (Nat.le_of_ble_eq_true rfl) ⟨Nat.le_refl _, Nat.le_refl _⟩ dX3_readNot_75 (fun r9 s9 q9 => ?_)
          obtain ⟨rfl, hO9, F9⟩ := q9
          obtain ⟨tv9, St9, h9, hv9, hS9, hl9⟩ := id hO9
          obtain ⟨d9_0, d9_1, d9_2, lt19, lt29⟩ := id h9
          refine x_stk (st' := []) rfl ?_
          exact x_vret ⟨Nat.le_refl _, Nat.le_refl _⟩ rfl dX3_readNot_78 ⟨rfl, by rw [pNot_eq, if_neg hv1, pCmp, hs2]; simp only; rw [if_pos (by omega), hs7]; have e := hO9; simp only [List.append_assoc] at e ⊢; exact e, ((((Fr.rf.tr (F2.mono (fun i hi => by omega))).tr (F6.mono (fun i hi => by omega))).tr (F7.mono (fun i hi => by omega))).tr (F9.mono (fun i hi => by omega)))⟩
      · refine x_aload_n dX3_readNot_46 rfl ?_
        refine x_get (v := .int (nI ((tkK L b2)))) f_X3_47 d2_0 rfl dX3_readNot_47 ?_
        refine x_bipush (v := nI 61) dX3_readNot_50 (by decide) ?_
        refine x_icmpN_ne (tgt := 78) dX3_readNot_52 (by decide) (by omega) (by omega) (fun hv10 => ?_) (fun hv10 => ?_)
        · exact x_vret ⟨Nat.le_refl _, Nat.le_refl _⟩ rfl dX3_readNot_78 ⟨rfl, by rw [pNot_eq, if_neg hv1, pCmp, hs2]; simp only; rw [if_neg (by omega)]; exact hO2, (Fr.rf.tr (F2.mono (fun i hi => by omega)))⟩
        · refine x_aload_n dX3_readNot_55 rfl ?_
          refine x_get (v := .int (nI ((tkK L b2)))) f_X3_47 d2_0 rfl dX3_readNot_56 ?_
          refine x_istore_n dX3_readNot_59 (by decide) rfl ?_
          refine x_lv (lv' := [some (.ref 28), some (.int (nI op)), some (.int (nI ((tkK L b2))))]) rfl ?_
          refine x_aload_n dX3_readNot_60 rfl ?_
          refine x_callV m_X3_next l_X3_31 (c_next_ok hT hO2 (by omega)) rfl d2_0 (by omega) rfl rfl (Nat.le_of_ble_eq_true rfl) ⟨Nat.le_refl _, Nat.le_refl _⟩ dX3_readNot_61 (fun r11 s11 q11 => ?_)
          obtain ⟨rfl, hO11, F11⟩ := q11
          obtain ⟨tv11, St11, h11, hv11, hS11, hl11⟩ := id hO11
          obtain ⟨d11_0, d11_1, d11_2, lt111, lt211⟩ := id h11
          have hn11 := tkN_b (show b2 ≤ L.length by omega)
          have hl911 := lexP_b (show b2 ≤ L.length by omega)
          refine x_stk (st' := []) rfl ?_
          refine x_aload_n dX3_readNot_64 rfl ?_
          refine x_iload_n dX3_readNot_65 rfl ?_
          refine x_callV m_X3_readSum l_X3_77 (hS9 s11 (S ++ a2) (tkN L b2) hO11 (by first | omega | (simp only [List.length_append] at *; omega)) (by omega)) rfl d11_0 (by omega) rfl rfl (Nat.le_of_ble_eq_true rfl) ⟨Nat.le_refl _, Nat.le_refl _⟩ dX3_readNot_66 (fun r12 s12 q12 => ?_)
          obtain ⟨rfl, hR12, F12⟩ := q12
          refine x_stk (st' := []) rfl ?_
          rcases hs12 : (pSum L dd) (tkN L b2) with e12 | ⟨a12, b12⟩
          · have hO12 : RdFt s12 L Tp lf jf e12 := by rw [hs12] at hR12; exact hR12
            obtain ⟨ap12, tp12, tv12, sc12, St12, h12, hsc12, hf12⟩ := id hO12
            obtain ⟨d12_0, d12_1, d12_2, lt112, lt212⟩ := id h12
            refine x_aload_n dX3_readNot_69 rfl ?_
            refine x_sipush (v := nI 20000) dX3_readNot_70 (by decide) ?_
            refine x_iload_n dX3_readNot_73 rfl ?_
            refine x_iaddN dX3_readNot_74 ?_
            refine x_callV m_X3_add l_X3_67 (c_add_ft hT hO12) rfl d12_0 (by omega) rfl rfl (Nat.le_of_ble_eq_true rfl) ⟨Nat.le_refl _, Nat.le_refl _⟩ dX3_readNot_75 (fun r13 s13 q13 => ?_)
            obtain ⟨rfl, hO13, F13⟩ := q13
            obtain ⟨ap13, tp13, tv13, sc13, St13, h13, hsc13, hf13⟩ := id hO13
            obtain ⟨d13_0, d13_1, d13_2, lt113, lt213⟩ := id h13
            refine x_stk (st' := []) rfl ?_
            exact x_vret ⟨Nat.le_refl _, Nat.le_refl _⟩ rfl dX3_readNot_78 ⟨rfl, by rw [pNot_eq, if_neg hv1, pCmp, hs2]; simp only; rw [if_pos (by omega), hs12]; exact hO13, ((((Fr.rf.tr (F2.mono (fun i hi => by omega))).tr (F11.mono (fun i hi => by omega))).tr (F12.mono (fun i hi => by omega))).tr (F13.mono (fun i hi => by omega)))⟩
          · have hO12 : RdOk s12 L Tp lf jf ((S ++ a2) ++ a12) b12 := by rw [hs12] at hR12; exact hR12
            have hg12 := hGS (tkN L b2) (by omega) _ _ hs12
            obtain ⟨tv12, St12, h12, hv12, hS12, hl12⟩ := id hO12
            obtain ⟨d12_0, d12_1, d12_2, lt112, lt212⟩ := id h12
            have hk912 := tkK_lt (L := L) (p := b12)
            refine x_aload_n dX3_readNot_69 rfl ?_
            refine x_sipush (v := nI 20000) dX3_readNot_70 (by decide) ?_
            refine x_iload_n dX3_readNot_73 rfl ?_
            refine x_iaddN dX3_readNot_74 ?_
            refine x_callV m_X3_add l_X3_67 (c_add_ok hT hO12 (by first | omega | (simp only [List.length_append] at *; omega))) rfl d12_0 (by omega) rfl rfl (Nat.le_of_ble_eq_true rfl) ⟨Nat.le_refl _, Nat.le_refl _⟩ dX3_readNot_75 (fun r14 s14 q14 => ?_)
            obtain ⟨rfl, hO14, F14⟩ := q14
            obtain ⟨tv14, St14, h14, hv14, hS14, hl14⟩ := id hO14
            obtain ⟨d14_0, d14_1, d14_2, lt114, lt214⟩ := id h14
            refine x_stk (st' := []) rfl ?_
            exact x_vret ⟨Nat.le_refl _, Nat.le_refl _⟩ rfl dX3_readNot_78 ⟨rfl, by rw [pNot_eq, if_neg hv1, pCmp, hs2]; simp only; rw [if_pos (by omega), hs12]; have e := hO14; simp only [List.append_assoc] at e ⊢; exact e, ((((Fr.rf.tr (F2.mono (fun i hi => by omega))).tr (F11.mono (fun i hi => by omega))).tr (F12.mono (fun i hi => by omega))).tr (F14.mono (fun i hi => by omega)))⟩
  · refine x_aload_n dX3_readNot_9 rfl ?_
    rcases Nat.eq_zero_or_pos dd with hd0 | hd0
    · skip
      refine x_iload_n dX3_readNot_10 rfl ?_
      refine x_callV m_X3_opens l_X3_73 (c_opens_no hT hO (by omega) (by omega)) rfl d_0 (by omega) rfl rfl (Nat.le_of_ble_eq_true rfl) ⟨Nat.le_refl _, Nat.le_refl _⟩ dX3_readNot_11 (fun r15 s15 q15 => ?_)
      obtain ⟨rfl, hO15, F15⟩ := q15
      obtain ⟨ap15, tp15, tv15, sc15, St15, h15, hsc15, hf15⟩ := id hO15
      obtain ⟨d15_0, d15_1, d15_2, lt115, lt215⟩ := id h15
      refine x_stk (st' := [.int (nI 0)]) rfl ?_
      refine x_ifN_eq (tgt := 31) dX3_readNot_14 (by decide) (by omega) (fun hv16 => ?_) (fun hv16 => ?_)
      · exact x_vret ⟨Nat.le_refl _, Nat.le_refl _⟩ rfl dX3_readNot_31 ⟨rfl, by rw [pNot_eq, if_pos hv1, if_pos hd0]; exact hO15, (Fr.rf.tr (F15.mono (fun i hi => by omega)))⟩
      · exact absurd hv16 (by decide)
    · skip
      refine x_iload_n dX3_readNot_10 rfl ?_
      refine x_callV m_X3_opens l_X3_73 (c_opens_yes hT hO (by omega) (by omega)) rfl d_0 (by omega) rfl rfl (Nat.le_of_ble_eq_true rfl) ⟨Nat.le_refl _, Nat.le_refl _⟩ dX3_readNot_11 (fun r17 s17 q17 => ?_)
      obtain ⟨rfl, hO17, F17⟩ := q17
      obtain ⟨tv17, St17, h17, hv17, hS17, hl17⟩ := id hO17
      obtain ⟨d17_0, d17_1, d17_2, lt117, lt217⟩ := id h17
      have hn17 := tkN_b (show p ≤ L.length by omega)
      have hl917 := lexP_b (show p ≤ L.length by omega)
      refine x_stk (st' := [.int (nI 1)]) rfl ?_
      refine x_ifN_eq (tgt := 31) dX3_readNot_14 (by decide) (by omega) (fun hv18 => ?_) (fun hv18 => ?_)
      · exact absurd hv18 (by decide)
      · refine x_aload_n dX3_readNot_17 rfl ?_
        refine x_iload_n dX3_readNot_18 rfl ?_
        refine x_iconst (v := nI 1) dX3_readNot_19 (by decide) ?_
        refine x_iaddN dX3_readNot_20 ?_
        refine x_callV m_X3_readNot l_X3_70 ((hN hd0) s17 S (tkN L p) hO17 (by first | omega | (simp only [List.length_append] at *; omega)) (by omega)) rfl d17_0 (by omega) rfl rfl (Nat.le_of_ble_eq_true rfl) ⟨Nat.le_refl _, Nat.le_refl _⟩ dX3_readNot_21 (fun r19 s19 q19 => ?_)
        obtain ⟨rfl, hR19, F19⟩ := q19
        refine x_stk (st' := []) rfl ?_
        rcases hs19 : (pNot L (dd - 1)) (tkN L p) with e19 | ⟨a19, b19⟩
        · have hO19 : RdFt s19 L Tp lf jf e19 := by rw [hs19] at hR19; exact hR19
          obtain ⟨ap19, tp19, tv19, sc19, St19, h19, hsc19, hf19⟩ := id hO19
          obtain ⟨d19_0, d19_1, d19_2, lt119, lt219⟩ := id h19
          refine x_aload_n dX3_readNot_24 rfl ?_
          refine x_sipush (v := nI 20010) dX3_readNot_25 (by decide) ?_
          refine x_callV m_X3_add l_X3_67 (c_add_ft hT hO19) rfl d19_0 (by omega) rfl rfl (Nat.le_of_ble_eq_true rfl) ⟨Nat.le_refl _, Nat.le_refl _⟩ dX3_readNot_28 (fun r20 s20 q20 => ?_)
          obtain ⟨rfl, hO20, F20⟩ := q20
          obtain ⟨ap20, tp20, tv20, sc20, St20, h20, hsc20, hf20⟩ := id hO20
          obtain ⟨d20_0, d20_1, d20_2, lt120, lt220⟩ := id h20
          refine x_stk (st' := []) rfl ?_
          exact x_vret ⟨Nat.le_refl _, Nat.le_refl _⟩ rfl dX3_readNot_31 ⟨rfl, by rw [pNot_eq, if_pos hv1, if_neg (by omega), hs19]; exact hO20, (((Fr.rf.tr (F17.mono (fun i hi => by omega))).tr (F19.mono (fun i hi => by omega))).tr (F20.mono (fun i hi => by omega)))⟩
        · have hO19 : RdOk s19 L Tp lf jf (S ++ a19) b19 := by rw [hs19] at hR19; exact hR19
          have hg19 := (hGN hd0) (tkN L p) (by omega) _ _ hs19
          obtain ⟨tv19, St19, h19, hv19, hS19, hl19⟩ := id hO19
          obtain ⟨d19_0, d19_1, d19_2, lt119, lt219⟩ := id h19
          have hk919 := tkK_lt (L := L) (p := b19)
          refine x_aload_n dX3_readNot_24 rfl ?_
          refine x_sipush (v := nI 20010) dX3_readNot_25 (by decide) ?_
          refine x_callV m_X3_add l_X3_67 (c_add_ok hT hO19 (by first | omega | (simp only [List.length_append] at *; omega))) rfl d19_0 (by omega) rfl rfl (Nat.le_of_ble_eq_true rfl) ⟨Nat.le_refl _, Nat.le_refl _⟩ dX3_readNot_28 (fun r21 s21 q21 => ?_)
          obtain ⟨rfl, hO21, F21⟩ := q21
          obtain ⟨tv21, St21, h21, hv21, hS21, hl21⟩ := id hO21
          obtain ⟨d21_0, d21_1, d21_2, lt121, lt221⟩ := id h21
          refine x_stk (st' := []) rfl ?_
          exact x_vret ⟨Nat.le_refl _, Nat.le_refl _⟩ rfl dX3_readNot_31 ⟨rfl, by rw [pNot_eq, if_pos hv1, if_neg (by omega), hs19]; have e := hO21; rw [List.append_assoc] at e; exact e, (((Fr.rf.tr (F17.mono (fun i hi => by omega))).tr (F19.mono (fun i hi => by omega))).tr (F21.mono (fun i hi => by omega)))⟩
set_option maxHeartbeats 4000000 in
theorem c_one_ok0 {L : List Nat} {Tp : List Int32} {lf jf : Int32} {op dd kq : Nat} (hT : TxL L Tp) (hod : op + dd = 5) (hOn : 0 < dd → CR kq M_X3_readOne (op + 1) L Tp lf jf (pOne L (dd - 1))) (hE : 0 < dd → CR kq M_X3_readEither (op + 1) L Tp lf jf (pEi L (dd - 1))) (hGO : 0 < dd → ∀ p, p ≤ L.length → Good L p (pOne L (dd - 1) p)) (hGE : 0 < dd → ∀ p, p ≤ L.length → Good L p (pEi L (dd - 1) p)) {σ : ZS} {S : List Nat} {p : Nat} (hO : RdOk σ L Tp lf jf S p) (hle : S.length ≤ p) (hp : p ≤ L.length) : Cn (kq + 9) M_X3_readOne 0 0 [.ref 28, .int (nI op)] σ (fun r9 σ' => r9 = none ∧ RdR σ' L Tp lf jf S (pOne L dd p) ∧ Fr (fun i => i = 28 ∨ i = 30) σ σ') := by
  obtain ⟨tv, St, h, hv, hS, hl⟩ := id hO
  obtain ⟨d_0, d_1, d_2, lt1, lt2⟩ := id h
  have hL := hT.1
  have hk9 := tkK_lt (L := L) (p := p)
  have hlp := lexP_b hp
  have hnp := tkN_b hp
  refine Cn.intro (lv0 := [some (.ref 28), some (.int (nI op))]) rfl (Nat.le_of_ble_eq_true rfl) rfl (fun d hd => ?_)
  refine x_aload_n dX3_readOne_0 rfl ?_
  refine x_get (v := .int (nI ((tkK L p)))) f_X3_47 d_0 rfl dX3_readOne_1 ?_
  obtain ⟨kk, hkk⟩ : ∃ kk, tkK L p = kk := ⟨_, rfl⟩
  refine x_topi (y := nI kk) (by rw [hkk]) ?_
  rcases (show kk = 2 ∨ kk = 3 ∨ kk = 40 ∨ kk = 45 ∨ (kk ≠ 2 ∧ kk ≠ 3 ∧ kk ≠ 40 ∧ kk ≠ 45) by omega) with rfl | rfl | rfl | rfl | hv1
  · refine x_lookup (off := 44) (tgt := 48) dX3_readOne_4 (by decide) (by decide) (by decide) ?_
    refine x_aload_n dX3_readOne_48 rfl ?_
    refine x_aload_n dX3_readOne_49 rfl ?_
    refine x_get (v := .int tv) f_X3_86 d_0 rfl dX3_readOne_50 ?_
    refine x_topi (y := nI ((tkV L p))) (hv (Or.inl hkk)) ?_
    refine x_callV m_X3_add l_X3_67 (c_add_ok hT hO (by first | omega | (simp only [List.length_append] at *; omega))) rfl d_0 (by omega) rfl rfl (Nat.le_of_ble_eq_true rfl) ⟨Nat.le_refl _, Nat.le_refl _⟩ dX3_readOne_53 (fun r2 s2 q2 => ?_)
    obtain ⟨rfl, hO2, F2⟩ := q2
    obtain ⟨tv2, St2, h2, hv2, hS2, hl2⟩ := id hO2
    obtain ⟨d2_0, d2_1, d2_2, lt12, lt22⟩ := id h2
    refine x_stk (st' := []) rfl ?_
    refine x_aload_n dX3_readOne_56 rfl ?_
    refine x_callV m_X3_next l_X3_31 (c_next_ok hT hO2 (by omega)) rfl d2_0 (by omega) rfl rfl (Nat.le_of_ble_eq_true rfl) ⟨Nat.le_refl _, Nat.le_refl _⟩ dX3_readOne_57 (fun r3 s3 q3 => ?_)
    obtain ⟨rfl, hO3, F3⟩ := q3
    obtain ⟨tv3, St3, h3, hv3, hS3, hl3⟩ := id hO3
    obtain ⟨d3_0, d3_1, d3_2, lt13, lt23⟩ := id h3
    have hn3 := tkN_b (show p ≤ L.length by omega)
    have hl93 := lexP_b (show p ≤ L.length by omega)
    refine x_stk (st' := []) rfl ?_
    exact x_vret ⟨Nat.le_refl _, Nat.le_refl _⟩ rfl dX3_readOne_60 ⟨rfl, by rw [pOne_eq, if_pos hkk]; exact hO3, ((Fr.rf.tr (F2.mono (fun i hi => by omega))).tr (F3.mono (fun i hi => by omega)))⟩
  · refine x_lookup (off := 57) (tgt := 61) dX3_readOne_4 (by decide) (by decide) (by decide) ?_
    refine x_aload_n dX3_readOne_61 rfl ?_
    refine x_sipush (v := nI 10000) dX3_readOne_62 (by decide) ?_
    refine x_aload_n dX3_readOne_65 rfl ?_
    refine x_get (v := .int tv) f_X3_86 d_0 rfl dX3_readOne_66 ?_
    refine x_topi (y := nI ((tkV L p))) (hv (Or.inr hkk)) ?_
    refine x_iaddN dX3_readOne_69 ?_
    refine x_callV m_X3_add l_X3_67 (c_add_ok hT hO (by first | omega | (simp only [List.length_append] at *; omega))) rfl d_0 (by omega) rfl rfl (Nat.le_of_ble_eq_true rfl) ⟨Nat.le_refl _, Nat.le_refl _⟩ dX3_readOne_70 (fun r4 s4 q4 => ?_)
    obtain ⟨rfl, hO4, F4⟩ := q4
    obtain ⟨tv4, St4, h4, hv4, hS4, hl4⟩ := id hO4
    obtain ⟨d4_0, d4_1, d4_2, lt14, lt24⟩ := id h4
    refine x_stk (st' := []) rfl ?_
    refine x_aload_n dX3_readOne_73 rfl ?_
    refine x_callV m_X3_next l_X3_31 (c_next_ok hT hO4 (by omega)) rfl d4_0 (by omega) rfl rfl (Nat.le_of_ble_eq_true rfl) ⟨Nat.le_refl _, Nat.le_refl _⟩ dX3_readOne_74 (fun r5 s5 q5 => ?_)
    obtain ⟨rfl, hO5, F5⟩ := q5
    obtain ⟨tv5, St5, h5, hv5, hS5, hl5⟩ := id hO5
    obtain ⟨d5_0, d5_1, d5_2, lt15, lt25⟩ := id h5
    have hn5 := tkN_b (show p ≤ L.length by omega)
    have hl95 := lexP_b (show p ≤ L.length by omega)
    refine x_stk (st' := []) rfl ?_
    exact x_vret ⟨Nat.le_refl _, Nat.le_refl _⟩ rfl dX3_readOne_77 ⟨rfl, by rw [pOne_eq, if_neg (by omega), if_pos hkk]; exact hO5, ((Fr.rf.tr (F4.mono (fun i hi => by omega))).tr (F5.mono (fun i hi => by omega)))⟩
  · refine x_lookup (off := 97) (tgt := 101) dX3_readOne_4 (by decide) (by decide) (by decide) ?_
    refine x_aload_n dX3_readOne_101 rfl ?_
    rcases Nat.eq_zero_or_pos dd with hd0 | hd0
    · skip
      refine x_iload_n dX3_readOne_102 rfl ?_
      refine x_callV m_X3_opens l_X3_73 (c_opens_no hT hO (by omega) (by omega)) rfl d_0 (by omega) rfl rfl (Nat.le_of_ble_eq_true rfl) ⟨Nat.le_refl _, Nat.le_refl _⟩ dX3_readOne_103 (fun r6 s6 q6 => ?_)
      obtain ⟨rfl, hO6, F6⟩ := q6
      obtain ⟨ap6, tp6, tv6, sc6, St6, h6, hsc6, hf6⟩ := id hO6
      obtain ⟨d6_0, d6_1, d6_2, lt16, lt26⟩ := id h6
      refine x_stk (st' := [.int (nI 0)]) rfl ?_
      refine x_ifN_eq (tgt := 122) dX3_readOne_106 (by decide) (by omega) (fun hv7 => ?_) (fun hv7 => ?_)
      · exact x_vret ⟨Nat.le_refl _, Nat.le_refl _⟩ rfl dX3_readOne_122 ⟨rfl, by rw [pOne_eq, if_neg (by omega), if_neg (by omega), if_neg (by omega), if_pos hkk, if_pos hd0]; exact hO6, (Fr.rf.tr (F6.mono (fun i hi => by omega)))⟩
      · exact absurd hv7 (by decide)
    · skip
      refine x_iload_n dX3_readOne_102 rfl ?_
      refine x_callV m_X3_opens l_X3_73 (c_opens_yes hT hO (by omega) (by omega)) rfl d_0 (by omega) rfl rfl (Nat.le_of_ble_eq_true rfl) ⟨Nat.le_refl _, Nat.le_refl _⟩ dX3_readOne_103 (fun r8 s8 q8 => ?_)
      obtain ⟨rfl, hO8, F8⟩ := q8
      obtain ⟨tv8, St8, h8, hv8, hS8, hl8⟩ := id hO8
      obtain ⟨d8_0, d8_1, d8_2, lt18, lt28⟩ := id h8
      have hn8 := tkN_b (show p ≤ L.length by omega)
      have hl98 := lexP_b (show p ≤ L.length by omega)
      refine x_stk (st' := [.int (nI 1)]) rfl ?_
      refine x_ifN_eq (tgt := 122) dX3_readOne_106 (by decide) (by omega) (fun hv9 => ?_) (fun hv9 => ?_)
      · exact absurd hv9 (by decide)
      · refine x_aload_n dX3_readOne_109 rfl ?_
        refine x_iload_n dX3_readOne_110 rfl ?_
        refine x_iconst (v := nI 1) dX3_readOne_111 (by decide) ?_
        refine x_iaddN dX3_readOne_112 ?_
        refine x_callV m_X3_readEither l_X3_38 ((hE hd0) s8 S (tkN L p) hO8 (by first | omega | (simp only [List.length_append] at *; omega)) (by omega)) rfl d8_0 (by omega) rfl rfl (Nat.le_of_ble_eq_true rfl) ⟨Nat.le_refl _, Nat.le_refl _⟩ dX3_readOne_113 (fun r10 s10 q10 => ?_)
        obtain ⟨rfl, hR10, F10⟩ := q10
        refine x_stk (st' := []) rfl ?_
        rcases hs10 : (pEi L (dd - 1)) (tkN L p) with e10 | ⟨a10, b10⟩
        · have hO10 : RdFt s10 L Tp lf jf e10 := by rw [hs10] at hR10; exact hR10
          obtain ⟨ap10, tp10, tv10, sc10, St10, h10, hsc10, hf10⟩ := id hO10
          obtain ⟨d10_0, d10_1, d10_2, lt110, lt210⟩ := id h10
          refine x_aload_n dX3_readOne_116 rfl ?_
          refine x_bipush (v := nI 41) dX3_readOne_117 (by decide) ?_
          refine x_callV m_X3_expect l_X3_34 (c_expect_ft hT hO10 (by omega) (by omega)) rfl d10_0 (by omega) rfl rfl (Nat.le_of_ble_eq_true rfl) ⟨Nat.le_refl _, Nat.le_refl _⟩ dX3_readOne_119 (fun r11 s11 q11 => ?_)
          obtain ⟨rfl, hO11, F11⟩ := q11
          obtain ⟨ap11, tp11, tv11, sc11, St11, h11, hsc11, hf11⟩ := id hO11
          obtain ⟨d11_0, d11_1, d11_2, lt111, lt211⟩ := id h11
          refine x_stk (st' := []) rfl ?_
          exact x_vret ⟨Nat.le_refl _, Nat.le_refl _⟩ rfl dX3_readOne_122 ⟨rfl, by rw [pOne_eq, if_neg (by omega), if_neg (by omega), if_neg (by omega), if_pos hkk, if_neg (by omega), hs10]; exact hO11, (((Fr.rf.tr (F8.mono (fun i hi => by omega))).tr (F10.mono (fun i hi => by omega))).tr (F11.mono (fun i hi => by omega)))⟩
        · have hO10 : RdOk s10 L Tp lf jf (S ++ a10) b10 := by rw [hs10] at hR10; exact hR10
          have hg10 := (hGE hd0) (tkN L p) (by omega) _ _ hs10
          obtain ⟨tv10, St10, h10, hv10, hS10, hl10⟩ := id hO10
          obtain ⟨d10_0, d10_1, d10_2, lt110, lt210⟩ := id h10
          have hk910 := tkK_lt (L := L) (p := b10)
          refine x_aload_n dX3_readOne_116 rfl ?_
          refine x_bipush (v := nI 41) dX3_readOne_117 (by decide) ?_
          refine x_callV m_X3_expect l_X3_34 (c_expect_ok hT hO10 (by omega) (by omega)) rfl d10_0 (by omega) rfl rfl (Nat.le_of_ble_eq_true rfl) ⟨Nat.le_refl _, Nat.le_refl _⟩ dX3_readOne_119 (fun r12 s12 q12 => ?_)
          obtain ⟨rfl, hX12, F12⟩ := q12
          refine x_stk (st' := []) rfl ?_
          exact x_vret ⟨Nat.le_refl _, Nat.le_refl _⟩ rfl dX3_readOne_122 ⟨rfl, by
  rw [pOne_eq, if_neg (by omega), if_neg (by omega), if_neg (by omega), if_pos hkk, if_neg (by omega), hs10]
  simp only
  have e := hX12
  rw [pExp] at e
  by_cases k41 : tkK L b10 = 41
  · rw [if_pos k41] at e ⊢; exact e
  · rw [if_neg k41] at e ⊢; exact e, (((Fr.rf.tr (F8.mono (fun i hi => by omega))).tr (F10.mono (fun i hi => by omega))).tr (F12.mono (fun i hi => by omega)))⟩
  · refine x_lookup (off := 74) (tgt := 78) dX3_readOne_4 (by decide) (by decide) (by decide) ?_
    refine x_aload_n dX3_readOne_78 rfl ?_
    rcases Nat.eq_zero_or_pos dd with hd0 | hd0
    · skip
      refine x_iload_n dX3_readOne_79 rfl ?_
      refine x_callV m_X3_opens l_X3_73 (c_opens_no hT hO (by omega) (by omega)) rfl d_0 (by omega) rfl rfl (Nat.le_of_ble_eq_true rfl) ⟨Nat.le_refl _, Nat.le_refl _⟩ dX3_readOne_80 (fun r13 s13 q13 => ?_)
      obtain ⟨rfl, hO13, F13⟩ := q13
      obtain ⟨ap13, tp13, tv13, sc13, St13, h13, hsc13, hf13⟩ := id hO13
      obtain ⟨d13_0, d13_1, d13_2, lt113, lt213⟩ := id h13
      refine x_stk (st' := [.int (nI 0)]) rfl ?_
      refine x_ifN_eq (tgt := 100) dX3_readOne_83 (by decide) (by omega) (fun hv14 => ?_) (fun hv14 => ?_)
      · exact x_vret ⟨Nat.le_refl _, Nat.le_refl _⟩ rfl dX3_readOne_100 ⟨rfl, by rw [pOne_eq, if_neg (by omega), if_neg (by omega), if_pos hkk, if_pos hd0]; exact hO13, (Fr.rf.tr (F13.mono (fun i hi => by omega)))⟩
      · exact absurd hv14 (by decide)
    · skip
      refine x_iload_n dX3_readOne_79 rfl ?_
      refine x_callV m_X3_opens l_X3_73 (c_opens_yes hT hO (by omega) (by omega)) rfl d_0 (by omega) rfl rfl (Nat.le_of_ble_eq_true rfl) ⟨Nat.le_refl _, Nat.le_refl _⟩ dX3_readOne_80 (fun r15 s15 q15 => ?_)
      obtain ⟨rfl, hO15, F15⟩ := q15
      obtain ⟨tv15, St15, h15, hv15, hS15, hl15⟩ := id hO15
      obtain ⟨d15_0, d15_1, d15_2, lt115, lt215⟩ := id h15
      have hn15 := tkN_b (show p ≤ L.length by omega)
      have hl915 := lexP_b (show p ≤ L.length by omega)
      refine x_stk (st' := [.int (nI 1)]) rfl ?_
      refine x_ifN_eq (tgt := 100) dX3_readOne_83 (by decide) (by omega) (fun hv16 => ?_) (fun hv16 => ?_)
      · exact absurd hv16 (by decide)
      · refine x_aload_n dX3_readOne_86 rfl ?_
        refine x_iload_n dX3_readOne_87 rfl ?_
        refine x_iconst (v := nI 1) dX3_readOne_88 (by decide) ?_
        refine x_iaddN dX3_readOne_89 ?_
        refine x_callV m_X3_readOne l_X3_83 ((hOn hd0) s15 S (tkN L p) hO15 (by first | omega | (simp only [List.length_append] at *; omega)) (by omega)) rfl d15_0 (by omega) rfl rfl (Nat.le_of_ble_eq_true rfl) ⟨Nat.le_refl _, Nat.le_refl _⟩ dX3_readOne_90 (fun r17 s17 q17 => ?_)
        obtain ⟨rfl, hR17, F17⟩ := q17
        refine x_stk (st' := []) rfl ?_
        rcases hs17 : (pOne L (dd - 1)) (tkN L p) with e17 | ⟨a17, b17⟩
        · have hO17 : RdFt s17 L Tp lf jf e17 := by rw [hs17] at hR17; exact hR17
          obtain ⟨ap17, tp17, tv17, sc17, St17, h17, hsc17, hf17⟩ := id hO17
          obtain ⟨d17_0, d17_1, d17_2, lt117, lt217⟩ := id h17
          refine x_aload_n dX3_readOne_93 rfl ?_
          refine x_sipush (v := nI 20004) dX3_readOne_94 (by decide) ?_
          refine x_callV m_X3_add l_X3_67 (c_add_ft hT hO17) rfl d17_0 (by omega) rfl rfl (Nat.le_of_ble_eq_true rfl) ⟨Nat.le_refl _, Nat.le_refl _⟩ dX3_readOne_97 (fun r18 s18 q18 => ?_)
          obtain ⟨rfl, hO18, F18⟩ := q18
          obtain ⟨ap18, tp18, tv18, sc18, St18, h18, hsc18, hf18⟩ := id hO18
          obtain ⟨d18_0, d18_1, d18_2, lt118, lt218⟩ := id h18
          refine x_stk (st' := []) rfl ?_
          exact x_vret ⟨Nat.le_refl _, Nat.le_refl _⟩ rfl dX3_readOne_100 ⟨rfl, by rw [pOne_eq, if_neg (by omega), if_neg (by omega), if_pos hkk, if_neg (by omega), hs17]; exact hO18, (((Fr.rf.tr (F15.mono (fun i hi => by omega))).tr (F17.mono (fun i hi => by omega))).tr (F18.mono (fun i hi => by omega)))⟩
        · have hO17 : RdOk s17 L Tp lf jf (S ++ a17) b17 := by rw [hs17] at hR17; exact hR17
          have hg17 := (hGO hd0) (tkN L p) (by omega) _ _ hs17
          obtain ⟨tv17, St17, h17, hv17, hS17, hl17⟩ := id hO17
          obtain ⟨d17_0, d17_1, d17_2, lt117, lt217⟩ := id h17
          have hk917 := tkK_lt (L := L) (p := b17)
          refine x_aload_n dX3_readOne_93 rfl ?_
          refine x_sipush (v := nI 20004) dX3_readOne_94 (by decide) ?_
          refine x_callV m_X3_add l_X3_67 (c_add_ok hT hO17 (by first | omega | (simp only [List.length_append] at *; omega))) rfl d17_0 (by omega) rfl rfl (Nat.le_of_ble_eq_true rfl) ⟨Nat.le_refl _, Nat.le_refl _⟩ dX3_readOne_97 (fun r19 s19 q19 => ?_)
          obtain ⟨rfl, hO19, F19⟩ := q19
          obtain ⟨tv19, St19, h19, hv19, hS19, hl19⟩ := id hO19
          obtain ⟨d19_0, d19_1, d19_2, lt119, lt219⟩ := id h19
          refine x_stk (st' := []) rfl ?_
          exact x_vret ⟨Nat.le_refl _, Nat.le_refl _⟩ rfl dX3_readOne_100 ⟨rfl, by rw [pOne_eq, if_neg (by omega), if_neg (by omega), if_pos hkk, if_neg (by omega), hs17]; have e := hO19; rw [List.append_assoc] at e; exact e, (((Fr.rf.tr (F15.mono (fun i hi => by omega))).tr (F17.mono (fun i hi => by omega))).tr (F19.mono (fun i hi => by omega)))⟩
  · refine x_lookup (off := 119) (tgt := 123) dX3_readOne_4 (by decide) (by show Op.lookupswitch.offset [(2, 44), (3, 57), (40, 97), (45, 74)] 119 (nI kk).toInt = 119; rw [lv_osw (k := nI 2) (fun q => absurd ((nI_eq (by omega) (by omega)).mp q) (by omega)) (by decide)]; rw [lv_osw (k := nI 3) (fun q => absurd ((nI_eq (by omega) (by omega)).mp q) (by omega)) (by decide)]; rw [lv_osw (k := nI 40) (fun q => absurd ((nI_eq (by omega) (by omega)).mp q) (by omega)) (by decide)]; rw [lv_osw (k := nI 45) (fun q => absurd ((nI_eq (by omega) (by omega)).mp q) (by omega)) (by decide)]; rfl) (by decide) ?_
    refine x_aload_n dX3_readOne_123 rfl ?_
    refine x_callV m_X3_fail l_X3_50 (c_fail_ok hT hO (by omega)) rfl d_0 (by omega) rfl rfl (Nat.le_of_ble_eq_true rfl) ⟨Nat.le_refl _, Nat.le_refl _⟩ dX3_readOne_124 (fun r20 s20 q20 => ?_)
    obtain ⟨rfl, hO20, F20⟩ := q20
    obtain ⟨ap20, tp20, tv20, sc20, St20, h20, hsc20, hf20⟩ := id hO20
    obtain ⟨d20_0, d20_1, d20_2, lt120, lt220⟩ := id h20
    refine x_stk (st' := []) rfl ?_
    exact x_vret ⟨Nat.le_refl _, Nat.le_refl _⟩ rfl dX3_readOne_127 ⟨rfl, by rw [pOne_eq, if_neg (by omega), if_neg (by omega), if_neg (by omega), if_neg (by omega)]; exact hO20, (Fr.rf.tr (F20.mono (fun i hi => by omega)))⟩
theorem CR.le {kd kd' : Nat} {M : MD} {op : Nat} {L : List Nat} {Tp : List Int32} {lf jf : Int32} {P : Nat → PR} (h : CR kd M op L Tp lf jf P) (hk : kd ≤ kd') : CR kd' M op L Tp lf jf P := fun σ S p a1 a2 a3 d hd => h σ S p a1 a2 a3 d (Nat.le_trans hk hd)
theorem good_sum {L : List Nat} {d : Nat} : ∀ p, p ≤ L.length → Good L p (pSum L d p) := good_bin okPM (good_bin ok42 (good_all L d).1)
/-- the readers, with dd more that may be open -/
theorem c_parse {L : List Nat} {Tp : List Int32} {lf jf : Int32} (hT : TxL L Tp) : ∀ (dd op : Nat), op + dd = 5 → CR (50 * dd + 9) M_X3_readOne op L Tp lf jf (pOne L dd) ∧ CR (50 * dd + 34) M_X3_readNot op L Tp lf jf (pNot L dd) ∧ CR (50 * dd + 50) M_X3_readEither op L Tp lf jf (pEi L dd) := by
  have key : ∀ (dd op : Nat), op + dd = 5 → (0 < dd → CR (50 * (dd - 1) + 9) M_X3_readOne (op + 1) L Tp lf jf (pOne L (dd - 1)) ∧ CR (50 * (dd - 1) + 34) M_X3_readNot (op + 1) L Tp lf jf (pNot L (dd - 1)) ∧ CR (50 * (dd - 1) + 50) M_X3_readEither (op + 1) L Tp lf jf (pEi L (dd - 1))) → CR (50 * dd + 9) M_X3_readOne op L Tp lf jf (pOne L dd) ∧ CR (50 * dd + 34) M_X3_readNot op L Tp lf jf (pNot L dd) ∧ CR (50 * dd + 50) M_X3_readEither op L Tp lf jf (pEi L dd) := by
    intro dd op hod ih
    have g := good_all L dd
    have h1 : CR (50 * dd + 9) M_X3_readOne op L Tp lf jf (pOne L dd) := fun σ S p a1 a2 a3 => c_one_ok0 (kq := 50 * dd) hT hod (fun q => (ih q).1.le (by omega)) (fun q => (ih q).2.2.le (by omega)) (fun _ => (good_all L (dd - 1)).1) (fun _ => (good_all L (dd - 1)).2.2) a1 a2 a3
    have h2 : CR (50 * dd + 25) M_X3_readSum op L Tp lf jf (pSum L dd) := c_sum_ok hT (c_term_ok hT h1 g.1) (good_bin ok42 g.1)
    have h3 : CR (50 * dd + 34) M_X3_readNot op L Tp lf jf (pNot L dd) := fun σ S p a1 a2 a3 => c_not_ok0 (kq := 50 * dd + 25) hT hod (fun q => (ih q).2.1.le (by omega)) h2 (fun _ => (good_all L (dd - 1)).2.1) good_sum a1 a2 a3
    refine ⟨h1, h3, ?_⟩
    rw [pEi_eq]
    exact c_ei_ok hT (c_both_ok hT h3 g.2.1) (good_bin ok9 g.2.1)
  intro dd
  induction dd with
  | zero => exact fun op h => key 0 op h (fun q => absurd q (by omega))
  | succ dd ih => exact fun op h => key (dd + 1) op h (fun _ => ih (op + 1) (by omega))
theorem c_either0 {L : List Nat} {Tp : List Int32} {lf jf : Int32} (hT : TxL L Tp) : CR 300 M_X3_readEither 0 L Tp lf jf (pEi L 5) := (c_parse hT 5 0 rfl).2.2
def pSeg (L : List Nat) (k : Nat) (S : List Nat) (p : Nat) : PR := match pExp L k (.inr p) with
  | .inl e => .inl e
  | .inr p1 => match pEi L 5 p1 with
    | .inl e => .inl e
    | .inr q => match pExp L 59 (.inr q.2) with
      | .inl e => .inl e
      | .inr p2 => .inr (S ++ q.1, p2)
/-- a whole text: its fault's place, or its steps and where the second and the third part begin -/
def pText (L : List Nat) : Nat ⊕ (List Nat × Nat × Nat) := match pSeg L 5 [] 0 with
  | .inl e => .inl e
  | .inr q1 => match pSeg L 6 q1.1 q1.2 with
    | .inl e => .inl e
    | .inr q2 => match pSeg L 7 q2.1 q2.2 with
      | .inl e => .inl e
      | .inr q3 => if tkK L q3.2 = 0 then .inr (q3.1, q1.1.length, q2.1.length) else .inl (lexP L q3.2)
