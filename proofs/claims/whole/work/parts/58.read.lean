set_option maxHeartbeats 4000000 in
theorem c_read {L : List Nat} {Tp : List Int32} {lf jf : Int32} {σ : ZS} {ap tk tp tv fa sc : Int32} {St : List Int32} (hT : TxL L Tp) (h : Rd σ (nI L.length) ap tk tp tv fa sc lf jf Tp St) : Cn 310 M_X3_read 0 0 [.ref 28] σ (fun r9 σ' => (Fr (fun i => i = 28 ∨ i = 30) σ σ') ∧ (match pText L with   | .inl f => r9 = some (.int (nI f)) ∧ ∃ lf jf : Int32, RdFt σ' L Tp lf jf f   | .inr q => r9 = some (.int (-1)) ∧ ∃ p, RdOk σ' L Tp (nI q.2.1) (nI q.2.2) q.1 p)) := by
  obtain ⟨d_0, d_1, d_2, lt1, lt2⟩ := id h
  have hL := hT.1
  refine Cn.intro (lv0 := [some (.ref 28)]) rfl (Nat.le_of_ble_eq_true rfl) rfl (fun d hd => ?_)
  refine x_aload_n dX3_read_0 rfl ?_
  refine x_iconst (v := nI 0) dX3_read_1 (by decide) ?_
  refine x_putK f_X3_22 d_0 (Nat.le_of_ble_eq_true rfl) (fun c => ⟨rfl, rfl⟩) dX3_read_2 (fun sw1 gw1 Fw1 => ?_)
  refine x_aload_n dX3_read_5 rfl ?_
  refine x_iconst (v := nI 0) dX3_read_6 (by decide) ?_
  refine x_putK f_X3_25 gw1 (Nat.le_of_ble_eq_true rfl) (fun c => ⟨rfl, rfl⟩) dX3_read_7 (fun sw2 gw2 Fw2 => ?_)
  refine x_aload_n dX3_read_10 rfl ?_
  refine x_iconst (v := (-1)) dX3_read_11 (by decide) ?_
  refine x_putK f_X3_28 gw2 (Nat.le_of_ble_eq_true rfl) (fun c => ⟨rfl, rfl⟩) dX3_read_12 (fun sw3 gw3 Fw3 => ?_)
  refine x_aload_n dX3_read_15 rfl ?_
  refine x_callV m_X3_next l_X3_31 (c_next (p := 0) hT (by omega) ⟨gw3, (Fw3.at (by omega) (Fw2.at (by omega) (Fw1.at (by omega) d_1))), (Fw3.at (by omega) (Fw2.at (by omega) (Fw1.at (by omega) d_2))), lt1, (by first | exact lt2 | (rw [List.length_set]; exact lt2))⟩) rfl gw3 (by omega) rfl rfl (Nat.le_of_ble_eq_true rfl) ⟨Nat.le_refl _, Nat.le_refl _⟩ dX3_read_16 (fun r4 s4 q4 => ?_)
  obtain ⟨rfl, tv4, h4, v4, F4⟩ := q4
  have hO4 : RdOk s4 L Tp lf jf [] 0 := ⟨tv4, _, h4, v4, fun i hi => absurd hi (by simp), by decide⟩
  clear h4
  obtain ⟨tv4, St4, h4, hv4, hS4, hl4⟩ := id hO4
  obtain ⟨d4_0, d4_1, d4_2, lt14, lt24⟩ := id h4
  have hk94 := tkK_lt (L := L) (p := 0)
  refine x_stk (st' := []) rfl ?_
  refine x_aload_n dX3_read_19 rfl ?_
  refine x_iconst (v := nI 5) dX3_read_20 (by decide) ?_
  refine x_callV m_X3_expect l_X3_34 (c_expect_ok hT hO4 (by omega) (by omega)) rfl d4_0 (by omega) rfl rfl (Nat.le_of_ble_eq_true rfl) ⟨Nat.le_refl _, Nat.le_refl _⟩ dX3_read_21 (fun r5 s5 q5 => ?_)
  obtain ⟨rfl, hX5, F5⟩ := q5
  refine x_stk (st' := []) rfl ?_
  by_cases hk5 : tkK L 0 = 5
  · have hO5 : RdOk s5 L Tp lf jf [] (tkN L 0) := by rw [pExp, if_pos hk5] at hX5; exact hX5
    have hn5 := tkN_b (show 0 ≤ L.length by omega)
    have hl95 := lexP_b (show 0 ≤ L.length by omega)
    obtain ⟨tv5, St5, h5, hv5, hS5, hl5⟩ := id hO5
    obtain ⟨d5_0, d5_1, d5_2, lt15, lt25⟩ := id h5
    have hk95 := tkK_lt (L := L) (p := tkN L 0)
    refine x_aload_n dX3_read_24 rfl ?_
    refine x_iconst (v := nI 0) dX3_read_25 (by decide) ?_
    refine x_callV m_X3_readEither l_X3_38 (c_either0 hT s5 [] (tkN L 0) hO5 (by first | omega | (simp only [List.length_append, List.length_nil] at *; omega)) (by omega)) rfl d5_0 (by omega) rfl rfl (Nat.le_of_ble_eq_true rfl) ⟨Nat.le_refl _, Nat.le_refl _⟩ dX3_read_26 (fun r6 s6 q6 => ?_)
    obtain ⟨rfl, hR6, F6⟩ := q6
    refine x_stk (st' := []) rfl ?_
    rcases hs6 : pEi L 5 (tkN L 0) with e6 | ⟨a6, b6⟩
    · have hO6 : RdFt s6 L Tp lf jf e6 := by rw [hs6] at hR6; exact hR6
      obtain ⟨ap6, tp6, tv6, sc6, St6, h6, hsc6, hf6⟩ := id hO6
      obtain ⟨d6_0, d6_1, d6_2, lt16, lt26⟩ := id h6
      refine x_aload_n dX3_read_29 rfl ?_
      refine x_bipush (v := nI 59) dX3_read_30 (by decide) ?_
      refine x_callV m_X3_expect l_X3_34 (c_expect_ft hT hO6 (by omega) (by omega)) rfl d6_0 (by omega) rfl rfl (Nat.le_of_ble_eq_true rfl) ⟨Nat.le_refl _, Nat.le_refl _⟩ dX3_read_32 (fun r7 s7 q7 => ?_)
      obtain ⟨rfl, hO7, F7⟩ := q7
      obtain ⟨ap7, tp7, tv7, sc7, St7, h7, hsc7, hf7⟩ := id hO7
      obtain ⟨d7_0, d7_1, d7_2, lt17, lt27⟩ := id h7
      refine x_stk (st' := []) rfl ?_
      refine x_aload_n dX3_read_35 rfl ?_
      refine x_aload_n dX3_read_36 rfl ?_
      refine x_get (v := .int (nI sc7)) f_X3_25 d7_0 rfl dX3_read_37 ?_
      refine x_putK f_X3_41 d7_0 (Nat.le_of_ble_eq_true rfl) (fun c => ⟨rfl, rfl⟩) dX3_read_40 (fun sw8 gw8 Fw8 => ?_)
      have hO9 : RdFt sw8 L Tp (nI sc7) jf e6 := ⟨_, _, _, _, _, ⟨gw8, (Fw8.at (by omega) d7_1), (Fw8.at (by omega) d7_2), lt17, (by first | exact lt27 | (rw [List.length_set]; exact lt27))⟩, hsc7, hf7⟩
      obtain ⟨ap9, tp9, tv9, sc9, St9, h9, hsc9, hf9⟩ := id hO9
      obtain ⟨d9_0, d9_1, d9_2, lt19, lt29⟩ := id h9
      refine x_aload_n dX3_read_43 rfl ?_
      refine x_bipush (v := nI 6) dX3_read_44 (by decide) ?_
      refine x_callV m_X3_expect l_X3_34 (c_expect_ft hT hO9 (by omega) (by omega)) rfl d9_0 (by omega) rfl rfl (Nat.le_of_ble_eq_true rfl) ⟨Nat.le_refl _, Nat.le_refl _⟩ dX3_read_46 (fun r10 s10 q10 => ?_)
      obtain ⟨rfl, hO10, F10⟩ := q10
      obtain ⟨ap10, tp10, tv10, sc10, St10, h10, hsc10, hf10⟩ := id hO10
      obtain ⟨d10_0, d10_1, d10_2, lt110, lt210⟩ := id h10
      refine x_stk (st' := []) rfl ?_
      refine x_aload_n dX3_read_49 rfl ?_
      refine x_iconst (v := nI 0) dX3_read_50 (by decide) ?_
      refine x_callV m_X3_readEither l_X3_38 (c_ei_ft hT hO10) rfl d10_0 (by omega) rfl rfl (Nat.le_of_ble_eq_true rfl) ⟨Nat.le_refl _, Nat.le_refl _⟩ dX3_read_51 (fun r11 s11 q11 => ?_)
      obtain ⟨rfl, hO11, F11⟩ := q11
      obtain ⟨ap11, tp11, tv11, sc11, St11, h11, hsc11, hf11⟩ := id hO11
      obtain ⟨d11_0, d11_1, d11_2, lt111, lt211⟩ := id h11
      refine x_stk (st' := []) rfl ?_
      refine x_aload_n dX3_read_54 rfl ?_
      refine x_bipush (v := nI 59) dX3_read_55 (by decide) ?_
      refine x_callV m_X3_expect l_X3_34 (c_expect_ft hT hO11 (by omega) (by omega)) rfl d11_0 (by omega) rfl rfl (Nat.le_of_ble_eq_true rfl) ⟨Nat.le_refl _, Nat.le_refl _⟩ dX3_read_57 (fun r12 s12 q12 => ?_)
      obtain ⟨rfl, hO12, F12⟩ := q12
      obtain ⟨ap12, tp12, tv12, sc12, St12, h12, hsc12, hf12⟩ := id hO12
      obtain ⟨d12_0, d12_1, d12_2, lt112, lt212⟩ := id h12
      refine x_stk (st' := []) rfl ?_
      refine x_aload_n dX3_read_60 rfl ?_
      refine x_aload_n dX3_read_61 rfl ?_
      refine x_get (v := .int (nI sc12)) f_X3_25 d12_0 rfl dX3_read_62 ?_
      refine x_putK f_X3_44 d12_0 (Nat.le_of_ble_eq_true rfl) (fun c => ⟨rfl, rfl⟩) dX3_read_65 (fun sw13 gw13 Fw13 => ?_)
      have hO14 : RdFt sw13 L Tp (nI sc7) (nI sc12) e6 := ⟨_, _, _, _, _, ⟨gw13, (Fw13.at (by omega) d12_1), (Fw13.at (by omega) d12_2), lt112, (by first | exact lt212 | (rw [List.length_set]; exact lt212))⟩, hsc12, hf12⟩
      obtain ⟨ap14, tp14, tv14, sc14, St14, h14, hsc14, hf14⟩ := id hO14
      obtain ⟨d14_0, d14_1, d14_2, lt114, lt214⟩ := id h14
      refine x_aload_n dX3_read_68 rfl ?_
      refine x_bipush (v := nI 7) dX3_read_69 (by decide) ?_
      refine x_callV m_X3_expect l_X3_34 (c_expect_ft hT hO14 (by omega) (by omega)) rfl d14_0 (by omega) rfl rfl (Nat.le_of_ble_eq_true rfl) ⟨Nat.le_refl _, Nat.le_refl _⟩ dX3_read_71 (fun r15 s15 q15 => ?_)
      obtain ⟨rfl, hO15, F15⟩ := q15
      obtain ⟨ap15, tp15, tv15, sc15, St15, h15, hsc15, hf15⟩ := id hO15
      obtain ⟨d15_0, d15_1, d15_2, lt115, lt215⟩ := id h15
      refine x_stk (st' := []) rfl ?_
      refine x_aload_n dX3_read_74 rfl ?_
      refine x_iconst (v := nI 0) dX3_read_75 (by decide) ?_
      refine x_callV m_X3_readEither l_X3_38 (c_ei_ft hT hO15) rfl d15_0 (by omega) rfl rfl (Nat.le_of_ble_eq_true rfl) ⟨Nat.le_refl _, Nat.le_refl _⟩ dX3_read_76 (fun r16 s16 q16 => ?_)
      obtain ⟨rfl, hO16, F16⟩ := q16
      obtain ⟨ap16, tp16, tv16, sc16, St16, h16, hsc16, hf16⟩ := id hO16
      obtain ⟨d16_0, d16_1, d16_2, lt116, lt216⟩ := id h16
      refine x_stk (st' := []) rfl ?_
      refine x_aload_n dX3_read_79 rfl ?_
      refine x_bipush (v := nI 59) dX3_read_80 (by decide) ?_
      refine x_callV m_X3_expect l_X3_34 (c_expect_ft hT hO16 (by omega) (by omega)) rfl d16_0 (by omega) rfl rfl (Nat.le_of_ble_eq_true rfl) ⟨Nat.le_refl _, Nat.le_refl _⟩ dX3_read_82 (fun r17 s17 q17 => ?_)
      obtain ⟨rfl, hO17, F17⟩ := q17
      obtain ⟨ap17, tp17, tv17, sc17, St17, h17, hsc17, hf17⟩ := id hO17
      obtain ⟨d17_0, d17_1, d17_2, lt117, lt217⟩ := id h17
      refine x_stk (st' := []) rfl ?_
      refine x_aload_n dX3_read_85 rfl ?_
      refine x_get (v := .int (nI 1)) f_X3_47 d17_0 rfl dX3_read_86 ?_
      refine x_ifN_eq (tgt := 96) dX3_read_89 (by decide) (by omega) (fun hv18 => ?_) (fun hv18 => ?_)
      · exact absurd hv18 (by decide)
      · refine x_aload_n dX3_read_92 rfl ?_
        refine x_callV m_X3_fail l_X3_50 (c_fail_ft hT hO17) rfl d17_0 (by omega) rfl rfl (Nat.le_of_ble_eq_true rfl) ⟨Nat.le_refl _, Nat.le_refl _⟩ dX3_read_93 (fun r19 s19 q19 => ?_)
        obtain ⟨rfl, hO19, F19⟩ := q19
        obtain ⟨ap19, tp19, tv19, sc19, St19, h19, hsc19, hf19⟩ := id hO19
        obtain ⟨d19_0, d19_1, d19_2, lt119, lt219⟩ := id h19
        refine x_stk (st' := []) rfl ?_
        refine x_aload_n dX3_read_96 rfl ?_
        refine x_get (v := .int (nI e6)) f_X3_28 d19_0 rfl dX3_read_97 ?_
        exact x_iret ⟨Nat.le_refl _, Nat.le_refl _⟩ rfl dX3_read_100 ⟨((((((((((((((((Fr.rf.tr (Fw1.mono (fun i hi => by omega))).tr (Fw2.mono (fun i hi => by omega))).tr (Fw3.mono (fun i hi => by omega))).tr (F4.mono (fun i hi => by omega))).tr (F5.mono (fun i hi => by omega))).tr (F6.mono (fun i hi => by omega))).tr (F7.mono (fun i hi => by omega))).tr (Fw8.mono (fun i hi => by omega))).tr (F10.mono (fun i hi => by omega))).tr (F11.mono (fun i hi => by omega))).tr (F12.mono (fun i hi => by omega))).tr (Fw13.mono (fun i hi => by omega))).tr (F15.mono (fun i hi => by omega))).tr (F16.mono (fun i hi => by omega))).tr (F17.mono (fun i hi => by omega))).tr (F19.mono (fun i hi => by omega))), by
    unfold pText
    rw [pSeg]
    simp only [pExp, if_pos hk5]
    rw [hs6]
    simp only
    first | exact ⟨rfl, _, _, hO19⟩ | exact ⟨trivial, _, _, hO19⟩⟩
    · have hO6 : RdOk s6 L Tp lf jf ([] ++ a6) b6 := by rw [hs6] at hR6; exact hR6
      have hg6 := (good_all L 5).2.2 (tkN L 0) (by omega) _ _ hs6
      obtain ⟨tv6, St6, h6, hv6, hS6, hl6⟩ := id hO6
      obtain ⟨d6_0, d6_1, d6_2, lt16, lt26⟩ := id h6
      have hk96 := tkK_lt (L := L) (p := b6)
      refine x_aload_n dX3_read_29 rfl ?_
      refine x_bipush (v := nI 59) dX3_read_30 (by decide) ?_
      refine x_callV m_X3_expect l_X3_34 (c_expect_ok hT hO6 (by omega) (by omega)) rfl d6_0 (by omega) rfl rfl (Nat.le_of_ble_eq_true rfl) ⟨Nat.le_refl _, Nat.le_refl _⟩ dX3_read_32 (fun r20 s20 q20 => ?_)
      obtain ⟨rfl, hX20, F20⟩ := q20
      refine x_stk (st' := []) rfl ?_
      by_cases hk20 : tkK L b6 = 59
      · have hO20 : RdOk s20 L Tp lf jf ([] ++ a6) (tkN L b6) := by rw [pExp, if_pos hk20] at hX20; exact hX20
        have hn20 := tkN_b (show b6 ≤ L.length by omega)
        have hl920 := lexP_b (show b6 ≤ L.length by omega)
        obtain ⟨tv20, St20, h20, hv20, hS20, hl20⟩ := id hO20
        obtain ⟨d20_0, d20_1, d20_2, lt120, lt220⟩ := id h20
        have hk920 := tkK_lt (L := L) (p := tkN L b6)
        refine x_aload_n dX3_read_35 rfl ?_
        refine x_aload_n dX3_read_36 rfl ?_
        refine x_get (v := .int (nI (([] ++ a6).length))) f_X3_25 d20_0 rfl dX3_read_37 ?_
        refine x_putK f_X3_41 d20_0 (Nat.le_of_ble_eq_true rfl) (fun c => ⟨rfl, rfl⟩) dX3_read_40 (fun sw21 gw21 Fw21 => ?_)
        have hO22 : RdOk sw21 L Tp (nI (([] ++ a6).length)) jf ([] ++ a6) (tkN L b6) := ⟨_, _, ⟨gw21, (Fw21.at (by omega) d20_1), (Fw21.at (by omega) d20_2), lt120, (by first | exact lt220 | (rw [List.length_set]; exact lt220))⟩, hv20, hS20, hl20⟩
        obtain ⟨tv22, St22, h22, hv22, hS22, hl22⟩ := id hO22
        obtain ⟨d22_0, d22_1, d22_2, lt122, lt222⟩ := id h22
        refine x_aload_n dX3_read_43 rfl ?_
        refine x_bipush (v := nI 6) dX3_read_44 (by decide) ?_
        refine x_callV m_X3_expect l_X3_34 (c_expect_ok hT hO22 (by omega) (by omega)) rfl d22_0 (by omega) rfl rfl (Nat.le_of_ble_eq_true rfl) ⟨Nat.le_refl _, Nat.le_refl _⟩ dX3_read_46 (fun r23 s23 q23 => ?_)
        obtain ⟨rfl, hX23, F23⟩ := q23
        refine x_stk (st' := []) rfl ?_
        by_cases hk23 : tkK L (tkN L b6) = 6
        · have hO23 : RdOk s23 L Tp (nI (([] ++ a6).length)) jf ([] ++ a6) (tkN L (tkN L b6)) := by rw [pExp, if_pos hk23] at hX23; exact hX23
          have hn23 := tkN_b (show (tkN L b6) ≤ L.length by omega)
          have hl923 := lexP_b (show (tkN L b6) ≤ L.length by omega)
          obtain ⟨tv23, St23, h23, hv23, hS23, hl23⟩ := id hO23
          obtain ⟨d23_0, d23_1, d23_2, lt123, lt223⟩ := id h23
          have hk923 := tkK_lt (L := L) (p := tkN L (tkN L b6))
          refine x_aload_n dX3_read_49 rfl ?_
          refine x_iconst (v := nI 0) dX3_read_50 (by decide) ?_
          refine x_callV m_X3_readEither l_X3_38 (c_either0 hT s23 ([] ++ a6) (tkN L (tkN L b6)) hO23 (by first | omega | (simp only [List.length_append, List.length_nil] at *; omega)) (by omega)) rfl d23_0 (by omega) rfl rfl (Nat.le_of_ble_eq_true rfl) ⟨Nat.le_refl _, Nat.le_refl _⟩ dX3_read_51 (fun r24 s24 q24 => ?_)
          obtain ⟨rfl, hR24, F24⟩ := q24
          refine x_stk (st' := []) rfl ?_
          rcases hs24 : pEi L 5 (tkN L (tkN L b6)) with e24 | ⟨a24, b24⟩
          · have hO24 : RdFt s24 L Tp (nI (([] ++ a6).length)) jf e24 := by rw [hs24] at hR24; exact hR24
            obtain ⟨ap24, tp24, tv24, sc24, St24, h24, hsc24, hf24⟩ := id hO24
            obtain ⟨d24_0, d24_1, d24_2, lt124, lt224⟩ := id h24
            refine x_aload_n dX3_read_54 rfl ?_
            refine x_bipush (v := nI 59) dX3_read_55 (by decide) ?_
            refine x_callV m_X3_expect l_X3_34 (c_expect_ft hT hO24 (by omega) (by omega)) rfl d24_0 (by omega) rfl rfl (Nat.le_of_ble_eq_true rfl) ⟨Nat.le_refl _, Nat.le_refl _⟩ dX3_read_57 (fun r25 s25 q25 => ?_)
            obtain ⟨rfl, hO25, F25⟩ := q25
            obtain ⟨ap25, tp25, tv25, sc25, St25, h25, hsc25, hf25⟩ := id hO25
            obtain ⟨d25_0, d25_1, d25_2, lt125, lt225⟩ := id h25
            refine x_stk (st' := []) rfl ?_
            refine x_aload_n dX3_read_60 rfl ?_
            refine x_aload_n dX3_read_61 rfl ?_
            refine x_get (v := .int (nI sc25)) f_X3_25 d25_0 rfl dX3_read_62 ?_
            refine x_putK f_X3_44 d25_0 (Nat.le_of_ble_eq_true rfl) (fun c => ⟨rfl, rfl⟩) dX3_read_65 (fun sw26 gw26 Fw26 => ?_)
            have hO27 : RdFt sw26 L Tp (nI (([] ++ a6).length)) (nI sc25) e24 := ⟨_, _, _, _, _, ⟨gw26, (Fw26.at (by omega) d25_1), (Fw26.at (by omega) d25_2), lt125, (by first | exact lt225 | (rw [List.length_set]; exact lt225))⟩, hsc25, hf25⟩
            obtain ⟨ap27, tp27, tv27, sc27, St27, h27, hsc27, hf27⟩ := id hO27
            obtain ⟨d27_0, d27_1, d27_2, lt127, lt227⟩ := id h27
            refine x_aload_n dX3_read_68 rfl ?_
            refine x_bipush (v := nI 7) dX3_read_69 (by decide) ?_
            refine x_callV m_X3_expect l_X3_34 (c_expect_ft hT hO27 (by omega) (by omega)) rfl d27_0 (by omega) rfl rfl (Nat.le_of_ble_eq_true rfl) ⟨Nat.le_refl _, Nat.le_refl _⟩ dX3_read_71 (fun r28 s28 q28 => ?_)
            obtain ⟨rfl, hO28, F28⟩ := q28
            obtain ⟨ap28, tp28, tv28, sc28, St28, h28, hsc28, hf28⟩ := id hO28
            obtain ⟨d28_0, d28_1, d28_2, lt128, lt228⟩ := id h28
            refine x_stk (st' := []) rfl ?_
            refine x_aload_n dX3_read_74 rfl ?_
            refine x_iconst (v := nI 0) dX3_read_75 (by decide) ?_
            refine x_callV m_X3_readEither l_X3_38 (c_ei_ft hT hO28) rfl d28_0 (by omega) rfl rfl (Nat.le_of_ble_eq_true rfl) ⟨Nat.le_refl _, Nat.le_refl _⟩ dX3_read_76 (fun r29 s29 q29 => ?_)
            obtain ⟨rfl, hO29, F29⟩ := q29
            obtain ⟨ap29, tp29, tv29, sc29, St29, h29, hsc29, hf29⟩ := id hO29
            obtain ⟨d29_0, d29_1, d29_2, lt129, lt229⟩ := id h29
            refine x_stk (st' := []) rfl ?_
            refine x_aload_n dX3_read_79 rfl ?_
            refine x_bipush (v := nI 59) dX3_read_80 (by decide) ?_
            refine x_callV m_X3_expect l_X3_34 (c_expect_ft hT hO29 (by omega) (by omega)) rfl d29_0 (by omega) rfl rfl (Nat.le_of_ble_eq_true rfl) ⟨Nat.le_refl _, Nat.le_refl _⟩ dX3_read_82 (fun r30 s30 q30 => ?_)
            obtain ⟨rfl, hO30, F30⟩ := q30
            obtain ⟨ap30, tp30, tv30, sc30, St30, h30, hsc30, hf30⟩ := id hO30
            obtain ⟨d30_0, d30_1, d30_2, lt130, lt230⟩ := id h30
            refine x_stk (st' := []) rfl ?_
            refine x_aload_n dX3_read_85 rfl ?_
            refine x_get (v := .int (nI 1)) f_X3_47 d30_0 rfl dX3_read_86 ?_
            refine x_ifN_eq (tgt := 96) dX3_read_89 (by decide) (by omega) (fun hv31 => ?_) (fun hv31 => ?_)
            · exact absurd hv31 (by decide)
            · refine x_aload_n dX3_read_92 rfl ?_
              refine x_callV m_X3_fail l_X3_50 (c_fail_ft hT hO30) rfl d30_0 (by omega) rfl rfl (Nat.le_of_ble_eq_true rfl) ⟨Nat.le_refl _, Nat.le_refl _⟩ dX3_read_93 (fun r32 s32 q32 => ?_)
              obtain ⟨rfl, hO32, F32⟩ := q32
              obtain ⟨ap32, tp32, tv32, sc32, St32, h32, hsc32, hf32⟩ := id hO32
              obtain ⟨d32_0, d32_1, d32_2, lt132, lt232⟩ := id h32
              refine x_stk (st' := []) rfl ?_
              refine x_aload_n dX3_read_96 rfl ?_
              refine x_get (v := .int (nI e24)) f_X3_28 d32_0 rfl dX3_read_97 ?_
              exact x_iret ⟨Nat.le_refl _, Nat.le_refl _⟩ rfl dX3_read_100 ⟨((((((((((((((((Fr.rf.tr (Fw1.mono (fun i hi => by omega))).tr (Fw2.mono (fun i hi => by omega))).tr (Fw3.mono (fun i hi => by omega))).tr (F4.mono (fun i hi => by omega))).tr (F5.mono (fun i hi => by omega))).tr (F6.mono (fun i hi => by omega))).tr (F20.mono (fun i hi => by omega))).tr (Fw21.mono (fun i hi => by omega))).tr (F23.mono (fun i hi => by omega))).tr (F24.mono (fun i hi => by omega))).tr (F25.mono (fun i hi => by omega))).tr (Fw26.mono (fun i hi => by omega))).tr (F28.mono (fun i hi => by omega))).tr (F29.mono (fun i hi => by omega))).tr (F30.mono (fun i hi => by omega))).tr (F32.mono (fun i hi => by omega))), by
    unfold pText
    rw [pSeg]
    simp only [pExp, if_pos hk5]
    rw [hs6]
    simp only [if_pos hk20]
    rw [pSeg]
    simp only [pExp, if_pos hk23]
    rw [hs24]
    simp only
    first | exact ⟨rfl, _, _, hO32⟩ | exact ⟨trivial, _, _, hO32⟩⟩
          · have hO24 : RdOk s24 L Tp (nI (([] ++ a6).length)) jf (([] ++ a6) ++ a24) b24 := by rw [hs24] at hR24; exact hR24
            have hg24 := (good_all L 5).2.2 (tkN L (tkN L b6)) (by omega) _ _ hs24
            obtain ⟨tv24, St24, h24, hv24, hS24, hl24⟩ := id hO24
            obtain ⟨d24_0, d24_1, d24_2, lt124, lt224⟩ := id h24
            have hk924 := tkK_lt (L := L) (p := b24)
            refine x_aload_n dX3_read_54 rfl ?_
            refine x_bipush (v := nI 59) dX3_read_55 (by decide) ?_
            refine x_callV m_X3_expect l_X3_34 (c_expect_ok hT hO24 (by omega) (by omega)) rfl d24_0 (by omega) rfl rfl (Nat.le_of_ble_eq_true rfl) ⟨Nat.le_refl _, Nat.le_refl _⟩ dX3_read_57 (fun r33 s33 q33 => ?_)
            obtain ⟨rfl, hX33, F33⟩ := q33
            refine x_stk (st' := []) rfl ?_
            by_cases hk33 : tkK L b24 = 59
            · have hO33 : RdOk s33 L Tp (nI (([] ++ a6).length)) jf (([] ++ a6) ++ a24) (tkN L b24) := by rw [pExp, if_pos hk33] at hX33; exact hX33
              have hn33 := tkN_b (show b24 ≤ L.length by omega)
              have hl933 := lexP_b (show b24 ≤ L.length by omega)
              obtain ⟨tv33, St33, h33, hv33, hS33, hl33⟩ := id hO33
              obtain ⟨d33_0, d33_1, d33_2, lt133, lt233⟩ := id h33
              have hk933 := tkK_lt (L := L) (p := tkN L b24)
              refine x_aload_n dX3_read_60 rfl ?_
              refine x_aload_n dX3_read_61 rfl ?_
              refine x_get (v := .int (nI ((([] ++ a6) ++ a24).length))) f_X3_25 d33_0 rfl dX3_read_62 ?_
              refine x_putK f_X3_44 d33_0 (Nat.le_of_ble_eq_true rfl) (fun c => ⟨rfl, rfl⟩) dX3_read_65 (fun sw34 gw34 Fw34 => ?_)
              have hO35 : RdOk sw34 L Tp (nI (([] ++ a6).length)) (nI ((([] ++ a6) ++ a24).length)) (([] ++ a6) ++ a24) (tkN L b24) := ⟨_, _, ⟨gw34, (Fw34.at (by omega) d33_1), (Fw34.at (by omega) d33_2), lt133, (by first | exact lt233 | (rw [List.length_set]; exact lt233))⟩, hv33, hS33, hl33⟩
              obtain ⟨tv35, St35, h35, hv35, hS35, hl35⟩ := id hO35
              obtain ⟨d35_0, d35_1, d35_2, lt135, lt235⟩ := id h35
              refine x_aload_n dX3_read_68 rfl ?_
              refine x_bipush (v := nI 7) dX3_read_69 (by decide) ?_
              refine x_callV m_X3_expect l_X3_34 (c_expect_ok hT hO35 (by omega) (by omega)) rfl d35_0 (by omega) rfl rfl (Nat.le_of_ble_eq_true rfl) ⟨Nat.le_refl _, Nat.le_refl _⟩ dX3_read_71 (fun r36 s36 q36 => ?_)
              obtain ⟨rfl, hX36, F36⟩ := q36
              refine x_stk (st' := []) rfl ?_
              by_cases hk36 : tkK L (tkN L b24) = 7
              · have hO36 : RdOk s36 L Tp (nI (([] ++ a6).length)) (nI ((([] ++ a6) ++ a24).length)) (([] ++ a6) ++ a24) (tkN L (tkN L b24)) := by rw [pExp, if_pos hk36] at hX36; exact hX36
                have hn36 := tkN_b (show (tkN L b24) ≤ L.length by omega)
                have hl936 := lexP_b (show (tkN L b24) ≤ L.length by omega)
                obtain ⟨tv36, St36, h36, hv36, hS36, hl36⟩ := id hO36
                obtain ⟨d36_0, d36_1, d36_2, lt136, lt236⟩ := id h36
                have hk936 := tkK_lt (L := L) (p := tkN L (tkN L b24))
                refine x_aload_n dX3_read_74 rfl ?_
                refine x_iconst (v := nI 0) dX3_read_75 (by decide) ?_
                refine x_callV m_X3_readEither l_X3_38 (c_either0 hT s36 (([] ++ a6) ++ a24) (tkN L (tkN L b24)) hO36 (by first | omega | (simp only [List.length_append, List.length_nil] at *; omega)) (by omega)) rfl d36_0 (by omega) rfl rfl (Nat.le_of_ble_eq_true rfl) ⟨Nat.le_refl _, Nat.le_refl _⟩ dX3_read_76 (fun r37 s37 q37 => ?_)
                obtain ⟨rfl, hR37, F37⟩ := q37
                refine x_stk (st' := []) rfl ?_
                rcases hs37 : pEi L 5 (tkN L (tkN L b24)) with e37 | ⟨a37, b37⟩
                · have hO37 : RdFt s37 L Tp (nI (([] ++ a6).length)) (nI ((([] ++ a6) ++ a24).length)) e37 := by rw [hs37] at hR37; exact hR37
                  obtain ⟨ap37, tp37, tv37, sc37, St37, h37, hsc37, hf37⟩ := id hO37
                  obtain ⟨d37_0, d37_1, d37_2, lt137, lt237⟩ := id h37
                  refine x_aload_n dX3_read_79 rfl ?_
                  refine x_bipush (v := nI 59) dX3_read_80 (by decide) ?_
                  refine x_callV m_X3_expect l_X3_34 (c_expect_ft hT hO37 (by omega) (by omega)) rfl d37_0 (by omega) rfl rfl (Nat.le_of_ble_eq_true rfl) ⟨Nat.le_refl _, Nat.le_refl _⟩ dX3_read_82 (fun r38 s38 q38 => ?_)
                  obtain ⟨rfl, hO38, F38⟩ := q38
                  obtain ⟨ap38, tp38, tv38, sc38, St38, h38, hsc38, hf38⟩ := id hO38
                  obtain ⟨d38_0, d38_1, d38_2, lt138, lt238⟩ := id h38
                  refine x_stk (st' := []) rfl ?_
                  refine x_aload_n dX3_read_85 rfl ?_
                  refine x_get (v := .int (nI 1)) f_X3_47 d38_0 rfl dX3_read_86 ?_
                  refine x_ifN_eq (tgt := 96) dX3_read_89 (by decide) (by omega) (fun hv39 => ?_) (fun hv39 => ?_)
                  · exact absurd hv39 (by decide)
                  · refine x_aload_n dX3_read_92 rfl ?_
                    refine x_callV m_X3_fail l_X3_50 (c_fail_ft hT hO38) rfl d38_0 (by omega) rfl rfl (Nat.le_of_ble_eq_true rfl) ⟨Nat.le_refl _, Nat.le_refl _⟩ dX3_read_93 (fun r40 s40 q40 => ?_)
                    obtain ⟨rfl, hO40, F40⟩ := q40
                    obtain ⟨ap40, tp40, tv40, sc40, St40, h40, hsc40, hf40⟩ := id hO40
                    obtain ⟨d40_0, d40_1, d40_2, lt140, lt240⟩ := id h40
                    refine x_stk (st' := []) rfl ?_
                    refine x_aload_n dX3_read_96 rfl ?_
                    refine x_get (v := .int (nI e37)) f_X3_28 d40_0 rfl dX3_read_97 ?_
                    exact x_iret ⟨Nat.le_refl _, Nat.le_refl _⟩ rfl dX3_read_100 ⟨((((((((((((((((Fr.rf.tr (Fw1.mono (fun i hi => by omega))).tr (Fw2.mono (fun i hi => by omega))).tr (Fw3.mono (fun i hi => by omega))).tr (F4.mono (fun i hi => by omega))).tr (F5.mono (fun i hi => by omega))).tr (F6.mono (fun i hi => by omega))).tr (F20.mono (fun i hi => by omega))).tr (Fw21.mono (fun i hi => by omega))).tr (F23.mono (fun i hi => by omega))).tr (F24.mono (fun i hi => by omega))).tr (F33.mono (fun i hi => by omega))).tr (Fw34.mono (fun i hi => by omega))).tr (F36.mono (fun i hi => by omega))).tr (F37.mono (fun i hi => by omega))).tr (F38.mono (fun i hi => by omega))).tr (F40.mono (fun i hi => by omega))), by
    unfold pText
    rw [pSeg]
    simp only [pExp, if_pos hk5]
    rw [hs6]
    simp only [if_pos hk20]
    rw [pSeg]
    simp only [pExp, if_pos hk23]
    rw [hs24]
    simp only [if_pos hk33]
    rw [pSeg]
    simp only [pExp, if_pos hk36]
    rw [hs37]
    simp only
    first | exact ⟨rfl, _, _, hO40⟩ | exact ⟨trivial, _, _, hO40⟩⟩
                · have hO37 : RdOk s37 L Tp (nI (([] ++ a6).length)) (nI ((([] ++ a6) ++ a24).length)) ((([] ++ a6) ++ a24) ++ a37) b37 := by rw [hs37] at hR37; exact hR37
                  have hg37 := (good_all L 5).2.2 (tkN L (tkN L b24)) (by omega) _ _ hs37
                  obtain ⟨tv37, St37, h37, hv37, hS37, hl37⟩ := id hO37
                  obtain ⟨d37_0, d37_1, d37_2, lt137, lt237⟩ := id h37
                  have hk937 := tkK_lt (L := L) (p := b37)
                  refine x_aload_n dX3_read_79 rfl ?_
                  refine x_bipush (v := nI 59) dX3_read_80 (by decide) ?_
                  refine x_callV m_X3_expect l_X3_34 (c_expect_ok hT hO37 (by omega) (by omega)) rfl d37_0 (by omega) rfl rfl (Nat.le_of_ble_eq_true rfl) ⟨Nat.le_refl _, Nat.le_refl _⟩ dX3_read_82 (fun r41 s41 q41 => ?_)
                  obtain ⟨rfl, hX41, F41⟩ := q41
                  refine x_stk (st' := []) rfl ?_
                  by_cases hk41 : tkK L b37 = 59
                  · have hO41 : RdOk s41 L Tp (nI (([] ++ a6).length)) (nI ((([] ++ a6) ++ a24).length)) ((([] ++ a6) ++ a24) ++ a37) (tkN L b37) := by rw [pExp, if_pos hk41] at hX41; exact hX41
                    have hn41 := tkN_b (show b37 ≤ L.length by omega)
                    have hl941 := lexP_b (show b37 ≤ L.length by omega)
                    obtain ⟨tv41, St41, h41, hv41, hS41, hl41⟩ := id hO41
                    obtain ⟨d41_0, d41_1, d41_2, lt141, lt241⟩ := id h41
                    have hk941 := tkK_lt (L := L) (p := tkN L b37)
                    refine x_aload_n dX3_read_85 rfl ?_
                    refine x_get (v := .int (nI ((tkK L (tkN L b37))))) f_X3_47 d41_0 rfl dX3_read_86 ?_
                    refine x_ifN_eq (tgt := 96) dX3_read_89 (by decide) (by omega) (fun hv42 => ?_) (fun hv42 => ?_)
                    · refine x_aload_n dX3_read_96 rfl ?_
                      refine x_get (v := .int ((-1))) f_X3_28 d41_0 rfl dX3_read_97 ?_
                      exact x_iret ⟨Nat.le_refl _, Nat.le_refl _⟩ rfl dX3_read_100 ⟨(((((((((((((((Fr.rf.tr (Fw1.mono (fun i hi => by omega))).tr (Fw2.mono (fun i hi => by omega))).tr (Fw3.mono (fun i hi => by omega))).tr (F4.mono (fun i hi => by omega))).tr (F5.mono (fun i hi => by omega))).tr (F6.mono (fun i hi => by omega))).tr (F20.mono (fun i hi => by omega))).tr (Fw21.mono (fun i hi => by omega))).tr (F23.mono (fun i hi => by omega))).tr (F24.mono (fun i hi => by omega))).tr (F33.mono (fun i hi => by omega))).tr (Fw34.mono (fun i hi => by omega))).tr (F36.mono (fun i hi => by omega))).tr (F37.mono (fun i hi => by omega))).tr (F41.mono (fun i hi => by omega))), by
    unfold pText
    rw [pSeg]
    simp only [pExp, if_pos hk5]
    rw [hs6]
    simp only [if_pos hk20]
    rw [pSeg]
    simp only [pExp, if_pos hk23]
    rw [hs24]
    simp only [if_pos hk33]
    rw [pSeg]
    simp only [pExp, if_pos hk36]
    rw [hs37]
    simp only [if_pos hk41]
    rw [if_pos hv42]
    first | exact ⟨rfl, _, hO41⟩ | exact ⟨trivial, _, hO41⟩⟩
                    · refine x_aload_n dX3_read_92 rfl ?_
                      refine x_callV m_X3_fail l_X3_50 (c_fail_ok hT hO41 (by omega)) rfl d41_0 (by omega) rfl rfl (Nat.le_of_ble_eq_true rfl) ⟨Nat.le_refl _, Nat.le_refl _⟩ dX3_read_93 (fun r43 s43 q43 => ?_)
                      obtain ⟨rfl, hO43, F43⟩ := q43
                      obtain ⟨ap43, tp43, tv43, sc43, St43, h43, hsc43, hf43⟩ := id hO43
                      obtain ⟨d43_0, d43_1, d43_2, lt143, lt243⟩ := id h43
                      refine x_stk (st' := []) rfl ?_
                      refine x_aload_n dX3_read_96 rfl ?_
                      refine x_get (v := .int (nI ((lexP L (tkN L b37))))) f_X3_28 d43_0 rfl dX3_read_97 ?_
                      exact x_iret ⟨Nat.le_refl _, Nat.le_refl _⟩ rfl dX3_read_100 ⟨((((((((((((((((Fr.rf.tr (Fw1.mono (fun i hi => by omega))).tr (Fw2.mono (fun i hi => by omega))).tr (Fw3.mono (fun i hi => by omega))).tr (F4.mono (fun i hi => by omega))).tr (F5.mono (fun i hi => by omega))).tr (F6.mono (fun i hi => by omega))).tr (F20.mono (fun i hi => by omega))).tr (Fw21.mono (fun i hi => by omega))).tr (F23.mono (fun i hi => by omega))).tr (F24.mono (fun i hi => by omega))).tr (F33.mono (fun i hi => by omega))).tr (Fw34.mono (fun i hi => by omega))).tr (F36.mono (fun i hi => by omega))).tr (F37.mono (fun i hi => by omega))).tr (F41.mono (fun i hi => by omega))).tr (F43.mono (fun i hi => by omega))), by
    unfold pText
    rw [pSeg]
    simp only [pExp, if_pos hk5]
    rw [hs6]
    simp only [if_pos hk20]
    rw [pSeg]
    simp only [pExp, if_pos hk23]
    rw [hs24]
    simp only [if_pos hk33]
    rw [pSeg]
    simp only [pExp, if_pos hk36]
    rw [hs37]
    simp only [if_pos hk41]
    rw [if_neg (by omega)]
    first | exact ⟨rfl, _, _, hO43⟩ | exact ⟨trivial, _, _, hO43⟩⟩
                  · have hO41 : RdFt s41 L Tp (nI (([] ++ a6).length)) (nI ((([] ++ a6) ++ a24).length)) (lexP L b37) := by rw [pExp, if_neg hk41] at hX41; exact hX41
                    obtain ⟨ap41, tp41, tv41, sc41, St41, h41, hsc41, hf41⟩ := id hO41
                    obtain ⟨d41_0, d41_1, d41_2, lt141, lt241⟩ := id h41
                    refine x_aload_n dX3_read_85 rfl ?_
                    refine x_get (v := .int (nI 1)) f_X3_47 d41_0 rfl dX3_read_86 ?_
                    refine x_ifN_eq (tgt := 96) dX3_read_89 (by decide) (by omega) (fun hv44 => ?_) (fun hv44 => ?_)
                    · exact absurd hv44 (by decide)
                    · refine x_aload_n dX3_read_92 rfl ?_
                      refine x_callV m_X3_fail l_X3_50 (c_fail_ft hT hO41) rfl d41_0 (by omega) rfl rfl (Nat.le_of_ble_eq_true rfl) ⟨Nat.le_refl _, Nat.le_refl _⟩ dX3_read_93 (fun r45 s45 q45 => ?_)
                      obtain ⟨rfl, hO45, F45⟩ := q45
                      obtain ⟨ap45, tp45, tv45, sc45, St45, h45, hsc45, hf45⟩ := id hO45
                      obtain ⟨d45_0, d45_1, d45_2, lt145, lt245⟩ := id h45
                      refine x_stk (st' := []) rfl ?_
                      refine x_aload_n dX3_read_96 rfl ?_
                      refine x_get (v := .int (nI ((lexP L b37)))) f_X3_28 d45_0 rfl dX3_read_97 ?_
                      exact x_iret ⟨Nat.le_refl _, Nat.le_refl _⟩ rfl dX3_read_100 ⟨((((((((((((((((Fr.rf.tr (Fw1.mono (fun i hi => by omega))).tr (Fw2.mono (fun i hi => by omega))).tr (Fw3.mono (fun i hi => by omega))).tr (F4.mono (fun i hi => by omega))).tr (F5.mono (fun i hi => by omega))).tr (F6.mono (fun i hi => by omega))).tr (F20.mono (fun i hi => by omega))).tr (Fw21.mono (fun i hi => by omega))).tr (F23.mono (fun i hi => by omega))).tr (F24.mono (fun i hi => by omega))).tr (F33.mono (fun i hi => by omega))).tr (Fw34.mono (fun i hi => by omega))).tr (F36.mono (fun i hi => by omega))).tr (F37.mono (fun i hi => by omega))).tr (F41.mono (fun i hi => by omega))).tr (F45.mono (fun i hi => by omega))), by
    unfold pText
    rw [pSeg]
    simp only [pExp, if_pos hk5]
    rw [hs6]
    simp only [if_pos hk20]
    rw [pSeg]
    simp only [pExp, if_pos hk23]
    rw [hs24]
    simp only [if_pos hk33]
    rw [pSeg]
    simp only [pExp, if_pos hk36]
    rw [hs37]
    simp only [if_neg hk41]
    first | exact ⟨rfl, _, _, hO45⟩ | exact ⟨trivial, _, _, hO45⟩⟩
              · have hO36 : RdFt s36 L Tp (nI (([] ++ a6).length)) (nI ((([] ++ a6) ++ a24).length)) (lexP L (tkN L b24)) := by rw [pExp, if_neg hk36] at hX36; exact hX36
                obtain ⟨ap36, tp36, tv36, sc36, St36, h36, hsc36, hf36⟩ := id hO36
                obtain ⟨d36_0, d36_1, d36_2, lt136, lt236⟩ := id h36
                refine x_aload_n dX3_read_74 rfl ?_
                refine x_iconst (v := nI 0) dX3_read_75 (by decide) ?_
                refine x_callV m_X3_readEither l_X3_38 (c_ei_ft hT hO36) rfl d36_0 (by omega) rfl rfl (Nat.le_of_ble_eq_true rfl) ⟨Nat.le_refl _, Nat.le_refl _⟩ dX3_read_76 (fun r46 s46 q46 => ?_)
                obtain ⟨rfl, hO46, F46⟩ := q46
                obtain ⟨ap46, tp46, tv46, sc46, St46, h46, hsc46, hf46⟩ := id hO46
                obtain ⟨d46_0, d46_1, d46_2, lt146, lt246⟩ := id h46
                refine x_stk (st' := []) rfl ?_
                refine x_aload_n dX3_read_79 rfl ?_
                refine x_bipush (v := nI 59) dX3_read_80 (by decide) ?_
                refine x_callV m_X3_expect l_X3_34 (c_expect_ft hT hO46 (by omega) (by omega)) rfl d46_0 (by omega) rfl rfl (Nat.le_of_ble_eq_true rfl) ⟨Nat.le_refl _, Nat.le_refl _⟩ dX3_read_82 (fun r47 s47 q47 => ?_)
                obtain ⟨rfl, hO47, F47⟩ := q47
                obtain ⟨ap47, tp47, tv47, sc47, St47, h47, hsc47, hf47⟩ := id hO47
                obtain ⟨d47_0, d47_1, d47_2, lt147, lt247⟩ := id h47
                refine x_stk (st' := []) rfl ?_
                refine x_aload_n dX3_read_85 rfl ?_
                refine x_get (v := .int (nI 1)) f_X3_47 d47_0 rfl dX3_read_86 ?_
                refine x_ifN_eq (tgt := 96) dX3_read_89 (by decide) (by omega) (fun hv48 => ?_) (fun hv48 => ?_)
                · exact absurd hv48 (by decide)
                · refine x_aload_n dX3_read_92 rfl ?_
                  refine x_callV m_X3_fail l_X3_50 (c_fail_ft hT hO47) rfl d47_0 (by omega) rfl rfl (Nat.le_of_ble_eq_true rfl) ⟨Nat.le_refl _, Nat.le_refl _⟩ dX3_read_93 (fun r49 s49 q49 => ?_)
                  obtain ⟨rfl, hO49, F49⟩ := q49
                  obtain ⟨ap49, tp49, tv49, sc49, St49, h49, hsc49, hf49⟩ := id hO49
                  obtain ⟨d49_0, d49_1, d49_2, lt149, lt249⟩ := id h49
                  refine x_stk (st' := []) rfl ?_
                  refine x_aload_n dX3_read_96 rfl ?_
                  refine x_get (v := .int (nI ((lexP L (tkN L b24))))) f_X3_28 d49_0 rfl dX3_read_97 ?_
                  exact x_iret ⟨Nat.le_refl _, Nat.le_refl _⟩ rfl dX3_read_100 ⟨((((((((((((((((Fr.rf.tr (Fw1.mono (fun i hi => by omega))).tr (Fw2.mono (fun i hi => by omega))).tr (Fw3.mono (fun i hi => by omega))).tr (F4.mono (fun i hi => by omega))).tr (F5.mono (fun i hi => by omega))).tr (F6.mono (fun i hi => by omega))).tr (F20.mono (fun i hi => by omega))).tr (Fw21.mono (fun i hi => by omega))).tr (F23.mono (fun i hi => by omega))).tr (F24.mono (fun i hi => by omega))).tr (F33.mono (fun i hi => by omega))).tr (Fw34.mono (fun i hi => by omega))).tr (F36.mono (fun i hi => by omega))).tr (F46.mono (fun i hi => by omega))).tr (F47.mono (fun i hi => by omega))).tr (F49.mono (fun i hi => by omega))), by
    unfold pText
    rw [pSeg]
    simp only [pExp, if_pos hk5]
    rw [hs6]
    simp only [if_pos hk20]
    rw [pSeg]
    simp only [pExp, if_pos hk23]
    rw [hs24]
    simp only [if_pos hk33]
    rw [pSeg]
    simp only [pExp, if_neg hk36]
    first | exact ⟨rfl, _, _, hO49⟩ | exact ⟨trivial, _, _, hO49⟩⟩
            · have hO33 : RdFt s33 L Tp (nI (([] ++ a6).length)) jf (lexP L b24) := by rw [pExp, if_neg hk33] at hX33; exact hX33
              obtain ⟨ap33, tp33, tv33, sc33, St33, h33, hsc33, hf33⟩ := id hO33
              obtain ⟨d33_0, d33_1, d33_2, lt133, lt233⟩ := id h33
              refine x_aload_n dX3_read_60 rfl ?_
              refine x_aload_n dX3_read_61 rfl ?_
              refine x_get (v := .int (nI sc33)) f_X3_25 d33_0 rfl dX3_read_62 ?_
              refine x_putK f_X3_44 d33_0 (Nat.le_of_ble_eq_true rfl) (fun c => ⟨rfl, rfl⟩) dX3_read_65 (fun sw50 gw50 Fw50 => ?_)
              have hO51 : RdFt sw50 L Tp (nI (([] ++ a6).length)) (nI sc33) (lexP L b24) := ⟨_, _, _, _, _, ⟨gw50, (Fw50.at (by omega) d33_1), (Fw50.at (by omega) d33_2), lt133, (by first | exact lt233 | (rw [List.length_set]; exact lt233))⟩, hsc33, hf33⟩
              obtain ⟨ap51, tp51, tv51, sc51, St51, h51, hsc51, hf51⟩ := id hO51
              obtain ⟨d51_0, d51_1, d51_2, lt151, lt251⟩ := id h51
              refine x_aload_n dX3_read_68 rfl ?_
              refine x_bipush (v := nI 7) dX3_read_69 (by decide) ?_
              refine x_callV m_X3_expect l_X3_34 (c_expect_ft hT hO51 (by omega) (by omega)) rfl d51_0 (by omega) rfl rfl (Nat.le_of_ble_eq_true rfl) ⟨Nat.le_refl _, Nat.le_refl _⟩ dX3_read_71 (fun r52 s52 q52 => ?_)
              obtain ⟨rfl, hO52, F52⟩ := q52
              obtain ⟨ap52, tp52, tv52, sc52, St52, h52, hsc52, hf52⟩ := id hO52
              obtain ⟨d52_0, d52_1, d52_2, lt152, lt252⟩ := id h52
              refine x_stk (st' := []) rfl ?_
              refine x_aload_n dX3_read_74 rfl ?_
              refine x_iconst (v := nI 0) dX3_read_75 (by decide) ?_
              refine x_callV m_X3_readEither l_X3_38 (c_ei_ft hT hO52) rfl d52_0 (by omega) rfl rfl (Nat.le_of_ble_eq_true rfl) ⟨Nat.le_refl _, Nat.le_refl _⟩ dX3_read_76 (fun r53 s53 q53 => ?_)
              obtain ⟨rfl, hO53, F53⟩ := q53
              obtain ⟨ap53, tp53, tv53, sc53, St53, h53, hsc53, hf53⟩ := id hO53
              obtain ⟨d53_0, d53_1, d53_2, lt153, lt253⟩ := id h53
              refine x_stk (st' := []) rfl ?_
              refine x_aload_n dX3_read_79 rfl ?_
              refine x_bipush (v := nI 59) dX3_read_80 (by decide) ?_
              refine x_callV m_X3_expect l_X3_34 (c_expect_ft hT hO53 (by omega) (by omega)) rfl d53_0 (by omega) rfl rfl (Nat.le_of_ble_eq_true rfl) ⟨Nat.le_refl _, Nat.le_refl _⟩ dX3_read_82 (fun r54 s54 q54 => ?_)
              obtain ⟨rfl, hO54, F54⟩ := q54
              obtain ⟨ap54, tp54, tv54, sc54, St54, h54, hsc54, hf54⟩ := id hO54
              obtain ⟨d54_0, d54_1, d54_2, lt154, lt254⟩ := id h54
              refine x_stk (st' := []) rfl ?_
              refine x_aload_n dX3_read_85 rfl ?_
              refine x_get (v := .int (nI 1)) f_X3_47 d54_0 rfl dX3_read_86 ?_
              refine x_ifN_eq (tgt := 96) dX3_read_89 (by decide) (by omega) (fun hv55 => ?_) (fun hv55 => ?_)
              · exact absurd hv55 (by decide)
              · refine x_aload_n dX3_read_92 rfl ?_
                refine x_callV m_X3_fail l_X3_50 (c_fail_ft hT hO54) rfl d54_0 (by omega) rfl rfl (Nat.le_of_ble_eq_true rfl) ⟨Nat.le_refl _, Nat.le_refl _⟩ dX3_read_93 (fun r56 s56 q56 => ?_)
                obtain ⟨rfl, hO56, F56⟩ := q56
                obtain ⟨ap56, tp56, tv56, sc56, St56, h56, hsc56, hf56⟩ := id hO56
                obtain ⟨d56_0, d56_1, d56_2, lt156, lt256⟩ := id h56
                refine x_stk (st' := []) rfl ?_
                refine x_aload_n dX3_read_96 rfl ?_
                refine x_get (v := .int (nI ((lexP L b24)))) f_X3_28 d56_0 rfl dX3_read_97 ?_
                exact x_iret ⟨Nat.le_refl _, Nat.le_refl _⟩ rfl dX3_read_100 ⟨((((((((((((((((Fr.rf.tr (Fw1.mono (fun i hi => by omega))).tr (Fw2.mono (fun i hi => by omega))).tr (Fw3.mono (fun i hi => by omega))).tr (F4.mono (fun i hi => by omega))).tr (F5.mono (fun i hi => by omega))).tr (F6.mono (fun i hi => by omega))).tr (F20.mono (fun i hi => by omega))).tr (Fw21.mono (fun i hi => by omega))).tr (F23.mono (fun i hi => by omega))).tr (F24.mono (fun i hi => by omega))).tr (F33.mono (fun i hi => by omega))).tr (Fw50.mono (fun i hi => by omega))).tr (F52.mono (fun i hi => by omega))).tr (F53.mono (fun i hi => by omega))).tr (F54.mono (fun i hi => by omega))).tr (F56.mono (fun i hi => by omega))), by
    unfold pText
    rw [pSeg]
    simp only [pExp, if_pos hk5]
    rw [hs6]
    simp only [if_pos hk20]
    rw [pSeg]
    simp only [pExp, if_pos hk23]
    rw [hs24]
    simp only [if_neg hk33]
    first | exact ⟨rfl, _, _, hO56⟩ | exact ⟨trivial, _, _, hO56⟩⟩
        · have hO23 : RdFt s23 L Tp (nI (([] ++ a6).length)) jf (lexP L (tkN L b6)) := by rw [pExp, if_neg hk23] at hX23; exact hX23
          obtain ⟨ap23, tp23, tv23, sc23, St23, h23, hsc23, hf23⟩ := id hO23
          obtain ⟨d23_0, d23_1, d23_2, lt123, lt223⟩ := id h23
          refine x_aload_n dX3_read_49 rfl ?_
          refine x_iconst (v := nI 0) dX3_read_50 (by decide) ?_
          refine x_callV m_X3_readEither l_X3_38 (c_ei_ft hT hO23) rfl d23_0 (by omega) rfl rfl (Nat.le_of_ble_eq_true rfl) ⟨Nat.le_refl _, Nat.le_refl _⟩ dX3_read_51 (fun r57 s57 q57 => ?_)
          obtain ⟨rfl, hO57, F57⟩ := q57
          obtain ⟨ap57, tp57, tv57, sc57, St57, h57, hsc57, hf57⟩ := id hO57
          obtain ⟨d57_0, d57_1, d57_2, lt157, lt257⟩ := id h57
          refine x_stk (st' := []) rfl ?_
          refine x_aload_n dX3_read_54 rfl ?_
          refine x_bipush (v := nI 59) dX3_read_55 (by decide) ?_
          refine x_callV m_X3_expect l_X3_34 (c_expect_ft hT hO57 (by omega) (by omega)) rfl d57_0 (by omega) rfl rfl (Nat.le_of_ble_eq_true rfl) ⟨Nat.le_refl _, Nat.le_refl _⟩ dX3_read_57 (fun r58 s58 q58 => ?_)
          obtain ⟨rfl, hO58, F58⟩ := q58
          obtain ⟨ap58, tp58, tv58, sc58, St58, h58, hsc58, hf58⟩ := id hO58
          obtain ⟨d58_0, d58_1, d58_2, lt158, lt258⟩ := id h58
          refine x_stk (st' := []) rfl ?_
          refine x_aload_n dX3_read_60 rfl ?_
          refine x_aload_n dX3_read_61 rfl ?_
          refine x_get (v := .int (nI sc58)) f_X3_25 d58_0 rfl dX3_read_62 ?_
          refine x_putK f_X3_44 d58_0 (Nat.le_of_ble_eq_true rfl) (fun c => ⟨rfl, rfl⟩) dX3_read_65 (fun sw59 gw59 Fw59 => ?_)
          have hO60 : RdFt sw59 L Tp (nI (([] ++ a6).length)) (nI sc58) (lexP L (tkN L b6)) := ⟨_, _, _, _, _, ⟨gw59, (Fw59.at (by omega) d58_1), (Fw59.at (by omega) d58_2), lt158, (by first | exact lt258 | (rw [List.length_set]; exact lt258))⟩, hsc58, hf58⟩
          obtain ⟨ap60, tp60, tv60, sc60, St60, h60, hsc60, hf60⟩ := id hO60
          obtain ⟨d60_0, d60_1, d60_2, lt160, lt260⟩ := id h60
          refine x_aload_n dX3_read_68 rfl ?_
          refine x_bipush (v := nI 7) dX3_read_69 (by decide) ?_
          refine x_callV m_X3_expect l_X3_34 (c_expect_ft hT hO60 (by omega) (by omega)) rfl d60_0 (by omega) rfl rfl (Nat.le_of_ble_eq_true rfl) ⟨Nat.le_refl _, Nat.le_refl _⟩ dX3_read_71 (fun r61 s61 q61 => ?_)
          obtain ⟨rfl, hO61, F61⟩ := q61
          obtain ⟨ap61, tp61, tv61, sc61, St61, h61, hsc61, hf61⟩ := id hO61
          obtain ⟨d61_0, d61_1, d61_2, lt161, lt261⟩ := id h61
          refine x_stk (st' := []) rfl ?_
          refine x_aload_n dX3_read_74 rfl ?_
          refine x_iconst (v := nI 0) dX3_read_75 (by decide) ?_
          refine x_callV m_X3_readEither l_X3_38 (c_ei_ft hT hO61) rfl d61_0 (by omega) rfl rfl (Nat.le_of_ble_eq_true rfl) ⟨Nat.le_refl _, Nat.le_refl _⟩ dX3_read_76 (fun r62 s62 q62 => ?_)
          obtain ⟨rfl, hO62, F62⟩ := q62
          obtain ⟨ap62, tp62, tv62, sc62, St62, h62, hsc62, hf62⟩ := id hO62
          obtain ⟨d62_0, d62_1, d62_2, lt162, lt262⟩ := id h62
          refine x_stk (st' := []) rfl ?_
          refine x_aload_n dX3_read_79 rfl ?_
          refine x_bipush (v := nI 59) dX3_read_80 (by decide) ?_
          refine x_callV m_X3_expect l_X3_34 (c_expect_ft hT hO62 (by omega) (by omega)) rfl d62_0 (by omega) rfl rfl (Nat.le_of_ble_eq_true rfl) ⟨Nat.le_refl _, Nat.le_refl _⟩ dX3_read_82 (fun r63 s63 q63 => ?_)
          obtain ⟨rfl, hO63, F63⟩ := q63
          obtain ⟨ap63, tp63, tv63, sc63, St63, h63, hsc63, hf63⟩ := id hO63
          obtain ⟨d63_0, d63_1, d63_2, lt163, lt263⟩ := id h63
          refine x_stk (st' := []) rfl ?_
          refine x_aload_n dX3_read_85 rfl ?_
          refine x_get (v := .int (nI 1)) f_X3_47 d63_0 rfl dX3_read_86 ?_
          refine x_ifN_eq (tgt := 96) dX3_read_89 (by decide) (by omega) (fun hv64 => ?_) (fun hv64 => ?_)
          · exact absurd hv64 (by decide)
          · refine x_aload_n dX3_read_92 rfl ?_
            refine x_callV m_X3_fail l_X3_50 (c_fail_ft hT hO63) rfl d63_0 (by omega) rfl rfl (Nat.le_of_ble_eq_true rfl) ⟨Nat.le_refl _, Nat.le_refl _⟩ dX3_read_93 (fun r65 s65 q65 => ?_)
            obtain ⟨rfl, hO65, F65⟩ := q65
            obtain ⟨ap65, tp65, tv65, sc65, St65, h65, hsc65, hf65⟩ := id hO65
            obtain ⟨d65_0, d65_1, d65_2, lt165, lt265⟩ := id h65
            refine x_stk (st' := []) rfl ?_
            refine x_aload_n dX3_read_96 rfl ?_
            refine x_get (v := .int (nI ((lexP L (tkN L b6))))) f_X3_28 d65_0 rfl dX3_read_97 ?_
            exact x_iret ⟨Nat.le_refl _, Nat.le_refl _⟩ rfl dX3_read_100 ⟨((((((((((((((((Fr.rf.tr (Fw1.mono (fun i hi => by omega))).tr (Fw2.mono (fun i hi => by omega))).tr (Fw3.mono (fun i hi => by omega))).tr (F4.mono (fun i hi => by omega))).tr (F5.mono (fun i hi => by omega))).tr (F6.mono (fun i hi => by omega))).tr (F20.mono (fun i hi => by omega))).tr (Fw21.mono (fun i hi => by omega))).tr (F23.mono (fun i hi => by omega))).tr (F57.mono (fun i hi => by omega))).tr (F58.mono (fun i hi => by omega))).tr (Fw59.mono (fun i hi => by omega))).tr (F61.mono (fun i hi => by omega))).tr (F62.mono (fun i hi => by omega))).tr (F63.mono (fun i hi => by omega))).tr (F65.mono (fun i hi => by omega))), by
    unfold pText
    rw [pSeg]
    simp only [pExp, if_pos hk5]
    rw [hs6]
    simp only [if_pos hk20]
    rw [pSeg]
    simp only [pExp, if_neg hk23]
    first | exact ⟨rfl, _, _, hO65⟩ | exact ⟨trivial, _, _, hO65⟩⟩
      · have hO20 : RdFt s20 L Tp lf jf (lexP L b6) := by rw [pExp, if_neg hk20] at hX20; exact hX20
        obtain ⟨ap20, tp20, tv20, sc20, St20, h20, hsc20, hf20⟩ := id hO20
        obtain ⟨d20_0, d20_1, d20_2, lt120, lt220⟩ := id h20
        refine x_aload_n dX3_read_35 rfl ?_
        refine x_aload_n dX3_read_36 rfl ?_
        refine x_get (v := .int (nI sc20)) f_X3_25 d20_0 rfl dX3_read_37 ?_
        refine x_putK f_X3_41 d20_0 (Nat.le_of_ble_eq_true rfl) (fun c => ⟨rfl, rfl⟩) dX3_read_40 (fun sw66 gw66 Fw66 => ?_)
        have hO67 : RdFt sw66 L Tp (nI sc20) jf (lexP L b6) := ⟨_, _, _, _, _, ⟨gw66, (Fw66.at (by omega) d20_1), (Fw66.at (by omega) d20_2), lt120, (by first | exact lt220 | (rw [List.length_set]; exact lt220))⟩, hsc20, hf20⟩
        obtain ⟨ap67, tp67, tv67, sc67, St67, h67, hsc67, hf67⟩ := id hO67
        obtain ⟨d67_0, d67_1, d67_2, lt167, lt267⟩ := id h67
        refine x_aload_n dX3_read_43 rfl ?_
        refine x_bipush (v := nI 6) dX3_read_44 (by decide) ?_
        refine x_callV m_X3_expect l_X3_34 (c_expect_ft hT hO67 (by omega) (by omega)) rfl d67_0 (by omega) rfl rfl (Nat.le_of_ble_eq_true rfl) ⟨Nat.le_refl _, Nat.le_refl _⟩ dX3_read_46 (fun r68 s68 q68 => ?_)
        obtain ⟨rfl, hO68, F68⟩ := q68
        obtain ⟨ap68, tp68, tv68, sc68, St68, h68, hsc68, hf68⟩ := id hO68
        obtain ⟨d68_0, d68_1, d68_2, lt168, lt268⟩ := id h68
        refine x_stk (st' := []) rfl ?_
        refine x_aload_n dX3_read_49 rfl ?_
        refine x_iconst (v := nI 0) dX3_read_50 (by decide) ?_
        refine x_callV m_X3_readEither l_X3_38 (c_ei_ft hT hO68) rfl d68_0 (by omega) rfl rfl (Nat.le_of_ble_eq_true rfl) ⟨Nat.le_refl _, Nat.le_refl _⟩ dX3_read_51 (fun r69 s69 q69 => ?_)
        obtain ⟨rfl, hO69, F69⟩ := q69
        obtain ⟨ap69, tp69, tv69, sc69, St69, h69, hsc69, hf69⟩ := id hO69
        obtain ⟨d69_0, d69_1, d69_2, lt169, lt269⟩ := id h69
        refine x_stk (st' := []) rfl ?_
        refine x_aload_n dX3_read_54 rfl ?_
        refine x_bipush (v := nI 59) dX3_read_55 (by decide) ?_
        refine x_callV m_X3_expect l_X3_34 (c_expect_ft hT hO69 (by omega) (by omega)) rfl d69_0 (by omega) rfl rfl (Nat.le_of_ble_eq_true rfl) ⟨Nat.le_refl _, Nat.le_refl _⟩ dX3_read_57 (fun r70 s70 q70 => ?_)
        obtain ⟨rfl, hO70, F70⟩ := q70
        obtain ⟨ap70, tp70, tv70, sc70, St70, h70, hsc70, hf70⟩ := id hO70
        obtain ⟨d70_0, d70_1, d70_2, lt170, lt270⟩ := id h70
        refine x_stk (st' := []) rfl ?_
        refine x_aload_n dX3_read_60 rfl ?_
        refine x_aload_n dX3_read_61 rfl ?_
        refine x_get (v := .int (nI sc70)) f_X3_25 d70_0 rfl dX3_read_62 ?_
        refine x_putK f_X3_44 d70_0 (Nat.le_of_ble_eq_true rfl) (fun c => ⟨rfl, rfl⟩) dX3_read_65 (fun sw71 gw71 Fw71 => ?_)
        have hO72 : RdFt sw71 L Tp (nI sc20) (nI sc70) (lexP L b6) := ⟨_, _, _, _, _, ⟨gw71, (Fw71.at (by omega) d70_1), (Fw71.at (by omega) d70_2), lt170, (by first | exact lt270 | (rw [List.length_set]; exact lt270))⟩, hsc70, hf70⟩
        obtain ⟨ap72, tp72, tv72, sc72, St72, h72, hsc72, hf72⟩ := id hO72
        obtain ⟨d72_0, d72_1, d72_2, lt172, lt272⟩ := id h72
        refine x_aload_n dX3_read_68 rfl ?_
        refine x_bipush (v := nI 7) dX3_read_69 (by decide) ?_
        refine x_callV m_X3_expect l_X3_34 (c_expect_ft hT hO72 (by omega) (by omega)) rfl d72_0 (by omega) rfl rfl (Nat.le_of_ble_eq_true rfl) ⟨Nat.le_refl _, Nat.le_refl _⟩ dX3_read_71 (fun r73 s73 q73 => ?_)
        obtain ⟨rfl, hO73, F73⟩ := q73
        obtain ⟨ap73, tp73, tv73, sc73, St73, h73, hsc73, hf73⟩ := id hO73
        obtain ⟨d73_0, d73_1, d73_2, lt173, lt273⟩ := id h73
        refine x_stk (st' := []) rfl ?_
        refine x_aload_n dX3_read_74 rfl ?_
        refine x_iconst (v := nI 0) dX3_read_75 (by decide) ?_
        refine x_callV m_X3_readEither l_X3_38 (c_ei_ft hT hO73) rfl d73_0 (by omega) rfl rfl (Nat.le_of_ble_eq_true rfl) ⟨Nat.le_refl _, Nat.le_refl _⟩ dX3_read_76 (fun r74 s74 q74 => ?_)
        obtain ⟨rfl, hO74, F74⟩ := q74
        obtain ⟨ap74, tp74, tv74, sc74, St74, h74, hsc74, hf74⟩ := id hO74
        obtain ⟨d74_0, d74_1, d74_2, lt174, lt274⟩ := id h74
        refine x_stk (st' := []) rfl ?_
        refine x_aload_n dX3_read_79 rfl ?_
        refine x_bipush (v := nI 59) dX3_read_80 (by decide) ?_
        refine x_callV m_X3_expect l_X3_34 (c_expect_ft hT hO74 (by omega) (by omega)) rfl d74_0 (by omega) rfl rfl (Nat.le_of_ble_eq_true rfl) ⟨Nat.le_refl _, Nat.le_refl _⟩ dX3_read_82 (fun r75 s75 q75 => ?_)
        obtain ⟨rfl, hO75, F75⟩ := q75
        obtain ⟨ap75, tp75, tv75, sc75, St75, h75, hsc75, hf75⟩ := id hO75
        obtain ⟨d75_0, d75_1, d75_2, lt175, lt275⟩ := id h75
        refine x_stk (st' := []) rfl ?_
        refine x_aload_n dX3_read_85 rfl ?_
        refine x_get (v := .int (nI 1)) f_X3_47 d75_0 rfl dX3_read_86 ?_
        refine x_ifN_eq (tgt := 96) dX3_read_89 (by decide) (by omega) (fun hv76 => ?_) (fun hv76 => ?_)
        · exact absurd hv76 (by decide)
        · refine x_aload_n dX3_read_92 rfl ?_
          refine x_callV m_X3_fail l_X3_50 (c_fail_ft hT hO75) rfl d75_0 (by omega) rfl rfl (Nat.le_of_ble_eq_true rfl) ⟨Nat.le_refl _, Nat.le_refl _⟩ dX3_read_93 (fun r77 s77 q77 => ?_)
          obtain ⟨rfl, hO77, F77⟩ := q77
          obtain ⟨ap77, tp77, tv77, sc77, St77, h77, hsc77, hf77⟩ := id hO77
          obtain ⟨d77_0, d77_1, d77_2, lt177, lt277⟩ := id h77
          refine x_stk (st' := []) rfl ?_
          refine x_aload_n dX3_read_96 rfl ?_
          refine x_get (v := .int (nI ((lexP L b6)))) f_X3_28 d77_0 rfl dX3_read_97 ?_
          exact x_iret ⟨Nat.le_refl _, Nat.le_refl _⟩ rfl dX3_read_100 ⟨((((((((((((((((Fr.rf.tr (Fw1.mono (fun i hi => by omega))).tr (Fw2.mono (fun i hi => by omega))).tr (Fw3.mono (fun i hi => by omega))).tr (F4.mono (fun i hi => by omega))).tr (F5.mono (fun i hi => by omega))).tr (F6.mono (fun i hi => by omega))).tr (F20.mono (fun i hi => by omega))).tr (Fw66.mono (fun i hi => by omega))).tr (F68.mono (fun i hi => by omega))).tr (F69.mono (fun i hi => by omega))).tr (F70.mono (fun i hi => by omega))).tr (Fw71.mono (fun i hi => by omega))).tr (F73.mono (fun i hi => by omega))).tr (F74.mono (fun i hi => by omega))).tr (F75.mono (fun i hi => by omega))).tr (F77.mono (fun i hi => by omega))), by
    unfold pText
    rw [pSeg]
    simp only [pExp, if_pos hk5]
    rw [hs6]
    simp only [if_neg hk20]
    first | exact ⟨rfl, _, _, hO77⟩ | exact ⟨trivial, _, _, hO77⟩⟩
  · have hO5 : RdFt s5 L Tp lf jf (lexP L 0) := by rw [pExp, if_neg hk5] at hX5; exact hX5
    obtain ⟨ap5, tp5, tv5, sc5, St5, h5, hsc5, hf5⟩ := id hO5
    obtain ⟨d5_0, d5_1, d5_2, lt15, lt25⟩ := id h5
    refine x_aload_n dX3_read_24 rfl ?_
    refine x_iconst (v := nI 0) dX3_read_25 (by decide) ?_
    refine x_callV m_X3_readEither l_X3_38 (c_ei_ft hT hO5) rfl d5_0 (by omega) rfl rfl (Nat.le_of_ble_eq_true rfl) ⟨Nat.le_refl _, Nat.le_refl _⟩ dX3_read_26 (fun r78 s78 q78 => ?_)
    obtain ⟨rfl, hO78, F78⟩ := q78
    obtain ⟨ap78, tp78, tv78, sc78, St78, h78, hsc78, hf78⟩ := id hO78
    obtain ⟨d78_0, d78_1, d78_2, lt178, lt278⟩ := id h78
    refine x_stk (st' := []) rfl ?_
    refine x_aload_n dX3_read_29 rfl ?_
    refine x_bipush (v := nI 59) dX3_read_30 (by decide) ?_
    refine x_callV m_X3_expect l_X3_34 (c_expect_ft hT hO78 (by omega) (by omega)) rfl d78_0 (by omega) rfl rfl (Nat.le_of_ble_eq_true rfl) ⟨Nat.le_refl _, Nat.le_refl _⟩ dX3_read_32 (fun r79 s79 q79 => ?_)
    obtain ⟨rfl, hO79, F79⟩ := q79
    obtain ⟨ap79, tp79, tv79, sc79, St79, h79, hsc79, hf79⟩ := id hO79
    obtain ⟨d79_0, d79_1, d79_2, lt179, lt279⟩ := id h79
    refine x_stk (st' := []) rfl ?_
    refine x_aload_n dX3_read_35 rfl ?_
    refine x_aload_n dX3_read_36 rfl ?_
    refine x_get (v := .int (nI sc79)) f_X3_25 d79_0 rfl dX3_read_37 ?_
    refine x_putK f_X3_41 d79_0 (Nat.le_of_ble_eq_true rfl) (fun c => ⟨rfl, rfl⟩) dX3_read_40 (fun sw80 gw80 Fw80 => ?_)
    have hO81 : RdFt sw80 L Tp (nI sc79) jf (lexP L 0) := ⟨_, _, _, _, _, ⟨gw80, (Fw80.at (by omega) d79_1), (Fw80.at (by omega) d79_2), lt179, (by first | exact lt279 | (rw [List.length_set]; exact lt279))⟩, hsc79, hf79⟩
    obtain ⟨ap81, tp81, tv81, sc81, St81, h81, hsc81, hf81⟩ := id hO81
    obtain ⟨d81_0, d81_1, d81_2, lt181, lt281⟩ := id h81
    refine x_aload_n dX3_read_43 rfl ?_
    refine x_bipush (v := nI 6) dX3_read_44 (by decide) ?_
    refine x_callV m_X3_expect l_X3_34 (c_expect_ft hT hO81 (by omega) (by omega)) rfl d81_0 (by omega) rfl rfl (Nat.le_of_ble_eq_true rfl) ⟨Nat.le_refl _, Nat.le_refl _⟩ dX3_read_46 (fun r82 s82 q82 => ?_)
    obtain ⟨rfl, hO82, F82⟩ := q82
    obtain ⟨ap82, tp82, tv82, sc82, St82, h82, hsc82, hf82⟩ := id hO82
    obtain ⟨d82_0, d82_1, d82_2, lt182, lt282⟩ := id h82
    refine x_stk (st' := []) rfl ?_
    refine x_aload_n dX3_read_49 rfl ?_
    refine x_iconst (v := nI 0) dX3_read_50 (by decide) ?_
    refine x_callV m_X3_readEither l_X3_38 (c_ei_ft hT hO82) rfl d82_0 (by omega) rfl rfl (Nat.le_of_ble_eq_true rfl) ⟨Nat.le_refl _, Nat.le_refl _⟩ dX3_read_51 (fun r83 s83 q83 => ?_)
    obtain ⟨rfl, hO83, F83⟩ := q83
    obtain ⟨ap83, tp83, tv83, sc83, St83, h83, hsc83, hf83⟩ := id hO83
    obtain ⟨d83_0, d83_1, d83_2, lt183, lt283⟩ := id h83
    refine x_stk (st' := []) rfl ?_
    refine x_aload_n dX3_read_54 rfl ?_
    refine x_bipush (v := nI 59) dX3_read_55 (by decide) ?_
    refine x_callV m_X3_expect l_X3_34 (c_expect_ft hT hO83 (by omega) (by omega)) rfl d83_0 (by omega) rfl rfl (Nat.le_of_ble_eq_true rfl) ⟨Nat.le_refl _, Nat.le_refl _⟩ dX3_read_57 (fun r84 s84 q84 => ?_)
    obtain ⟨rfl, hO84, F84⟩ := q84
    obtain ⟨ap84, tp84, tv84, sc84, St84, h84, hsc84, hf84⟩ := id hO84
    obtain ⟨d84_0, d84_1, d84_2, lt184, lt284⟩ := id h84
    refine x_stk (st' := []) rfl ?_
    refine x_aload_n dX3_read_60 rfl ?_
    refine x_aload_n dX3_read_61 rfl ?_
    refine x_get (v := .int (nI sc84)) f_X3_25 d84_0 rfl dX3_read_62 ?_
    refine x_putK f_X3_44 d84_0 (Nat.le_of_ble_eq_true rfl) (fun c => ⟨rfl, rfl⟩) dX3_read_65 (fun sw85 gw85 Fw85 => ?_)
    have hO86 : RdFt sw85 L Tp (nI sc79) (nI sc84) (lexP L 0) := ⟨_, _, _, _, _, ⟨gw85, (Fw85.at (by omega) d84_1), (Fw85.at (by omega) d84_2), lt184, (by first | exact lt284 | (rw [List.length_set]; exact lt284))⟩, hsc84, hf84⟩
    obtain ⟨ap86, tp86, tv86, sc86, St86, h86, hsc86, hf86⟩ := id hO86
    obtain ⟨d86_0, d86_1, d86_2, lt186, lt286⟩ := id h86
    refine x_aload_n dX3_read_68 rfl ?_
    refine x_bipush (v := nI 7) dX3_read_69 (by decide) ?_
    refine x_callV m_X3_expect l_X3_34 (c_expect_ft hT hO86 (by omega) (by omega)) rfl d86_0 (by omega) rfl rfl (Nat.le_of_ble_eq_true rfl) ⟨Nat.le_refl _, Nat.le_refl _⟩ dX3_read_71 (fun r87 s87 q87 => ?_)
    obtain ⟨rfl, hO87, F87⟩ := q87
    obtain ⟨ap87, tp87, tv87, sc87, St87, h87, hsc87, hf87⟩ := id hO87
    obtain ⟨d87_0, d87_1, d87_2, lt187, lt287⟩ := id h87
    refine x_stk (st' := []) rfl ?_
    refine x_aload_n dX3_read_74 rfl ?_
    refine x_iconst (v := nI 0) dX3_read_75 (by decide) ?_
    refine x_callV m_X3_readEither l_X3_38 (c_ei_ft hT hO87) rfl d87_0 (by omega) rfl rfl (Nat.le_of_ble_eq_true rfl) ⟨Nat.le_refl _, Nat.le_refl _⟩ dX3_read_76 (fun r88 s88 q88 => ?_)
    obtain ⟨rfl, hO88, F88⟩ := q88
    obtain ⟨ap88, tp88, tv88, sc88, St88, h88, hsc88, hf88⟩ := id hO88
    obtain ⟨d88_0, d88_1, d88_2, lt188, lt288⟩ := id h88
    refine x_stk (st' := []) rfl ?_
    refine x_aload_n dX3_read_79 rfl ?_
    refine x_bipush (v := nI 59) dX3_read_80 (by decide) ?_
    refine x_callV m_X3_expect l_X3_34 (c_expect_ft hT hO88 (by omega) (by omega)) rfl d88_0 (by omega) rfl rfl (Nat.le_of_ble_eq_true rfl) ⟨Nat.le_refl _, Nat.le_refl _⟩ dX3_read_82 (fun r89 s89 q89 => ?_)
    obtain ⟨rfl, hO89, F89⟩ := q89
    obtain ⟨ap89, tp89, tv89, sc89, St89, h89, hsc89, hf89⟩ := id hO89
    obtain ⟨d89_0, d89_1, d89_2, lt189, lt289⟩ := id h89
    refine x_stk (st' := []) rfl ?_
    refine x_aload_n dX3_read_85 rfl ?_
    refine x_get (v := .int (nI 1)) f_X3_47 d89_0 rfl dX3_read_86 ?_
    refine x_ifN_eq (tgt := 96) dX3_read_89 (by decide) (by omega) (fun hv90 => ?_) (fun hv90 => ?_)
    · exact absurd hv90 (by decide)
    · refine x_aload_n dX3_read_92 rfl ?_
      refine x_callV m_X3_fail l_X3_50 (c_fail_ft hT hO89) rfl d89_0 (by omega) rfl rfl (Nat.le_of_ble_eq_true rfl) ⟨Nat.le_refl _, Nat.le_refl _⟩ dX3_read_93 (fun r91 s91 q91 => ?_)
      obtain ⟨rfl, hO91, F91⟩ := q91
      obtain ⟨ap91, tp91, tv91, sc91, St91, h91, hsc91, hf91⟩ := id hO91
      obtain ⟨d91_0, d91_1, d91_2, lt191, lt291⟩ := id h91
      refine x_stk (st' := []) rfl ?_
      refine x_aload_n dX3_read_96 rfl ?_
      refine x_get (v := .int (nI ((lexP L 0)))) f_X3_28 d91_0 rfl dX3_read_97 ?_
      exact x_iret ⟨Nat.le_refl _, Nat.le_refl _⟩ rfl dX3_read_100 ⟨((((((((((((((((Fr.rf.tr (Fw1.mono (fun i hi => by omega))).tr (Fw2.mono (fun i hi => by omega))).tr (Fw3.mono (fun i hi => by omega))).tr (F4.mono (fun i hi => by omega))).tr (F5.mono (fun i hi => by omega))).tr (F78.mono (fun i hi => by omega))).tr (F79.mono (fun i hi => by omega))).tr (Fw80.mono (fun i hi => by omega))).tr (F82.mono (fun i hi => by omega))).tr (F83.mono (fun i hi => by omega))).tr (F84.mono (fun i hi => by omega))).tr (Fw85.mono (fun i hi => by omega))).tr (F87.mono (fun i hi => by omega))).tr (F88.mono (fun i hi => by omega))).tr (F89.mono (fun i hi => by omega))).tr (F91.mono (fun i hi => by omega))), by
    unfold pText
    rw [pSeg]
    simp only [pExp, if_neg hk5]
    first | exact ⟨rfl, _, _, hO91⟩ | exact ⟨trivial, _, _, hO91⟩⟩
