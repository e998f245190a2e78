theorem l2i_n {t : Int64} {v : Nat} (h : t.toInt = ((v : Nat) : Int)) (hv : v < 2147483648) : t.toInt32 = nI v := by
  rw [← Int32.toInt_inj, Int64.toInt_toInt32, h, nI_toInt hv, Int.bmod_def]
  omega
theorem tk_name {L : List Nat} {p : Nat} (h : tkK L p = 3) : rK L p = 1 := by
  unfold rK
  unfold tkK at h
  by_cases e : L.length ≤ lexP L p
  · rw [if_pos e] at h; omega
  · rw [if_neg e] at h ⊢
    by_cases e2 : isLt (L.getD (lexP L p) 0) = true
    · rw [if_pos e2]
    · rw [if_neg e2] at h
      by_cases e3 : isDg (L.getD (lexP L p) 0) = true
      · rw [if_pos e3] at h
        split at h <;> omega
      · rw [if_neg e3] at h
        by_cases e4 : isSg (L.getD (lexP L p) 0) = true
        · rw [if_pos e4] at h
          have := of_decide_eq_true e4
          omega
        · rw [if_neg e4] at h; omega
theorem tk_w3 {L : List Nat} {p : Nat} (h : rK L p = 1) : tkK L p ≠ 45 ∧ tkK L p ≠ 40 ∧ tkK L p ≠ 2 := by
  rw [(tk_word h).2.2.1]
  cases hw : wIx (wordAt L (lexP L p)) 12 with
  | none => decide
  | some j =>
    have := (wIx_lt hw).1
    rw [wK]
    split <;> omega
set_option maxHeartbeats 4000000 in
theorem e_atom0 {σ0 σ : ZS} {a : Nat → Int32} {tw : Int64} {b : Nat → List Int32} {L : List Nat} {op dd kq p : Nat} {F : List Int32} (hod : op + dd = 5) (hOn : 0 < dd → CE kq M_X8_atom (op + 1) L (pOne L (dd - 1))) (hE : 0 < dd → CE kq M_X8_either (op + 1) L (pEi L (dd - 1))) (hGO : 0 < dd → ∀ p, p ≤ L.length → Good L p (pOne L (dd - 1) p)) (hGE : 0 < dd → ∀ p, p ≤ L.length → Good L p (pEi L (dd - 1) p)) (hR : RM σ0 σ a tw b) (hO : RPok a tw b L p op) (hp : p ≤ L.length) (hF : FF a F) : Cn (kq + 5) M_X8_atom 0 0 [.ref 1000] σ (fun r9 σ' => ∃ (v : Int32) (a' : Nat → Int32) (tw' : Int64), r9 = some (.int v) ∧ RM σ0 σ' a' tw' b ∧ FrA a a' ∧ RPr a' tw' b L op F v (pOne L dd p)) := by
  obtain ⟨hy, ⟨t25, t24, t23, t2, t3⟩, t27, t28⟩ := id hO
  obtain ⟨f0, hx1, hx2, hx3, hx4, hx5, hx6⟩ := id hy
  have hk9 := tkK_lt (L := L) (p := p)
  have hlp := lexP_b hp
  have hnp := tkN_b hp
  have hrk := rK_le L p
  refine Cn.intro (lv0 := [some (.ref 1000), none]) rfl (Nat.le_of_ble_eq_true rfl) rfl (fun d hd => ?_)
  refine x_iconst (v := nI 0) dX8_atom_0 (by decide) ?_
  refine x_istore_n dX8_atom_1 (by decide) rfl ?_
  refine x_lv (lv' := [some (.ref 1000), some (.int (nI 0))]) rfl ?_
  refine x_aload_n dX8_atom_2 rfl ?_
  refine x_bipush (v := nI 45) dX8_atom_3 (by decide) ?_
  refine x_callV m_X8_isSign l_X8_212 (r_isSign hR hO (by omega) (by omega)) rfl hR.2.1 (by omega) rfl rfl (Nat.le_of_ble_eq_true rfl) ⟨Nat.le_refl _, Nat.le_refl _⟩ dX8_atom_5 (fun r1 s1 q1 => ?_)
  obtain ⟨rfl, eq1⟩ := q1
  obtain rfl := eq1.symm
  refine x_stk (st' := [.int (bI (decide (tkK L p = 45)))]) rfl ?_
  refine x_ifP_eq (P := tkK L p = 45) inferInstance (tgt := 37) dX8_atom_8 (by decide) (fun hv2 => ?_) (fun hv2 => ?_)
  · refine x_aload_n dX8_atom_37 rfl ?_
    refine x_bipush (v := nI 40) dX8_atom_38 (by decide) ?_
    refine x_callV m_X8_isSign l_X8_212 (r_isSign hR hO (by omega) (by omega)) rfl hR.2.1 (by omega) rfl rfl (Nat.le_of_ble_eq_true rfl) ⟨Nat.le_refl _, Nat.le_refl _⟩ dX8_atom_40 (fun r3 s3 q3 => ?_)
    obtain ⟨rfl, eq3⟩ := q3
    obtain rfl := eq3.symm
    refine x_stk (st' := [.int (bI (decide (tkK L p = 40)))]) rfl ?_
    refine x_ifP_eq (P := tkK L p = 40) inferInstance (tgt := 95) dX8_atom_43 (by decide) (fun hv4 => ?_) (fun hv4 => ?_)
    · refine x_aload_n dX8_atom_95 rfl ?_
      refine x_rget (v := .int (nI 0)) f_X8_171 hR (rg t28) dX8_atom_96 ?_
      refine x_ifN_ne (tgt := 123) dX8_atom_99 (by decide) (by omega) (fun hv5 => ?_) (fun hv5 => ?_)
      · exact absurd hv5 (by decide)
      · refine x_aload_n dX8_atom_102 rfl ?_
        refine x_rget (v := .int (nI ((rK L p)))) f_X8_156 hR (rg t24) dX8_atom_103 ?_
        refine x_iconst (v := nI 2) dX8_atom_106 (by decide) ?_
        refine x_icmpN_ne (tgt := 123) dX8_atom_107 (by decide) (by omega) (by omega) (fun hv6 => ?_) (fun hv6 => ?_)
        · refine x_aload_n dX8_atom_123 rfl ?_
          refine x_rget (v := .int (nI 0)) f_X8_171 hR (rg t28) dX8_atom_124 ?_
          refine x_ifN_ne (tgt := 157) dX8_atom_127 (by decide) (by omega) (fun hv7 => ?_) (fun hv7 => ?_)
          · exact absurd hv7 (by decide)
          · refine x_aload_n dX8_atom_130 rfl ?_
            refine x_rget (v := .int (nI ((rK L p)))) f_X8_156 hR (rg t24) dX8_atom_131 ?_
            refine x_iconst (v := nI 1) dX8_atom_134 (by decide) ?_
            refine x_icmpN_ne (tgt := 157) dX8_atom_135 (by decide) (by omega) (by omega) (fun hv8 => ?_) (fun hv8 => ?_)
            · have hw1 : ¬ rK L p = 1 := by omega
              refine x_aload_n dX8_atom_157 rfl ?_
              refine x_callV m_X8_fail l_X8_184 (r_fail hR hO (by omega)) rfl hR.2.1 (by omega) rfl rfl (Nat.le_of_ble_eq_true rfl) ⟨Nat.le_refl _, Nat.le_refl _⟩ dX8_atom_158 (fun r9 s9 q9 => ?_)
              obtain ⟨rfl, a9, R9, A9, hO9⟩ := q9
              obtain ⟨t289, t299⟩ := id hO9
              refine x_stk (st' := []) rfl ?_
              refine x_iload_n dX8_atom_161 rfl ?_
              exact x_iret ⟨Nat.le_refl _, Nat.le_refl _⟩ rfl dX8_atom_162 ⟨_, _, _, rfl, R9, (FrA.rf.tr A9), by rw [pOne_eq, if_neg (fun q => by have := tk_num.mp q; omega), if_neg (fun q => hw1 (by have := tk_name q; omega)), if_neg (by omega), if_neg (by omega)]; exact hO9⟩
            · have hw3 := tk_w3 (show rK L p = 1 by omega)
              refine x_aload_n dX8_atom_138 rfl ?_
              refine x_callV m_X8_name l_X8_226 (r_name hR hO (by omega) hF) rfl hR.2.1 (by omega) rfl rfl (Nat.le_of_ble_eq_true rfl) ⟨Nat.le_refl _, Nat.le_refl _⟩ dX8_atom_139 (fun r10 s10 q10 => ?_)
              obtain ⟨v10, a10, tw10, rfl, R10, A10, hq10⟩ := q10
              refine x_stk (st' := [.int v10]) rfl ?_
              by_cases hk3 : tkK L p = 3
              · rw [if_pos hk3] at hq10
                obtain ⟨ea10, et10, ev10⟩ := hq10
                have hO10 : RPok a10 tw10 b L p op := by rw [ea10, et10]; exact hO
                have hF10 := hF.fr A10
                obtain ⟨hy10, ⟨t2510, t2410, t2310, t210, t310⟩, t2710, t2810⟩ := id hO10
                obtain ⟨f010, hx101, hx102, hx103, hx104, hx105, hx106⟩ := id hy10
                refine x_istore_n dX8_atom_142 (by decide) rfl ?_
                refine x_lv (lv' := [some (.ref 1000), some (.int v10)]) rfl ?_
                refine x_aload_n dX8_atom_143 rfl ?_
                refine x_rget (v := .int (nI 0)) f_X8_171 R10 (rg t2810) dX8_atom_144 ?_
                refine x_ifN_ne (tgt := 161) dX8_atom_147 (by decide) (by omega) (fun hv11 => ?_) (fun hv11 => ?_)
                · exact absurd hv11 (by decide)
                · refine x_aload_n dX8_atom_150 rfl ?_
                  refine x_callV m_X8_next l_X8_187 (r_next R10 hy10 (t2310 (show rK L p ≠ 4 from fun q9 => by have := rK4 q9; omega)) (tkN_b (show p ≤ L.length by omega)).2.1) rfl R10.2.1 (by omega) rfl rfl (Nat.le_of_ble_eq_true rfl) ⟨Nat.le_refl _, Nat.le_refl _⟩ dX8_atom_151 (fun r12 s12 q12 => ?_)
                  obtain ⟨rfl, a12, tw12, R12, N12, K12⟩ := q12
                  have A12 := N12.A
                  have hO12 : RPok a12 tw12 b L (tkN L p) op := ⟨hy10.fr A12, K12, (N12 27 (by omega)).trans t2710, (N12 28 (by omega)).trans t2810⟩
                  have hF12 := hF10.fr A12
                  have hn12 := tkN_b (show p ≤ L.length by omega)
                  have hl12 := lexP_b (show p ≤ L.length by omega)
                  obtain ⟨hy12, ⟨t2512, t2412, t2312, t212, t312⟩, t2712, t2812⟩ := id hO12
                  obtain ⟨f012, hx121, hx122, hx123, hx124, hx125, hx126⟩ := id hy12
                  refine x_stk (st' := []) rfl ?_
                  refine x_goto (tgt := 161) dX8_atom_154 (by decide) ?_
                  refine x_iload_n dX8_atom_161 rfl ?_
                  exact x_iret ⟨Nat.le_refl _, Nat.le_refl _⟩ rfl dX8_atom_162 ⟨_, _, _, rfl, R12, ((FrA.rf.tr A10).tr A12), by rw [pOne_eq, if_neg (by omega), if_pos hk3]; exact ⟨hO12, by rw [vE_lo (by have := tkV_name hk3; omega), if_neg (by omega), Nat.add_sub_cancel_left]; exact ev10⟩⟩
              · rw [if_neg hk3] at hq10
                have hO10 := hq10
                obtain ⟨t2810, t2910⟩ := id hO10
                refine x_istore_n dX8_atom_142 (by decide) rfl ?_
                refine x_lv (lv' := [some (.ref 1000), some (.int v10)]) rfl ?_
                refine x_aload_n dX8_atom_143 rfl ?_
                refine x_rget (v := .int (nI 1)) f_X8_171 R10 (rg t2810) dX8_atom_144 ?_
                refine x_ifN_ne (tgt := 161) dX8_atom_147 (by decide) (by omega) (fun hv13 => ?_) (fun hv13 => ?_)
                · refine x_iload_n dX8_atom_161 rfl ?_
                  exact x_iret ⟨Nat.le_refl _, Nat.le_refl _⟩ rfl dX8_atom_162 ⟨_, _, _, rfl, R10, (FrA.rf.tr A10), by rw [pOne_eq, if_neg (fun q => by have := tk_num.mp q; omega), if_neg hk3, if_neg (by omega), if_neg (by omega)]; exact hO10⟩
                · exact absurd hv13 (by decide)
        · have hk2 : tkK L p = 2 := tk_num.mpr (by omega)
          have hvn := tkV_num hk2
          have htw := t2 (by omega)
          refine x_aload_n dX8_atom_110 rfl ?_
          refine x_rget f_X8_167 hR rfl dX8_atom_111 ?_
          refine x_l2i dX8_atom_114 ?_
          refine x_topi (y := nI ((tkV L p))) (l2i_n htw (by omega)) ?_
          refine x_istore_n dX8_atom_115 (by decide) rfl ?_
          refine x_lv (lv' := [some (.ref 1000), some (.int (nI ((tkV L p))))]) rfl ?_
          refine x_aload_n dX8_atom_116 rfl ?_
          refine x_callV m_X8_next l_X8_187 (r_next hR hy (t23 (show rK L p ≠ 4 from fun q9 => by have := rK4 q9; omega)) (tkN_b (show p ≤ L.length by omega)).2.1) rfl hR.2.1 (by omega) rfl rfl (Nat.le_of_ble_eq_true rfl) ⟨Nat.le_refl _, Nat.le_refl _⟩ dX8_atom_117 (fun r14 s14 q14 => ?_)
          obtain ⟨rfl, a14, tw14, R14, N14, K14⟩ := q14
          have A14 := N14.A
          have hO14 : RPok a14 tw14 b L (tkN L p) op := ⟨hy.fr A14, K14, (N14 27 (by omega)).trans t27, (N14 28 (by omega)).trans t28⟩
          have hF14 := hF.fr A14
          have hn14 := tkN_b (show p ≤ L.length by omega)
          have hl14 := lexP_b (show p ≤ L.length by omega)
          obtain ⟨hy14, ⟨t2514, t2414, t2314, t214, t314⟩, t2714, t2814⟩ := id hO14
          obtain ⟨f014, hx141, hx142, hx143, hx144, hx145, hx146⟩ := id hy14
          refine x_stk (st' := []) rfl ?_
          refine x_goto (tgt := 161) dX8_atom_120 (by decide) ?_
          refine x_iload_n dX8_atom_161 rfl ?_
          exact x_iret ⟨Nat.le_refl _, Nat.le_refl _⟩ rfl dX8_atom_162 ⟨_, _, _, rfl, R14, (FrA.rf.tr A14), by rw [pOne_eq, if_pos hk2]; exact ⟨hO14, by rw [vE_lo (by omega), if_pos (by omega)]⟩⟩
    · rcases Nat.eq_zero_or_pos dd with hd0 | hd0
      · skip
        refine x_aload_n dX8_atom_46 rfl ?_
        refine x_callV m_X8_opens l_X8_215 (r_opens_no hR hO (by omega) (by omega)) rfl hR.2.1 (by omega) rfl rfl (Nat.le_of_ble_eq_true rfl) ⟨Nat.le_refl _, Nat.le_refl _⟩ dX8_atom_47 (fun r15 s15 q15 => ?_)
        obtain ⟨rfl, a15, R15, A15, hO15⟩ := q15
        obtain ⟨t2815, t2915⟩ := id hO15
        refine x_stk (st' := [.int (nI 0)]) rfl ?_
        refine x_ifN_eq (tgt := 161) dX8_atom_50 (by decide) (by omega) (fun hv16 => ?_) (fun hv16 => ?_)
        · refine x_iload_n dX8_atom_161 rfl ?_
          exact x_iret ⟨Nat.le_refl _, Nat.le_refl _⟩ rfl dX8_atom_162 ⟨_, _, _, rfl, R15, (FrA.rf.tr A15), by rw [pOne_eq, if_neg (by omega), if_neg (by omega), if_neg (by omega), if_pos (show tkK L p = 40 by omega), if_pos hd0]; exact hO15⟩
        · exact absurd hv16 (by decide)
      · skip
        refine x_aload_n dX8_atom_46 rfl ?_
        refine x_callV m_X8_opens l_X8_215 (r_opens_yes hR hO (by omega) (by omega) (by omega)) rfl hR.2.1 (by omega) rfl rfl (Nat.le_of_ble_eq_true rfl) ⟨Nat.le_refl _, Nat.le_refl _⟩ dX8_atom_47 (fun r17 s17 q17 => ?_)
        obtain ⟨rfl, a17, tw17, R17, A17, hO17⟩ := q17
        have hF17 := hF.fr A17
        obtain ⟨hy17, ⟨t2517, t2417, t2317, t217, t317⟩, t2717, t2817⟩ := id hO17
        obtain ⟨f017, hx171, hx172, hx173, hx174, hx175, hx176⟩ := id hy17
        refine x_stk (st' := [.int (nI 1)]) rfl ?_
        refine x_ifN_eq (tgt := 161) dX8_atom_50 (by decide) (by omega) (fun hv18 => ?_) (fun hv18 => ?_)
        · exact absurd hv18 (by decide)
        · refine x_aload_n dX8_atom_53 rfl ?_
          refine x_callV m_X8_either l_X8_223 ((hE hd0) _ _ _ _ _ F (tkN L p) R17 hO17 (by omega) hF17) rfl R17.2.1 (by omega) rfl rfl (Nat.le_of_ble_eq_true rfl) ⟨Nat.le_refl _, Nat.le_refl _⟩ dX8_atom_54 (fun r19 s19 q19 => ?_)
          obtain ⟨v19, a19, tw19, rfl, R19, A19, hq19⟩ := q19
          refine x_stk (st' := [.int v19]) rfl ?_
          rcases hs19 : (pEi L (dd - 1)) (tkN L p) with e19 | ⟨c19, b19⟩
          · have hO19 : RPft a19 e19 := by rw [hs19] at hq19; exact hq19
            obtain ⟨t2819, t2919⟩ := id hO19
            refine x_istore_n dX8_atom_57 (by decide) rfl ?_
            refine x_lv (lv' := [some (.ref 1000), some (.int v19)]) rfl ?_
            refine x_aload_n dX8_atom_58 rfl ?_
            refine x_bipush (v := nI 41) dX8_atom_59 (by decide) ?_
            refine x_callV m_X8_isSign l_X8_212 (r_isSign_ft R19 hO19) rfl R19.2.1 (by omega) rfl rfl (Nat.le_of_ble_eq_true rfl) ⟨Nat.le_refl _, Nat.le_refl _⟩ dX8_atom_61 (fun r20 s20 q20 => ?_)
            obtain ⟨rfl, eq20⟩ := q20
            obtain rfl := eq20.symm
            refine x_stk (st' := [.int (nI 0)]) rfl ?_
            refine x_ifN_ne (tgt := 71) dX8_atom_64 (by decide) (by omega) (fun hv21 => ?_) (fun hv21 => ?_)
            · exact absurd hv21 (by decide)
            · refine x_aload_n dX8_atom_67 rfl ?_
              refine x_callV m_X8_fail l_X8_184 (r_fail_ft R19 hO19) rfl R19.2.1 (by omega) rfl rfl (Nat.le_of_ble_eq_true rfl) ⟨Nat.le_refl _, Nat.le_refl _⟩ dX8_atom_68 (fun r22 s22 q22 => ?_)
              obtain ⟨rfl, eq22⟩ := q22
              obtain rfl := eq22.symm
              refine x_stk (st' := []) rfl ?_
              refine x_aload_n dX8_atom_71 rfl ?_
              refine x_dup dX8_atom_72 rfl ?_
              refine x_rget f_X8_181 R19 rfl dX8_atom_73 ?_
              refine x_iconst (v := nI 1) dX8_atom_76 (by decide) ?_
              refine x_isub dX8_atom_77 ?_
              refine x_rput (up a19 27 (((a19 27) - nI 1))) tw19 f_X8_181 R19 (by decide) rfl (fun c => ⟨rfl, rfl⟩) dX8_atom_78 (fun sw23 Rw23 => ?_)
              have hO24 : RPft (up a19 27 (((a19 27) - nI 1))) e19 := hO19
              obtain ⟨t2824, t2924⟩ := id hO24
              refine x_aload_n dX8_atom_81 rfl ?_
              refine x_rget (v := .int (nI 1)) f_X8_171 Rw23 (rg t2824) dX8_atom_82 ?_
              refine x_ifN_ne (tgt := 161) dX8_atom_85 (by decide) (by omega) (fun hv25 => ?_) (fun hv25 => ?_)
              · refine x_iload_n dX8_atom_161 rfl ?_
                exact x_iret ⟨Nat.le_refl _, Nat.le_refl _⟩ rfl dX8_atom_162 ⟨_, _, _, rfl, Rw23, (((FrA.rf.tr A17).tr A19).up (show 23 ≤ 27 ∧ 27 ≤ 29 by decide)), by rw [pOne_eq, if_neg (by omega), if_neg (by omega), if_neg (by omega), if_pos (show tkK L p = 40 by omega), if_neg (by omega), hs19]; exact hO24⟩
              · exact absurd hv25 (by decide)
          · have hp19 : RPok a19 tw19 b L b19 (op + 1) ∧ v19 = vE F c19 := by rw [hs19] at hq19; exact hq19
            obtain ⟨hO19, hv19e⟩ := hp19
            have hF19 := hF17.fr A19
            have hg19 := (hGE hd0) (tkN L p) (by omega) _ _ hs19
            obtain ⟨hy19, ⟨t2519, t2419, t2319, t219, t319⟩, t2719, t2819⟩ := id hO19
            obtain ⟨f019, hx191, hx192, hx193, hx194, hx195, hx196⟩ := id hy19
            have hk919 := tkK_lt (L := L) (p := b19)
            refine x_istore_n dX8_atom_57 (by decide) rfl ?_
            refine x_lv (lv' := [some (.ref 1000), some (.int v19)]) rfl ?_
            refine x_aload_n dX8_atom_58 rfl ?_
            refine x_bipush (v := nI 41) dX8_atom_59 (by decide) ?_
            refine x_callV m_X8_isSign l_X8_212 (r_isSign R19 hO19 (by omega) (by omega)) rfl R19.2.1 (by omega) rfl rfl (Nat.le_of_ble_eq_true rfl) ⟨Nat.le_refl _, Nat.le_refl _⟩ dX8_atom_61 (fun r26 s26 q26 => ?_)
            obtain ⟨rfl, eq26⟩ := q26
            obtain rfl := eq26.symm
            refine x_stk (st' := [.int (bI (decide (tkK L b19 = 41)))]) rfl ?_
            refine x_ifP_ne (P := tkK L b19 = 41) inferInstance (tgt := 71) dX8_atom_64 (by decide) (fun hv27 => ?_) (fun hv27 => ?_)
            · refine x_aload_n dX8_atom_71 rfl ?_
              refine x_dup dX8_atom_72 rfl ?_
              refine x_rget (v := .int (nI ((op + 1)))) f_X8_181 R19 (rg t2719) dX8_atom_73 ?_
              refine x_iconst (v := nI 1) dX8_atom_76 (by decide) ?_
              refine x_isubN (by omega) dX8_atom_77 ?_
              refine x_rput (up a19 27 (nI (((op + 1)) - 1))) tw19 f_X8_181 R19 (by decide) rfl (fun c => ⟨rfl, rfl⟩) dX8_atom_78 (fun sw28 Rw28 => ?_)
              have hO29 : RPok (up a19 27 (nI (((op + 1)) - 1))) tw19 b L b19 op := ⟨hy19.fr (FrA.rf.up (show 23 ≤ 27 ∧ 27 ≤ 29 by decide)), ⟨t2519, t2419, t2319, t219, t319⟩, (show nI (op + 1 - 1) = nI op by rw [Nat.add_sub_cancel]), t2819⟩
              have hF29 : FF (up a19 27 (nI (((op + 1)) - 1))) F := hF19.fr (FrA.rf.up (show 23 ≤ 27 ∧ 27 ≤ 29 by decide))
              obtain ⟨hy29, ⟨t2529, t2429, t2329, t229, t329⟩, t2729, t2829⟩ := id hO29
              obtain ⟨f029, hx291, hx292, hx293, hx294, hx295, hx296⟩ := id hy29
              refine x_aload_n dX8_atom_81 rfl ?_
              refine x_rget (v := .int (nI 0)) f_X8_171 Rw28 (rg t2829) dX8_atom_82 ?_
              refine x_ifN_ne (tgt := 161) dX8_atom_85 (by decide) (by omega) (fun hv30 => ?_) (fun hv30 => ?_)
              · exact absurd hv30 (by decide)
              · refine x_aload_n dX8_atom_88 rfl ?_
                refine x_callV m_X8_next l_X8_187 (r_next Rw28 hy29 (t2329 (show rK L b19 ≠ 4 from fun q9 => by have := rK4 q9; omega)) (tkN_b (show b19 ≤ L.length by omega)).2.1) rfl Rw28.2.1 (by omega) rfl rfl (Nat.le_of_ble_eq_true rfl) ⟨Nat.le_refl _, Nat.le_refl _⟩ dX8_atom_89 (fun r31 s31 q31 => ?_)
                obtain ⟨rfl, a31, tw31, R31, N31, K31⟩ := q31
                have A31 := N31.A
                have hO31 : RPok a31 tw31 b L (tkN L b19) op := ⟨hy29.fr A31, K31, (N31 27 (by omega)).trans t2729, (N31 28 (by omega)).trans t2829⟩
                have hF31 := hF29.fr A31
                have hn31 := tkN_b (show b19 ≤ L.length by omega)
                have hl31 := lexP_b (show b19 ≤ L.length by omega)
                obtain ⟨hy31, ⟨t2531, t2431, t2331, t231, t331⟩, t2731, t2831⟩ := id hO31
                obtain ⟨f031, hx311, hx312, hx313, hx314, hx315, hx316⟩ := id hy31
                refine x_stk (st' := []) rfl ?_
                refine x_goto (tgt := 161) dX8_atom_92 (by decide) ?_
                refine x_iload_n dX8_atom_161 rfl ?_
                exact x_iret ⟨Nat.le_refl _, Nat.le_refl _⟩ rfl dX8_atom_162 ⟨_, _, _, rfl, R31, ((((FrA.rf.tr A17).tr A19).up (show 23 ≤ 27 ∧ 27 ≤ 29 by decide)).tr A31), by rw [pOne_eq, if_neg (by omega), if_neg (by omega), if_neg (by omega), if_pos (show tkK L p = 40 by omega), if_neg (by omega), hs19]; simp only; rw [if_pos (by omega)]; exact ⟨hO31, hv19e⟩⟩
            · refine x_aload_n dX8_atom_67 rfl ?_
              refine x_callV m_X8_fail l_X8_184 (r_fail R19 hO19 (by omega)) rfl R19.2.1 (by omega) rfl rfl (Nat.le_of_ble_eq_true rfl) ⟨Nat.le_refl _, Nat.le_refl _⟩ dX8_atom_68 (fun r32 s32 q32 => ?_)
              obtain ⟨rfl, a32, R32, A32, hO32⟩ := q32
              obtain ⟨t2832, t2932⟩ := id hO32
              refine x_stk (st' := []) rfl ?_
              refine x_aload_n dX8_atom_71 rfl ?_
              refine x_dup dX8_atom_72 rfl ?_
              refine x_rget f_X8_181 R32 rfl dX8_atom_73 ?_
              refine x_iconst (v := nI 1) dX8_atom_76 (by decide) ?_
              refine x_isub dX8_atom_77 ?_
              refine x_rput (up a32 27 (((a32 27) - nI 1))) tw19 f_X8_181 R32 (by decide) rfl (fun c => ⟨rfl, rfl⟩) dX8_atom_78 (fun sw33 Rw33 => ?_)
              have hO34 : RPft (up a32 27 (((a32 27) - nI 1))) (lexP L b19) := hO32
              obtain ⟨t2834, t2934⟩ := id hO34
              refine x_aload_n dX8_atom_81 rfl ?_
              refine x_rget (v := .int (nI 1)) f_X8_171 Rw33 (rg t2834) dX8_atom_82 ?_
              refine x_ifN_ne (tgt := 161) dX8_atom_85 (by decide) (by omega) (fun hv35 => ?_) (fun hv35 => ?_)
              · refine x_iload_n dX8_atom_161 rfl ?_
                exact x_iret ⟨Nat.le_refl _, Nat.le_refl _⟩ rfl dX8_atom_162 ⟨_, _, _, rfl, Rw33, ((((FrA.rf.tr A17).tr A19).tr A32).up (show 23 ≤ 27 ∧ 27 ≤ 29 by decide)), by rw [pOne_eq, if_neg (by omega), if_neg (by omega), if_neg (by omega), if_pos (show tkK L p = 40 by omega), if_neg (by omega), hs19]; simp only; rw [if_neg (by omega)]; exact hO34⟩
              · exact absurd hv35 (by decide)
  · rcases Nat.eq_zero_or_pos dd with hd0 | hd0
    · skip
      refine x_aload_n dX8_atom_11 rfl ?_
      refine x_callV m_X8_opens l_X8_215 (r_opens_no hR hO (by omega) (by omega)) rfl hR.2.1 (by omega) rfl rfl (Nat.le_of_ble_eq_true rfl) ⟨Nat.le_refl _, Nat.le_refl _⟩ dX8_atom_12 (fun r36 s36 q36 => ?_)
      obtain ⟨rfl, a36, R36, A36, hO36⟩ := q36
      obtain ⟨t2836, t2936⟩ := id hO36
      refine x_stk (st' := [.int (nI 0)]) rfl ?_
      refine x_ifN_eq (tgt := 161) dX8_atom_15 (by decide) (by omega) (fun hv37 => ?_) (fun hv37 => ?_)
      · refine x_iload_n dX8_atom_161 rfl ?_
        exact x_iret ⟨Nat.le_refl _, Nat.le_refl _⟩ rfl dX8_atom_162 ⟨_, _, _, rfl, R36, (FrA.rf.tr A36), by rw [pOne_eq, if_neg (by omega), if_neg (by omega), if_pos (show tkK L p = 45 by omega), if_pos hd0]; exact hO36⟩
      · exact absurd hv37 (by decide)
    · skip
      refine x_aload_n dX8_atom_11 rfl ?_
      refine x_callV m_X8_opens l_X8_215 (r_opens_yes hR hO (by omega) (by omega) (by omega)) rfl hR.2.1 (by omega) rfl rfl (Nat.le_of_ble_eq_true rfl) ⟨Nat.le_refl _, Nat.le_refl _⟩ dX8_atom_12 (fun r38 s38 q38 => ?_)
      obtain ⟨rfl, a38, tw38, R38, A38, hO38⟩ := q38
      have hF38 := hF.fr A38
      obtain ⟨hy38, ⟨t2538, t2438, t2338, t238, t338⟩, t2738, t2838⟩ := id hO38
      obtain ⟨f038, hx381, hx382, hx383, hx384, hx385, hx386⟩ := id hy38
      refine x_stk (st' := [.int (nI 1)]) rfl ?_
      refine x_ifN_eq (tgt := 161) dX8_atom_15 (by decide) (by omega) (fun hv39 => ?_) (fun hv39 => ?_)
      · exact absurd hv39 (by decide)
      · refine x_aload_n dX8_atom_18 rfl ?_
        refine x_callV m_X8_atom l_X8_219 ((hOn hd0) _ _ _ _ _ F (tkN L p) R38 hO38 (by omega) hF38) rfl R38.2.1 (by omega) rfl rfl (Nat.le_of_ble_eq_true rfl) ⟨Nat.le_refl _, Nat.le_refl _⟩ dX8_atom_19 (fun r40 s40 q40 => ?_)
        obtain ⟨v40, a40, tw40, rfl, R40, A40, hq40⟩ := q40
        refine x_stk (st' := [.int v40]) rfl ?_
        rcases hs40 : (pOne L (dd - 1)) (tkN L p) with e40 | ⟨c40, b40⟩
        · have hO40 : RPft a40 e40 := by rw [hs40] at hq40; exact hq40
          obtain ⟨t2840, t2940⟩ := id hO40
          refine x_ineg dX8_atom_22 ?_
          refine x_istore_n dX8_atom_23 (by decide) rfl ?_
          refine x_lv (lv' := [some (.ref 1000), some (.int ((-(v40))))]) rfl ?_
          refine x_aload_n dX8_atom_24 rfl ?_
          refine x_dup dX8_atom_25 rfl ?_
          refine x_rget f_X8_181 R40 rfl dX8_atom_26 ?_
          refine x_iconst (v := nI 1) dX8_atom_29 (by decide) ?_
          refine x_isub dX8_atom_30 ?_
          refine x_rput (up a40 27 (((a40 27) - nI 1))) tw40 f_X8_181 R40 (by decide) rfl (fun c => ⟨rfl, rfl⟩) dX8_atom_31 (fun sw41 Rw41 => ?_)
          have hO42 : RPft (up a40 27 (((a40 27) - nI 1))) e40 := hO40
          obtain ⟨t2842, t2942⟩ := id hO42
          refine x_goto (tgt := 161) dX8_atom_34 (by decide) ?_
          refine x_iload_n dX8_atom_161 rfl ?_
          exact x_iret ⟨Nat.le_refl _, Nat.le_refl _⟩ rfl dX8_atom_162 ⟨_, _, _, rfl, Rw41, (((FrA.rf.tr A38).tr A40).up (show 23 ≤ 27 ∧ 27 ≤ 29 by decide)), by rw [pOne_eq, if_neg (by omega), if_neg (by omega), if_pos (show tkK L p = 45 by omega), if_neg (by omega), hs40]; exact hO42⟩
        · have hp40 : RPok a40 tw40 b L b40 (op + 1) ∧ v40 = vE F c40 := by rw [hs40] at hq40; exact hq40
          obtain ⟨hO40, hv40e⟩ := hp40
          have hF40 := hF38.fr A40
          have hg40 := (hGO hd0) (tkN L p) (by omega) _ _ hs40
          obtain ⟨hy40, ⟨t2540, t2440, t2340, t240, t340⟩, t2740, t2840⟩ := id hO40
          obtain ⟨f040, hx401, hx402, hx403, hx404, hx405, hx406⟩ := id hy40
          have hk940 := tkK_lt (L := L) (p := b40)
          refine x_ineg dX8_atom_22 ?_
          refine x_istore_n dX8_atom_23 (by decide) rfl ?_
          refine x_lv (lv' := [some (.ref 1000), some (.int ((-(v40))))]) rfl ?_
          refine x_aload_n dX8_atom_24 rfl ?_
          refine x_dup dX8_atom_25 rfl ?_
          refine x_rget (v := .int (nI ((op + 1)))) f_X8_181 R40 (rg t2740) dX8_atom_26 ?_
          refine x_iconst (v := nI 1) dX8_atom_29 (by decide) ?_
          refine x_isubN (by omega) dX8_atom_30 ?_
          refine x_rput (up a40 27 (nI (((op + 1)) - 1))) tw40 f_X8_181 R40 (by decide) rfl (fun c => ⟨rfl, rfl⟩) dX8_atom_31 (fun sw43 Rw43 => ?_)
          have hO44 : RPok (up a40 27 (nI (((op + 1)) - 1))) tw40 b L b40 op := ⟨hy40.fr (FrA.rf.up (show 23 ≤ 27 ∧ 27 ≤ 29 by decide)), ⟨t2540, t2440, t2340, t240, t340⟩, (show nI (op + 1 - 1) = nI op by rw [Nat.add_sub_cancel]), t2840⟩
          have hF44 : FF (up a40 27 (nI (((op + 1)) - 1))) F := hF40.fr (FrA.rf.up (show 23 ≤ 27 ∧ 27 ≤ 29 by decide))
          obtain ⟨hy44, ⟨t2544, t2444, t2344, t244, t344⟩, t2744, t2844⟩ := id hO44
          obtain ⟨f044, hx441, hx442, hx443, hx444, hx445, hx446⟩ := id hy44
          refine x_goto (tgt := 161) dX8_atom_34 (by decide) ?_
          refine x_iload_n dX8_atom_161 rfl ?_
          exact x_iret ⟨Nat.le_refl _, Nat.le_refl _⟩ rfl dX8_atom_162 ⟨_, _, _, rfl, Rw43, (((FrA.rf.tr A38).tr A40).up (show 23 ≤ 27 ∧ 27 ≤ 29 by decide)), by rw [pOne_eq, if_neg (by omega), if_neg (by omega), if_pos (show tkK L p = 45 by omega), if_neg (by omega), hs40]; exact ⟨hO44, by rw [vE_tn hg40.2.2.2 (Or.inl rfl), hv40e]; rfl⟩⟩
set_option maxHeartbeats 4000000 in
theorem e_not0 {σ0 σ : ZS} {a : Nat → Int32} {tw : Int64} {b : Nat → List Int32} {L : List Nat} {op dd kq p : Nat} {F : List Int32} (hod : op + dd = 5) (hN : 0 < dd → CE kq M_X8_not (op + 1) L (pNot L (dd - 1))) (hS9 : CE kq M_X8_added op L (pSum L dd)) (hGN : 0 < dd → ∀ p, p ≤ L.length → Good L p (pNot L (dd - 1) p)) (hGS : ∀ p, p ≤ L.length → Good L p (pSum L dd p)) (hR : RM σ0 σ a tw b) (hO : RPok a tw b L p op) (hp : p ≤ L.length) (hF : FF a F) : Cn (kq + 5) M_X8_not 0 0 [.ref 1000] σ (fun r9 σ' => ∃ (v : Int32) (a' : Nat → Int32) (tw' : Int64), r9 = some (.int v) ∧ RM σ0 σ' a' tw' b ∧ FrA a a' ∧ RPr a' tw' b L op F v (pNot L dd p)) := by
  obtain ⟨hy, ⟨t25, t24, t23, t2, t3⟩, t27, t28⟩ := id hO
  obtain ⟨f0, hx1, hx2, hx3, hx4, hx5, hx6⟩ := id hy
  have hk9 := tkK_lt (L := L) (p := p)
  have hlp := lexP_b hp
  have hnp := tkN_b hp
  have hrk := rK_le L p
  refine Cn.intro (lv0 := [some (.ref 1000), none, none, none]) rfl (Nat.le_of_ble_eq_true rfl) rfl (fun d hd => ?_)
  refine x_aload_n dX8_not_0 rfl ?_
  refine x_bipush (v := nI 110) dX8_not_1 (by decide) ?_
  refine x_bipush (v := nI 111) dX8_not_3 (by decide) ?_
  refine x_bipush (v := nI 116) dX8_not_5 (by decide) ?_
  refine x_iconst (v := nI 0) dX8_not_7 (by decide) ?_
  refine x_iconst (v := nI 0) dX8_not_8 (by decide) ?_
  refine x_iconst (v := nI 0) dX8_not_9 (by decide) ?_
  refine x_iconst (v := nI 0) dX8_not_10 (by decide) ?_
  refine x_iconst (v := nI 0) dX8_not_11 (by decide) ?_
  refine x_callV m_X8_isWord l_X8_190 (r_isKey hR hO (by omega) (k := 5) (by omega)) rfl hR.2.1 (by omega) rfl rfl (Nat.le_of_ble_eq_true rfl) ⟨Nat.le_refl _, Nat.le_refl _⟩ dX8_not_12 (fun r1 s1 q1 => ?_)
  obtain ⟨rfl, eq1⟩ := q1
  obtain rfl := eq1.symm
  refine x_stk (st' := [.int (bI (decide (tkK L p = 5 + 5)))]) rfl ?_
  refine x_ifP_eq (P := tkK L p = 5 + 5) inferInstance (tgt := 52) dX8_not_15 (by decide) (fun hv2 => ?_) (fun hv2 => ?_)
  · refine x_aload_n dX8_not_52 rfl ?_
    refine x_callV m_X8_added l_X8_237 (hS9 _ _ _ _ _ F p hR hO (by omega) hF) rfl hR.2.1 (by omega) rfl rfl (Nat.le_of_ble_eq_true rfl) ⟨Nat.le_refl _, Nat.le_refl _⟩ dX8_not_53 (fun r3 s3 q3 => ?_)
    obtain ⟨v3, a3, tw3, rfl, R3, A3, hq3⟩ := q3
    refine x_stk (st' := [.int v3]) rfl ?_
    rcases hs3 : (pSum L dd) p with e3 | ⟨c3, b3⟩
    · have hO3 : RPft a3 e3 := by rw [hs3] at hq3; exact hq3
      obtain ⟨t283, t293⟩ := id hO3
      refine x_istore_n dX8_not_56 (by decide) rfl ?_
      refine x_lv (lv' := [some (.ref 1000), some (.int v3), none, none]) rfl ?_
      refine x_aload_n dX8_not_57 rfl ?_
      refine x_bipush (v := nI 60) dX8_not_58 (by decide) ?_
      refine x_callV m_X8_isSign l_X8_212 (r_isSign_ft R3 hO3) rfl R3.2.1 (by omega) rfl rfl (Nat.le_of_ble_eq_true rfl) ⟨Nat.le_refl _, Nat.le_refl _⟩ dX8_not_60 (fun r4 s4 q4 => ?_)
      obtain ⟨rfl, eq4⟩ := q4
      obtain rfl := eq4.symm
      refine x_stk (st' := [.int (nI 0)]) rfl ?_
      refine x_ifN_ne (tgt := 77) dX8_not_63 (by decide) (by omega) (fun hv5 => ?_) (fun hv5 => ?_)
      · exact absurd hv5 (by decide)
      · refine x_aload_n dX8_not_66 rfl ?_
        refine x_bipush (v := nI 61) dX8_not_67 (by decide) ?_
        refine x_callV m_X8_isSign l_X8_212 (r_isSign_ft R3 hO3) rfl R3.2.1 (by omega) rfl rfl (Nat.le_of_ble_eq_true rfl) ⟨Nat.le_refl _, Nat.le_refl _⟩ dX8_not_69 (fun r6 s6 q6 => ?_)
        obtain ⟨rfl, eq6⟩ := q6
        obtain rfl := eq6.symm
        refine x_stk (st' := [.int (nI 0)]) rfl ?_
        refine x_ifN_ne (tgt := 77) dX8_not_72 (by decide) (by omega) (fun hv7 => ?_) (fun hv7 => ?_)
        · exact absurd hv7 (by decide)
        · refine x_iload_n dX8_not_75 rfl ?_
          exact x_iret ⟨Nat.le_refl _, Nat.le_refl _⟩ rfl dX8_not_76 ⟨_, _, _, rfl, R3, (FrA.rf.tr A3), by rw [pNot_eq, if_neg (show ¬ tkK L p = 10 by omega), pCmp, hs3]; exact hO3⟩
    · have hp3 : RPok a3 tw3 b L b3 op ∧ v3 = vE F c3 := by rw [hs3] at hq3; exact hq3
      obtain ⟨hO3, hv3e⟩ := hp3
      have hF3 := hF.fr A3
      have hg3 := hGS p (by omega) _ _ hs3
      obtain ⟨hy3, ⟨t253, t243, t233, t23, t33⟩, t273, t283⟩ := id hO3
      obtain ⟨f03, hx31, hx32, hx33, hx34, hx35, hx36⟩ := id hy3
      have hk93 := tkK_lt (L := L) (p := b3)
      refine x_istore_n dX8_not_56 (by decide) rfl ?_
      refine x_lv (lv' := [some (.ref 1000), some (.int v3), none, none]) rfl ?_
      refine x_aload_n dX8_not_57 rfl ?_
      refine x_bipush (v := nI 60) dX8_not_58 (by decide) ?_
      refine x_callV m_X8_isSign l_X8_212 (r_isSign R3 hO3 (by omega) (by omega)) rfl R3.2.1 (by omega) rfl rfl (Nat.le_of_ble_eq_true rfl) ⟨Nat.le_refl _, Nat.le_refl _⟩ dX8_not_60 (fun r8 s8 q8 => ?_)
      obtain ⟨rfl, eq8⟩ := q8
      obtain rfl := eq8.symm
      refine x_stk (st' := [.int (bI (decide (tkK L b3 = 60)))]) rfl ?_
      refine x_ifP_ne (P := tkK L b3 = 60) inferInstance (tgt := 77) dX8_not_63 (by decide) (fun hv9 => ?_) (fun hv9 => ?_)
      · refine x_aload_n dX8_not_77 rfl ?_
        refine x_rget f_X8_167 R3 rfl dX8_not_78 ?_
        refine x_ldc2 (v := (60)) cl_X8_240 dX8_not_81 ?_
        refine x_lcmp dX8_not_84 ?_
        have hts3 := t33 ((tk_sign (s := tkK L b3) (by omega)).mp rfl).1
        have hts23 := ((tk_sign (L := L) (p := b3) (s := tkK L b3) (by omega)).mp rfl).2
        have h60 : (60 : Int64).toInt = 60 := by decide
        rcases (show (tw3).toInt < (60 : Int64).toInt ∨ (tw3).toInt = (60 : Int64).toInt ∨ (60 : Int64).toInt < (tw3).toInt by omega) with hc | hc | hc
        · refine x_topi (y := (-1)) (lcmp_lt (by omega)) ?_
          refine x_ifT_ne (p := (-1)) (tgt := 92) (by decide) dX8_not_85 (by decide) (fun hv10 => ?_) (fun hv10 => ?_)
          · refine x_iconst (v := nI 0) dX8_not_92 (by decide) ?_
            refine x_istore_n dX8_not_93 (by decide) rfl ?_
            refine x_lv (lv' := [some (.ref 1000), some (.int v3), some (.int (nI 0)), none]) rfl ?_
            refine x_aload_n dX8_not_94 rfl ?_
            refine x_callV m_X8_next l_X8_187 (r_next R3 hy3 (t233 (show rK L b3 ≠ 4 from fun q9 => by have := rK4 q9; omega)) (tkN_b (show b3 ≤ L.length by omega)).2.1) rfl R3.2.1 (by omega) rfl rfl (Nat.le_of_ble_eq_true rfl) ⟨Nat.le_refl _, Nat.le_refl _⟩ dX8_not_95 (fun r11 s11 q11 => ?_)
            obtain ⟨rfl, a11, tw11, R11, N11, K11⟩ := q11
            have A11 := N11.A
            have hO11 : RPok a11 tw11 b L (tkN L b3) op := ⟨hy3.fr A11, K11, (N11 27 (by omega)).trans t273, (N11 28 (by omega)).trans t283⟩
            have hF11 := hF3.fr A11
            have hn11 := tkN_b (show b3 ≤ L.length by omega)
            have hl11 := lexP_b (show b3 ≤ L.length by omega)
            obtain ⟨hy11, ⟨t2511, t2411, t2311, t211, t311⟩, t2711, t2811⟩ := id hO11
            obtain ⟨f011, hx111, hx112, hx113, hx114, hx115, hx116⟩ := id hy11
            refine x_stk (st' := []) rfl ?_
            refine x_aload_n dX8_not_98 rfl ?_
            refine x_callV m_X8_added l_X8_237 (hS9 _ _ _ _ _ F (tkN L b3) R11 hO11 (by omega) hF11) rfl R11.2.1 (by omega) rfl rfl (Nat.le_of_ble_eq_true rfl) ⟨Nat.le_refl _, Nat.le_refl _⟩ dX8_not_99 (fun r12 s12 q12 => ?_)
            obtain ⟨v12, a12, tw12, rfl, R12, A12, hq12⟩ := q12
            refine x_stk (st' := [.int v12]) rfl ?_
            rcases hs12 : (pSum L dd) (tkN L b3) with e12 | ⟨c12, b12⟩
            · have hO12 : RPft a12 e12 := by rw [hs12] at hq12; exact hq12
              obtain ⟨t2812, t2912⟩ := id hO12
              refine x_istore_n dX8_not_102 (by decide) rfl ?_
              refine x_lv (lv' := [some (.ref 1000), some (.int v3), some (.int (nI 0)), some (.int v12)]) rfl ?_
              refine x_iload_n dX8_not_103 rfl ?_
              refine x_ifN_eq (tgt := 115) dX8_not_104 (by decide) (by omega) (fun hv13 => ?_) (fun hv13 => ?_)
              · refine x_iload_n dX8_not_115 rfl ?_
                refine x_iload_n dX8_not_116 rfl ?_
                refine x_icmpT_ne (p := (v3).toInt) (q := (v12).toInt) (tgt := 124) rfl rfl dX8_not_117 (by decide) (fun hv14 => ?_) (fun hv14 => ?_)
                · refine x_iconst (v := nI 0) dX8_not_124 (by decide) ?_
                  exact x_iret ⟨Nat.le_refl _, Nat.le_refl _⟩ rfl dX8_not_125 ⟨_, _, _, rfl, R12, (((FrA.rf.tr A3).tr A11).tr A12), by rw [pNot_eq, if_neg (show ¬ tkK L p = 10 by omega), pCmp, hs3]; simp only; rw [if_pos (by omega), hs12]; exact hO12⟩
                · refine x_iconst (v := nI 1) dX8_not_120 (by decide) ?_
                  refine x_goto (tgt := 125) dX8_not_121 (by decide) ?_
                  exact x_iret ⟨Nat.le_refl _, Nat.le_refl _⟩ rfl dX8_not_125 ⟨_, _, _, rfl, R12, (((FrA.rf.tr A3).tr A11).tr A12), by rw [pNot_eq, if_neg (show ¬ tkK L p = 10 by omega), pCmp, hs3]; simp only; rw [if_pos (by omega), hs12]; exact hO12⟩
              · exact absurd hv13 (by decide)
            · have hp12 : RPok a12 tw12 b L b12 op ∧ v12 = vE F c12 := by rw [hs12] at hq12; exact hq12
              obtain ⟨hO12, hv12e⟩ := hp12
              have hF12 := hF11.fr A12
              have hg12 := hGS (tkN L b3) (by omega) _ _ hs12
              obtain ⟨hy12, ⟨t2512, t2412, t2312, t212, t312⟩, t2712, t2812⟩ := id hO12
              obtain ⟨f012, hx121, hx122, hx123, hx124, hx125, hx126⟩ := id hy12
              have hk912 := tkK_lt (L := L) (p := b12)
              refine x_istore_n dX8_not_102 (by decide) rfl ?_
              refine x_lv (lv' := [some (.ref 1000), some (.int v3), some (.int (nI 0)), some (.int v12)]) rfl ?_
              refine x_iload_n dX8_not_103 rfl ?_
              refine x_ifN_eq (tgt := 115) dX8_not_104 (by decide) (by omega) (fun hv15 => ?_) (fun hv15 => ?_)
              · refine x_iload_n dX8_not_115 rfl ?_
                refine x_iload_n dX8_not_116 rfl ?_
                refine x_icmpT_ne (p := (v3).toInt) (q := (v12).toInt) (tgt := 124) rfl rfl dX8_not_117 (by decide) (fun hv16 => ?_) (fun hv16 => ?_)
                · refine x_iconst (v := nI 0) dX8_not_124 (by decide) ?_
                  exact x_iret ⟨Nat.le_refl _, Nat.le_refl _⟩ rfl dX8_not_125 ⟨_, _, _, rfl, R12, (((FrA.rf.tr A3).tr A11).tr A12), by rw [pNot_eq, if_neg (show ¬ tkK L p = 10 by omega), pCmp, hs3]; simp only; rw [if_pos (by omega), hs12]; exact ⟨hO12, by rw [vE_jn hg3.2.2.2 hg12.2.2.2 (by omega) (by omega), Nat.add_sub_cancel_left, (show tkK L b3 = 61 by omega), ← hv3e, ← hv12e]; exact (jn61_0 hv16).symm⟩⟩
                · refine x_iconst (v := nI 1) dX8_not_120 (by decide) ?_
                  refine x_goto (tgt := 125) dX8_not_121 (by decide) ?_
                  exact x_iret ⟨Nat.le_refl _, Nat.le_refl _⟩ rfl dX8_not_125 ⟨_, _, _, rfl, R12, (((FrA.rf.tr A3).tr A11).tr A12), by rw [pNot_eq, if_neg (show ¬ tkK L p = 10 by omega), pCmp, hs3]; simp only; rw [if_pos (by omega), hs12]; exact ⟨hO12, by rw [vE_jn hg3.2.2.2 hg12.2.2.2 (by omega) (by omega), Nat.add_sub_cancel_left, (show tkK L b3 = 61 by omega), ← hv3e, ← hv12e]; exact (jn61_1 hv16).symm⟩⟩
              · exact absurd hv15 (by decide)
          · refine x_iconst (v := nI 1) dX8_not_88 (by decide) ?_
            refine x_goto (tgt := 93) dX8_not_89 (by decide) ?_
            refine x_istore_n dX8_not_93 (by decide) rfl ?_
            refine x_lv (lv' := [some (.ref 1000), some (.int v3), some (.int (nI 1)), none]) rfl ?_
            refine x_aload_n dX8_not_94 rfl ?_
            refine x_callV m_X8_next l_X8_187 (r_next R3 hy3 (t233 (show rK L b3 ≠ 4 from fun q9 => by have := rK4 q9; omega)) (tkN_b (show b3 ≤ L.length by omega)).2.1) rfl R3.2.1 (by omega) rfl rfl (Nat.le_of_ble_eq_true rfl) ⟨Nat.le_refl _, Nat.le_refl _⟩ dX8_not_95 (fun r17 s17 q17 => ?_)
            obtain ⟨rfl, a17, tw17, R17, N17, K17⟩ := q17
            have A17 := N17.A
            have hO17 : RPok a17 tw17 b L (tkN L b3) op := ⟨hy3.fr A17, K17, (N17 27 (by omega)).trans t273, (N17 28 (by omega)).trans t283⟩
            have hF17 := hF3.fr A17
            have hn17 := tkN_b (show b3 ≤ L.length by omega)
            have hl17 := lexP_b (show b3 ≤ L.length by omega)
            obtain ⟨hy17, ⟨t2517, t2417, t2317, t217, t317⟩, t2717, t2817⟩ := id hO17
            obtain ⟨f017, hx171, hx172, hx173, hx174, hx175, hx176⟩ := id hy17
            refine x_stk (st' := []) rfl ?_
            refine x_aload_n dX8_not_98 rfl ?_
            refine x_callV m_X8_added l_X8_237 (hS9 _ _ _ _ _ F (tkN L b3) R17 hO17 (by omega) hF17) rfl R17.2.1 (by omega) rfl rfl (Nat.le_of_ble_eq_true rfl) ⟨Nat.le_refl _, Nat.le_refl _⟩ dX8_not_99 (fun r18 s18 q18 => ?_)
            obtain ⟨v18, a18, tw18, rfl, R18, A18, hq18⟩ := q18
            refine x_stk (st' := [.int v18]) rfl ?_
            rcases hs18 : (pSum L dd) (tkN L b3) with e18 | ⟨c18, b18⟩
            · have hO18 : RPft a18 e18 := by rw [hs18] at hq18; exact hq18
              obtain ⟨t2818, t2918⟩ := id hO18
              refine x_istore_n dX8_not_102 (by decide) rfl ?_
              refine x_lv (lv' := [some (.ref 1000), some (.int v3), some (.int (nI 1)), some (.int v18)]) rfl ?_
              refine x_iload_n dX8_not_103 rfl ?_
              refine x_ifN_eq (tgt := 115) dX8_not_104 (by decide) (by omega) (fun hv19 => ?_) (fun hv19 => ?_)
              · exact absurd hv19 (by decide)
              · refine x_iload_n dX8_not_107 rfl ?_
                refine x_iload_n dX8_not_108 rfl ?_
                refine x_icmpT_ge (p := (v3).toInt) (q := (v18).toInt) (tgt := 124) rfl rfl dX8_not_109 (by decide) (fun hv20 => ?_) (fun hv20 => ?_)
                · refine x_iconst (v := nI 0) dX8_not_124 (by decide) ?_
                  exact x_iret ⟨Nat.le_refl _, Nat.le_refl _⟩ rfl dX8_not_125 ⟨_, _, _, rfl, R18, (((FrA.rf.tr A3).tr A17).tr A18), by rw [pNot_eq, if_neg (show ¬ tkK L p = 10 by omega), pCmp, hs3]; simp only; rw [if_pos (by omega), hs18]; exact hO18⟩
                · refine x_goto (tgt := 120) dX8_not_112 (by decide) ?_
                  refine x_iconst (v := nI 1) dX8_not_120 (by decide) ?_
                  refine x_goto (tgt := 125) dX8_not_121 (by decide) ?_
                  exact x_iret ⟨Nat.le_refl _, Nat.le_refl _⟩ rfl dX8_not_125 ⟨_, _, _, rfl, R18, (((FrA.rf.tr A3).tr A17).tr A18), by rw [pNot_eq, if_neg (show ¬ tkK L p = 10 by omega), pCmp, hs3]; simp only; rw [if_pos (by omega), hs18]; exact hO18⟩
            · have hp18 : RPok a18 tw18 b L b18 op ∧ v18 = vE F c18 := by rw [hs18] at hq18; exact hq18
              obtain ⟨hO18, hv18e⟩ := hp18
              have hF18 := hF17.fr A18
              have hg18 := hGS (tkN L b3) (by omega) _ _ hs18
              obtain ⟨hy18, ⟨t2518, t2418, t2318, t218, t318⟩, t2718, t2818⟩ := id hO18
              obtain ⟨f018, hx181, hx182, hx183, hx184, hx185, hx186⟩ := id hy18
              have hk918 := tkK_lt (L := L) (p := b18)
              refine x_istore_n dX8_not_102 (by decide) rfl ?_
              refine x_lv (lv' := [some (.ref 1000), some (.int v3), some (.int (nI 1)), some (.int v18)]) rfl ?_
              refine x_iload_n dX8_not_103 rfl ?_
              refine x_ifN_eq (tgt := 115) dX8_not_104 (by decide) (by omega) (fun hv21 => ?_) (fun hv21 => ?_)
              · exact absurd hv21 (by decide)
              · refine x_iload_n dX8_not_107 rfl ?_
                refine x_iload_n dX8_not_108 rfl ?_
                refine x_icmpT_ge (p := (v3).toInt) (q := (v18).toInt) (tgt := 124) rfl rfl dX8_not_109 (by decide) (fun hv22 => ?_) (fun hv22 => ?_)
                · refine x_iconst (v := nI 0) dX8_not_124 (by decide) ?_
                  exact x_iret ⟨Nat.le_refl _, Nat.le_refl _⟩ rfl dX8_not_125 ⟨_, _, _, rfl, R18, (((FrA.rf.tr A3).tr A17).tr A18), by rw [pNot_eq, if_neg (show ¬ tkK L p = 10 by omega), pCmp, hs3]; simp only; rw [if_pos (by omega), hs18]; exact ⟨hO18, by rw [vE_jn hg3.2.2.2 hg18.2.2.2 (by omega) (by omega), Nat.add_sub_cancel_left, (show tkK L b3 = 60 by omega), ← hv3e, ← hv18e]; exact (jn60_0 hv22).symm⟩⟩
                · refine x_goto (tgt := 120) dX8_not_112 (by decide) ?_
                  refine x_iconst (v := nI 1) dX8_not_120 (by decide) ?_
                  refine x_goto (tgt := 125) dX8_not_121 (by decide) ?_
                  exact x_iret ⟨Nat.le_refl _, Nat.le_refl _⟩ rfl dX8_not_125 ⟨_, _, _, rfl, R18, (((FrA.rf.tr A3).tr A17).tr A18), by rw [pNot_eq, if_neg (show ¬ tkK L p = 10 by omega), pCmp, hs3]; simp only; rw [if_pos (by omega), hs18]; exact ⟨hO18, by rw [vE_jn hg3.2.2.2 hg18.2.2.2 (by omega) (by omega), Nat.add_sub_cancel_left, (show tkK L b3 = 60 by omega), ← hv3e, ← hv18e]; exact (jn60_1 hv22).symm⟩⟩
        · refine x_topi (y := nI 0) (lcmp_eq (by omega)) ?_
          refine x_ifN_ne (tgt := 92) dX8_not_85 (by decide) (by omega) (fun hv23 => ?_) (fun hv23 => ?_)
          · exact absurd hv23 (by decide)
          · refine x_iconst (v := nI 1) dX8_not_88 (by decide) ?_
            refine x_goto (tgt := 93) dX8_not_89 (by decide) ?_
            refine x_istore_n dX8_not_93 (by decide) rfl ?_
            refine x_lv (lv' := [some (.ref 1000), some (.int v3), some (.int (nI 1)), none]) rfl ?_
            refine x_aload_n dX8_not_94 rfl ?_
            refine x_callV m_X8_next l_X8_187 (r_next R3 hy3 (t233 (show rK L b3 ≠ 4 from fun q9 => by have := rK4 q9; omega)) (tkN_b (show b3 ≤ L.length by omega)).2.1) rfl R3.2.1 (by omega) rfl rfl (Nat.le_of_ble_eq_true rfl) ⟨Nat.le_refl _, Nat.le_refl _⟩ dX8_not_95 (fun r24 s24 q24 => ?_)
            obtain ⟨rfl, a24, tw24, R24, N24, K24⟩ := q24
            have A24 := N24.A
            have hO24 : RPok a24 tw24 b L (tkN L b3) op := ⟨hy3.fr A24, K24, (N24 27 (by omega)).trans t273, (N24 28 (by omega)).trans t283⟩
            have hF24 := hF3.fr A24
            have hn24 := tkN_b (show b3 ≤ L.length by omega)
            have hl24 := lexP_b (show b3 ≤ L.length by omega)
            obtain ⟨hy24, ⟨t2524, t2424, t2324, t224, t324⟩, t2724, t2824⟩ := id hO24
            obtain ⟨f024, hx241, hx242, hx243, hx244, hx245, hx246⟩ := id hy24
            refine x_stk (st' := []) rfl ?_
            refine x_aload_n dX8_not_98 rfl ?_
            refine x_callV m_X8_added l_X8_237 (hS9 _ _ _ _ _ F (tkN L b3) R24 hO24 (by omega) hF24) rfl R24.2.1 (by omega) rfl rfl (Nat.le_of_ble_eq_true rfl) ⟨Nat.le_refl _, Nat.le_refl _⟩ dX8_not_99 (fun r25 s25 q25 => ?_)
            obtain ⟨v25, a25, tw25, rfl, R25, A25, hq25⟩ := q25
            refine x_stk (st' := [.int v25]) rfl ?_
            rcases hs25 : (pSum L dd) (tkN L b3) with e25 | ⟨c25, b25⟩
            · have hO25 : RPft a25 e25 := by rw [hs25] at hq25; exact hq25
              obtain ⟨t2825, t2925⟩ := id hO25
              refine x_istore_n dX8_not_102 (by decide) rfl ?_
              refine x_lv (lv' := [some (.ref 1000), some (.int v3), some (.int (nI 1)), some (.int v25)]) rfl ?_
              refine x_iload_n dX8_not_103 rfl ?_
              refine x_ifN_eq (tgt := 115) dX8_not_104 (by decide) (by omega) (fun hv26 => ?_) (fun hv26 => ?_)
              · exact absurd hv26 (by decide)
              · refine x_iload_n dX8_not_107 rfl ?_
                refine x_iload_n dX8_not_108 rfl ?_
                refine x_icmpT_ge (p := (v3).toInt) (q := (v25).toInt) (tgt := 124) rfl rfl dX8_not_109 (by decide) (fun hv27 => ?_) (fun hv27 => ?_)
                · refine x_iconst (v := nI 0) dX8_not_124 (by decide) ?_
                  exact x_iret ⟨Nat.le_refl _, Nat.le_refl _⟩ rfl dX8_not_125 ⟨_, _, _, rfl, R25, (((FrA.rf.tr A3).tr A24).tr A25), by rw [pNot_eq, if_neg (show ¬ tkK L p = 10 by omega), pCmp, hs3]; simp only; rw [if_pos (by omega), hs25]; exact hO25⟩
                · refine x_goto (tgt := 120) dX8_not_112 (by decide) ?_
                  refine x_iconst (v := nI 1) dX8_not_120 (by decide) ?_
                  refine x_goto (tgt := 125) dX8_not_121 (by decide) ?_
                  exact x_iret ⟨Nat.le_refl _, Nat.le_refl _⟩ rfl dX8_not_125 ⟨_, _, _, rfl, R25, (((FrA.rf.tr A3).tr A24).tr A25), by rw [pNot_eq, if_neg (show ¬ tkK L p = 10 by omega), pCmp, hs3]; simp only; rw [if_pos (by omega), hs25]; exact hO25⟩
            · have hp25 : RPok a25 tw25 b L b25 op ∧ v25 = vE F c25 := by rw [hs25] at hq25; exact hq25
              obtain ⟨hO25, hv25e⟩ := hp25
              have hF25 := hF24.fr A25
              have hg25 := hGS (tkN L b3) (by omega) _ _ hs25
              obtain ⟨hy25, ⟨t2525, t2425, t2325, t225, t325⟩, t2725, t2825⟩ := id hO25
              obtain ⟨f025, hx251, hx252, hx253, hx254, hx255, hx256⟩ := id hy25
              have hk925 := tkK_lt (L := L) (p := b25)
              refine x_istore_n dX8_not_102 (by decide) rfl ?_
              refine x_lv (lv' := [some (.ref 1000), some (.int v3), some (.int (nI 1)), some (.int v25)]) rfl ?_
              refine x_iload_n dX8_not_103 rfl ?_
              refine x_ifN_eq (tgt := 115) dX8_not_104 (by decide) (by omega) (fun hv28 => ?_) (fun hv28 => ?_)
              · exact absurd hv28 (by decide)
              · refine x_iload_n dX8_not_107 rfl ?_
                refine x_iload_n dX8_not_108 rfl ?_
                refine x_icmpT_ge (p := (v3).toInt) (q := (v25).toInt) (tgt := 124) rfl rfl dX8_not_109 (by decide) (fun hv29 => ?_) (fun hv29 => ?_)
                · refine x_iconst (v := nI 0) dX8_not_124 (by decide) ?_
                  exact x_iret ⟨Nat.le_refl _, Nat.le_refl _⟩ rfl dX8_not_125 ⟨_, _, _, rfl, R25, (((FrA.rf.tr A3).tr A24).tr A25), by rw [pNot_eq, if_neg (show ¬ tkK L p = 10 by omega), pCmp, hs3]; simp only; rw [if_pos (by omega), hs25]; exact ⟨hO25, by rw [vE_jn hg3.2.2.2 hg25.2.2.2 (by omega) (by omega), Nat.add_sub_cancel_left, (show tkK L b3 = 60 by omega), ← hv3e, ← hv25e]; exact (jn60_0 hv29).symm⟩⟩
                · refine x_goto (tgt := 120) dX8_not_112 (by decide) ?_
                  refine x_iconst (v := nI 1) dX8_not_120 (by decide) ?_
                  refine x_goto (tgt := 125) dX8_not_121 (by decide) ?_
                  exact x_iret ⟨Nat.le_refl _, Nat.le_refl _⟩ rfl dX8_not_125 ⟨_, _, _, rfl, R25, (((FrA.rf.tr A3).tr A24).tr A25), by rw [pNot_eq, if_neg (show ¬ tkK L p = 10 by omega), pCmp, hs3]; simp only; rw [if_pos (by omega), hs25]; exact ⟨hO25, by rw [vE_jn hg3.2.2.2 hg25.2.2.2 (by omega) (by omega), Nat.add_sub_cancel_left, (show tkK L b3 = 60 by omega), ← hv3e, ← hv25e]; exact (jn60_1 hv29).symm⟩⟩
        · refine x_topi (y := nI 1) (lcmp_gt (by omega)) ?_
          refine x_ifN_ne (tgt := 92) dX8_not_85 (by decide) (by omega) (fun hv30 => ?_) (fun hv30 => ?_)
          · refine x_iconst (v := nI 0) dX8_not_92 (by decide) ?_
            refine x_istore_n dX8_not_93 (by decide) rfl ?_
            refine x_lv (lv' := [some (.ref 1000), some (.int v3), some (.int (nI 0)), none]) rfl ?_
            refine x_aload_n dX8_not_94 rfl ?_
            refine x_callV m_X8_next l_X8_187 (r_next R3 hy3 (t233 (show rK L b3 ≠ 4 from fun q9 => by have := rK4 q9; omega)) (tkN_b (show b3 ≤ L.length by omega)).2.1) rfl R3.2.1 (by omega) rfl rfl (Nat.le_of_ble_eq_true rfl) ⟨Nat.le_refl _, Nat.le_refl _⟩ dX8_not_95 (fun r31 s31 q31 => ?_)
            obtain ⟨rfl, a31, tw31, R31, N31, K31⟩ := q31
            have A31 := N31.A
            have hO31 : RPok a31 tw31 b L (tkN L b3) op := ⟨hy3.fr A31, K31, (N31 27 (by omega)).trans t273, (N31 28 (by omega)).trans t283⟩
            have hF31 := hF3.fr A31
            have hn31 := tkN_b (show b3 ≤ L.length by omega)
            have hl31 := lexP_b (show b3 ≤ L.length by omega)
            obtain ⟨hy31, ⟨t2531, t2431, t2331, t231, t331⟩, t2731, t2831⟩ := id hO31
            obtain ⟨f031, hx311, hx312, hx313, hx314, hx315, hx316⟩ := id hy31
            refine x_stk (st' := []) rfl ?_
            refine x_aload_n dX8_not_98 rfl ?_
            refine x_callV m_X8_added l_X8_237 (hS9 _ _ _ _ _ F (tkN L b3) R31 hO31 (by omega) hF31) rfl R31.2.1 (by omega) rfl rfl (Nat.le_of_ble_eq_true rfl) ⟨Nat.le_refl _, Nat.le_refl _⟩ dX8_not_99 (fun r32 s32 q32 => ?_)
            obtain ⟨v32, a32, tw32, rfl, R32, A32, hq32⟩ := q32
            refine x_stk (st' := [.int v32]) rfl ?_
            rcases hs32 : (pSum L dd) (tkN L b3) with e32 | ⟨c32, b32⟩
            · have hO32 : RPft a32 e32 := by rw [hs32] at hq32; exact hq32
              obtain ⟨t2832, t2932⟩ := id hO32
              refine x_istore_n dX8_not_102 (by decide) rfl ?_
              refine x_lv (lv' := [some (.ref 1000), some (.int v3), some (.int (nI 0)), some (.int v32)]) rfl ?_
              refine x_iload_n dX8_not_103 rfl ?_
              refine x_ifN_eq (tgt := 115) dX8_not_104 (by decide) (by omega) (fun hv33 => ?_) (fun hv33 => ?_)
              · refine x_iload_n dX8_not_115 rfl ?_
                refine x_iload_n dX8_not_116 rfl ?_
                refine x_icmpT_ne (p := (v3).toInt) (q := (v32).toInt) (tgt := 124) rfl rfl dX8_not_117 (by decide) (fun hv34 => ?_) (fun hv34 => ?_)
                · refine x_iconst (v := nI 0) dX8_not_124 (by decide) ?_
                  exact x_iret ⟨Nat.le_refl _, Nat.le_refl _⟩ rfl dX8_not_125 ⟨_, _, _, rfl, R32, (((FrA.rf.tr A3).tr A31).tr A32), by rw [pNot_eq, if_neg (show ¬ tkK L p = 10 by omega), pCmp, hs3]; simp only; rw [if_pos (by omega), hs32]; exact hO32⟩
                · refine x_iconst (v := nI 1) dX8_not_120 (by decide) ?_
                  refine x_goto (tgt := 125) dX8_not_121 (by decide) ?_
                  exact x_iret ⟨Nat.le_refl _, Nat.le_refl _⟩ rfl dX8_not_125 ⟨_, _, _, rfl, R32, (((FrA.rf.tr A3).tr A31).tr A32), by rw [pNot_eq, if_neg (show ¬ tkK L p = 10 by omega), pCmp, hs3]; simp only; rw [if_pos (by omega), hs32]; exact hO32⟩
              · exact absurd hv33 (by decide)
            · have hp32 : RPok a32 tw32 b L b32 op ∧ v32 = vE F c32 := by rw [hs32] at hq32; exact hq32
              obtain ⟨hO32, hv32e⟩ := hp32
              have hF32 := hF31.fr A32
              have hg32 := hGS (tkN L b3) (by omega) _ _ hs32
              obtain ⟨hy32, ⟨t2532, t2432, t2332, t232, t332⟩, t2732, t2832⟩ := id hO32
              obtain ⟨f032, hx321, hx322, hx323, hx324, hx325, hx326⟩ := id hy32
              have hk932 := tkK_lt (L := L) (p := b32)
              refine x_istore_n dX8_not_102 (by decide) rfl ?_
              refine x_lv (lv' := [some (.ref 1000), some (.int v3), some (.int (nI 0)), some (.int v32)]) rfl ?_
              refine x_iload_n dX8_not_103 rfl ?_
              refine x_ifN_eq (tgt := 115) dX8_not_104 (by decide) (by omega) (fun hv35 => ?_) (fun hv35 => ?_)
              · refine x_iload_n dX8_not_115 rfl ?_
                refine x_iload_n dX8_not_116 rfl ?_
                refine x_icmpT_ne (p := (v3).toInt) (q := (v32).toInt) (tgt := 124) rfl rfl dX8_not_117 (by decide) (fun hv36 => ?_) (fun hv36 => ?_)
                · refine x_iconst (v := nI 0) dX8_not_124 (by decide) ?_
                  exact x_iret ⟨Nat.le_refl _, Nat.le_refl _⟩ rfl dX8_not_125 ⟨_, _, _, rfl, R32, (((FrA.rf.tr A3).tr A31).tr A32), by rw [pNot_eq, if_neg (show ¬ tkK L p = 10 by omega), pCmp, hs3]; simp only; rw [if_pos (by omega), hs32]; exact ⟨hO32, by rw [vE_jn hg3.2.2.2 hg32.2.2.2 (by omega) (by omega), Nat.add_sub_cancel_left, (show tkK L b3 = 61 by omega), ← hv3e, ← hv32e]; exact (jn61_0 hv36).symm⟩⟩
                · refine x_iconst (v := nI 1) dX8_not_120 (by decide) ?_
                  refine x_goto (tgt := 125) dX8_not_121 (by decide) ?_
                  exact x_iret ⟨Nat.le_refl _, Nat.le_refl _⟩ rfl dX8_not_125 ⟨_, _, _, rfl, R32, (((FrA.rf.tr A3).tr A31).tr A32), by rw [pNot_eq, if_neg (show ¬ tkK L p = 10 by omega), pCmp, hs3]; simp only; rw [if_pos (by omega), hs32]; exact ⟨hO32, by rw [vE_jn hg3.2.2.2 hg32.2.2.2 (by omega) (by omega), Nat.add_sub_cancel_left, (show tkK L b3 = 61 by omega), ← hv3e, ← hv32e]; exact (jn61_1 hv36).symm⟩⟩
              · exact absurd hv35 (by decide)
          · exact absurd hv30 (by decide)
      · refine x_aload_n dX8_not_66 rfl ?_
        refine x_bipush (v := nI 61) dX8_not_67 (by decide) ?_
        refine x_callV m_X8_isSign l_X8_212 (r_isSign R3 hO3 (by omega) (by omega)) rfl R3.2.1 (by omega) rfl rfl (Nat.le_of_ble_eq_true rfl) ⟨Nat.le_refl _, Nat.le_refl _⟩ dX8_not_69 (fun r37 s37 q37 => ?_)
        obtain ⟨rfl, eq37⟩ := q37
        obtain rfl := eq37.symm
        refine x_stk (st' := [.int (bI (decide (tkK L b3 = 61)))]) rfl ?_
        refine x_ifP_ne (P := tkK L b3 = 61) inferInstance (tgt := 77) dX8_not_72 (by decide) (fun hv38 => ?_) (fun hv38 => ?_)
        · refine x_aload_n dX8_not_77 rfl ?_
          refine x_rget f_X8_167 R3 rfl dX8_not_78 ?_
          refine x_ldc2 (v := (60)) cl_X8_240 dX8_not_81 ?_
          refine x_lcmp dX8_not_84 ?_
          have hts3 := t33 ((tk_sign (s := tkK L b3) (by omega)).mp rfl).1
          have hts23 := ((tk_sign (L := L) (p := b3) (s := tkK L b3) (by omega)).mp rfl).2
          have h60 : (60 : Int64).toInt = 60 := by decide
          rcases (show (tw3).toInt < (60 : Int64).toInt ∨ (tw3).toInt = (60 : Int64).toInt ∨ (60 : Int64).toInt < (tw3).toInt by omega) with hc | hc | hc
          · refine x_topi (y := (-1)) (lcmp_lt (by omega)) ?_
            refine x_ifT_ne (p := (-1)) (tgt := 92) (by decide) dX8_not_85 (by decide) (fun hv39 => ?_) (fun hv39 => ?_)
            · refine x_iconst (v := nI 0) dX8_not_92 (by decide) ?_
              refine x_istore_n dX8_not_93 (by decide) rfl ?_
              refine x_lv (lv' := [some (.ref 1000), some (.int v3), some (.int (nI 0)), none]) rfl ?_
              refine x_aload_n dX8_not_94 rfl ?_
              refine x_callV m_X8_next l_X8_187 (r_next R3 hy3 (t233 (show rK L b3 ≠ 4 from fun q9 => by have := rK4 q9; omega)) (tkN_b (show b3 ≤ L.length by omega)).2.1) rfl R3.2.1 (by omega) rfl rfl (Nat.le_of_ble_eq_true rfl) ⟨Nat.le_refl _, Nat.le_refl _⟩ dX8_not_95 (fun r40 s40 q40 => ?_)
              obtain ⟨rfl, a40, tw40, R40, N40, K40⟩ := q40
              have A40 := N40.A
              have hO40 : RPok a40 tw40 b L (tkN L b3) op := ⟨hy3.fr A40, K40, (N40 27 (by omega)).trans t273, (N40 28 (by omega)).trans t283⟩
              have hF40 := hF3.fr A40
              have hn40 := tkN_b (show b3 ≤ L.length by omega)
              have hl40 := lexP_b (show b3 ≤ L.length by omega)
              obtain ⟨hy40, ⟨t2540, t2440, t2340, t240, t340⟩, t2740, t2840⟩ := id hO40
              obtain ⟨f040, hx401, hx402, hx403, hx404, hx405, hx406⟩ := id hy40
              refine x_stk (st' := []) rfl ?_
              refine x_aload_n dX8_not_98 rfl ?_
              refine x_callV m_X8_added l_X8_237 (hS9 _ _ _ _ _ F (tkN L b3) R40 hO40 (by omega) hF40) rfl R40.2.1 (by omega) rfl rfl (Nat.le_of_ble_eq_true rfl) ⟨Nat.le_refl _, Nat.le_refl _⟩ dX8_not_99 (fun r41 s41 q41 => ?_)
              obtain ⟨v41, a41, tw41, rfl, R41, A41, hq41⟩ := q41
              refine x_stk (st' := [.int v41]) rfl ?_
              rcases hs41 : (pSum L dd) (tkN L b3) with e41 | ⟨c41, b41⟩
              · have hO41 : RPft a41 e41 := by rw [hs41] at hq41; exact hq41
                obtain ⟨t2841, t2941⟩ := id hO41
                refine x_istore_n dX8_not_102 (by decide) rfl ?_
                refine x_lv (lv' := [some (.ref 1000), some (.int v3), some (.int (nI 0)), some (.int v41)]) rfl ?_
                refine x_iload_n dX8_not_103 rfl ?_
                refine x_ifN_eq (tgt := 115) dX8_not_104 (by decide) (by omega) (fun hv42 => ?_) (fun hv42 => ?_)
                · refine x_iload_n dX8_not_115 rfl ?_
                  refine x_iload_n dX8_not_116 rfl ?_
                  refine x_icmpT_ne (p := (v3).toInt) (q := (v41).toInt) (tgt := 124) rfl rfl dX8_not_117 (by decide) (fun hv43 => ?_) (fun hv43 => ?_)
                  · refine x_iconst (v := nI 0) dX8_not_124 (by decide) ?_
                    exact x_iret ⟨Nat.le_refl _, Nat.le_refl _⟩ rfl dX8_not_125 ⟨_, _, _, rfl, R41, (((FrA.rf.tr A3).tr A40).tr A41), by rw [pNot_eq, if_neg (show ¬ tkK L p = 10 by omega), pCmp, hs3]; simp only; rw [if_pos (by omega), hs41]; exact hO41⟩
                  · refine x_iconst (v := nI 1) dX8_not_120 (by decide) ?_
                    refine x_goto (tgt := 125) dX8_not_121 (by decide) ?_
                    exact x_iret ⟨Nat.le_refl _, Nat.le_refl _⟩ rfl dX8_not_125 ⟨_, _, _, rfl, R41, (((FrA.rf.tr A3).tr A40).tr A41), by rw [pNot_eq, if_neg (show ¬ tkK L p = 10 by omega), pCmp, hs3]; simp only; rw [if_pos (by omega), hs41]; exact hO41⟩
                · exact absurd hv42 (by decide)
              · have hp41 : RPok a41 tw41 b L b41 op ∧ v41 = vE F c41 := by rw [hs41] at hq41; exact hq41
                obtain ⟨hO41, hv41e⟩ := hp41
                have hF41 := hF40.fr A41
                have hg41 := hGS (tkN L b3) (by omega) _ _ hs41
                obtain ⟨hy41, ⟨t2541, t2441, t2341, t241, t341⟩, t2741, t2841⟩ := id hO41
                obtain ⟨f041, hx411, hx412, hx413, hx414, hx415, hx416⟩ := id hy41
                have hk941 := tkK_lt (L := L) (p := b41)
                refine x_istore_n dX8_not_102 (by decide) rfl ?_
                refine x_lv (lv' := [some (.ref 1000), some (.int v3), some (.int (nI 0)), some (.int v41)]) rfl ?_
                refine x_iload_n dX8_not_103 rfl ?_
                refine x_ifN_eq (tgt := 115) dX8_not_104 (by decide) (by omega) (fun hv44 => ?_) (fun hv44 => ?_)
                · refine x_iload_n dX8_not_115 rfl ?_
                  refine x_iload_n dX8_not_116 rfl ?_
                  refine x_icmpT_ne (p := (v3).toInt) (q := (v41).toInt) (tgt := 124) rfl rfl dX8_not_117 (by decide) (fun hv45 => ?_) (fun hv45 => ?_)
                  · refine x_iconst (v := nI 0) dX8_not_124 (by decide) ?_
                    exact x_iret ⟨Nat.le_refl _, Nat.le_refl _⟩ rfl dX8_not_125 ⟨_, _, _, rfl, R41, (((FrA.rf.tr A3).tr A40).tr A41), by rw [pNot_eq, if_neg (show ¬ tkK L p = 10 by omega), pCmp, hs3]; simp only; rw [if_pos (by omega), hs41]; exact ⟨hO41, by rw [vE_jn hg3.2.2.2 hg41.2.2.2 (by omega) (by omega), Nat.add_sub_cancel_left, (show tkK L b3 = 61 by omega), ← hv3e, ← hv41e]; exact (jn61_0 hv45).symm⟩⟩
                  · refine x_iconst (v := nI 1) dX8_not_120 (by decide) ?_
                    refine x_goto (tgt := 125) dX8_not_121 (by decide) ?_
                    exact x_iret ⟨Nat.le_refl _, Nat.le_refl _⟩ rfl dX8_not_125 ⟨_, _, _, rfl, R41, (((FrA.rf.tr A3).tr A40).tr A41), by rw [pNot_eq, if_neg (show ¬ tkK L p = 10 by omega), pCmp, hs3]; simp only; rw [if_pos (by omega), hs41]; exact ⟨hO41, by rw [vE_jn hg3.2.2.2 hg41.2.2.2 (by omega) (by omega), Nat.add_sub_cancel_left, (show tkK L b3 = 61 by omega), ← hv3e, ← hv41e]; exact (jn61_1 hv45).symm⟩⟩
                · exact absurd hv44 (by decide)
            · refine x_iconst (v := nI 1) dX8_not_88 (by decide) ?_
              refine x_goto (tgt := 93) dX8_not_89 (by decide) ?_
              refine x_istore_n dX8_not_93 (by decide) rfl ?_
              refine x_lv (lv' := [some (.ref 1000), some (.int v3), some (.int (nI 1)), none]) rfl ?_
              refine x_aload_n dX8_not_94 rfl ?_
              refine x_callV m_X8_next l_X8_187 (r_next R3 hy3 (t233 (show rK L b3 ≠ 4 from fun q9 => by have := rK4 q9; omega)) (tkN_b (show b3 ≤ L.length by omega)).2.1) rfl R3.2.1 (by omega) rfl rfl (Nat.le_of_ble_eq_true rfl) ⟨Nat.le_refl _, Nat.le_refl _⟩ dX8_not_95 (fun r46 s46 q46 => ?_)
              obtain ⟨rfl, a46, tw46, R46, N46, K46⟩ := q46
              have A46 := N46.A
              have hO46 : RPok a46 tw46 b L (tkN L b3) op := ⟨hy3.fr A46, K46, (N46 27 (by omega)).trans t273, (N46 28 (by omega)).trans t283⟩
              have hF46 := hF3.fr A46
              have hn46 := tkN_b (show b3 ≤ L.length by omega)
              have hl46 := lexP_b (show b3 ≤ L.length by omega)
              obtain ⟨hy46, ⟨t2546, t2446, t2346, t246, t346⟩, t2746, t2846⟩ := id hO46
              obtain ⟨f046, hx461, hx462, hx463, hx464, hx465, hx466⟩ := id hy46
              refine x_stk (st' := []) rfl ?_
              refine x_aload_n dX8_not_98 rfl ?_
              refine x_callV m_X8_added l_X8_237 (hS9 _ _ _ _ _ F (tkN L b3) R46 hO46 (by omega) hF46) rfl R46.2.1 (by omega) rfl rfl (Nat.le_of_ble_eq_true rfl) ⟨Nat.le_refl _, Nat.le_refl _⟩ dX8_not_99 (fun r47 s47 q47 => ?_)
              obtain ⟨v47, a47, tw47, rfl, R47, A47, hq47⟩ := q47
              refine x_stk (st' := [.int v47]) rfl ?_
              rcases hs47 : (pSum L dd) (tkN L b3) with e47 | ⟨c47, b47⟩
              · have hO47 : RPft a47 e47 := by rw [hs47] at hq47; exact hq47
                obtain ⟨t2847, t2947⟩ := id hO47
                refine x_istore_n dX8_not_102 (by decide) rfl ?_
                refine x_lv (lv' := [some (.ref 1000), some (.int v3), some (.int (nI 1)), some (.int v47)]) rfl ?_
                refine x_iload_n dX8_not_103 rfl ?_
                refine x_ifN_eq (tgt := 115) dX8_not_104 (by decide) (by omega) (fun hv48 => ?_) (fun hv48 => ?_)
                · exact absurd hv48 (by decide)
                · refine x_iload_n dX8_not_107 rfl ?_
                  refine x_iload_n dX8_not_108 rfl ?_
                  refine x_icmpT_ge (p := (v3).toInt) (q := (v47).toInt) (tgt := 124) rfl rfl dX8_not_109 (by decide) (fun hv49 => ?_) (fun hv49 => ?_)
                  · refine x_iconst (v := nI 0) dX8_not_124 (by decide) ?_
                    exact x_iret ⟨Nat.le_refl _, Nat.le_refl _⟩ rfl dX8_not_125 ⟨_, _, _, rfl, R47, (((FrA.rf.tr A3).tr A46).tr A47), by rw [pNot_eq, if_neg (show ¬ tkK L p = 10 by omega), pCmp, hs3]; simp only; rw [if_pos (by omega), hs47]; exact hO47⟩
                  · refine x_goto (tgt := 120) dX8_not_112 (by decide) ?_
                    refine x_iconst (v := nI 1) dX8_not_120 (by decide) ?_
                    refine x_goto (tgt := 125) dX8_not_121 (by decide) ?_
                    exact x_iret ⟨Nat.le_refl _, Nat.le_refl _⟩ rfl dX8_not_125 ⟨_, _, _, rfl, R47, (((FrA.rf.tr A3).tr A46).tr A47), by rw [pNot_eq, if_neg (show ¬ tkK L p = 10 by omega), pCmp, hs3]; simp only; rw [if_pos (by omega), hs47]; exact hO47⟩
              · have hp47 : RPok a47 tw47 b L b47 op ∧ v47 = vE F c47 := by rw [hs47] at hq47; exact hq47
                obtain ⟨hO47, hv47e⟩ := hp47
                have hF47 := hF46.fr A47
                have hg47 := hGS (tkN L b3) (by omega) _ _ hs47
                obtain ⟨hy47, ⟨t2547, t2447, t2347, t247, t347⟩, t2747, t2847⟩ := id hO47
                obtain ⟨f047, hx471, hx472, hx473, hx474, hx475, hx476⟩ := id hy47
                have hk947 := tkK_lt (L := L) (p := b47)
                refine x_istore_n dX8_not_102 (by decide) rfl ?_
                refine x_lv (lv' := [some (.ref 1000), some (.int v3), some (.int (nI 1)), some (.int v47)]) rfl ?_
                refine x_iload_n dX8_not_103 rfl ?_
                refine x_ifN_eq (tgt := 115) dX8_not_104 (by decide) (by omega) (fun hv50 => ?_) (fun hv50 => ?_)
                · exact absurd hv50 (by decide)
                · refine x_iload_n dX8_not_107 rfl ?_
                  refine x_iload_n dX8_not_108 rfl ?_
                  refine x_icmpT_ge (p := (v3).toInt) (q := (v47).toInt) (tgt := 124) rfl rfl dX8_not_109 (by decide) (fun hv51 => ?_) (fun hv51 => ?_)
                  · refine x_iconst (v := nI 0) dX8_not_124 (by decide) ?_
                    exact x_iret ⟨Nat.le_refl _, Nat.le_refl _⟩ rfl dX8_not_125 ⟨_, _, _, rfl, R47, (((FrA.rf.tr A3).tr A46).tr A47), by rw [pNot_eq, if_neg (show ¬ tkK L p = 10 by omega), pCmp, hs3]; simp only; rw [if_pos (by omega), hs47]; exact ⟨hO47, by rw [vE_jn hg3.2.2.2 hg47.2.2.2 (by omega) (by omega), Nat.add_sub_cancel_left, (show tkK L b3 = 60 by omega), ← hv3e, ← hv47e]; exact (jn60_0 hv51).symm⟩⟩
                  · refine x_goto (tgt := 120) dX8_not_112 (by decide) ?_
                    refine x_iconst (v := nI 1) dX8_not_120 (by decide) ?_
                    refine x_goto (tgt := 125) dX8_not_121 (by decide) ?_
                    exact x_iret ⟨Nat.le_refl _, Nat.le_refl _⟩ rfl dX8_not_125 ⟨_, _, _, rfl, R47, (((FrA.rf.tr A3).tr A46).tr A47), by rw [pNot_eq, if_neg (show ¬ tkK L p = 10 by omega), pCmp, hs3]; simp only; rw [if_pos (by omega), hs47]; exact ⟨hO47, by rw [vE_jn hg3.2.2.2 hg47.2.2.2 (by omega) (by omega), Nat.add_sub_cancel_left, (show tkK L b3 = 60 by omega), ← hv3e, ← hv47e]; exact (jn60_1 hv51).symm⟩⟩
          · refine x_topi (y := nI 0) (lcmp_eq (by omega)) ?_
            refine x_ifN_ne (tgt := 92) dX8_not_85 (by decide) (by omega) (fun hv52 => ?_) (fun hv52 => ?_)
            · exact absurd hv52 (by decide)
            · refine x_iconst (v := nI 1) dX8_not_88 (by decide) ?_
              refine x_goto (tgt := 93) dX8_not_89 (by decide) ?_
              refine x_istore_n dX8_not_93 (by decide) rfl ?_
              refine x_lv (lv' := [some (.ref 1000), some (.int v3), some (.int (nI 1)), none]) rfl ?_
              refine x_aload_n dX8_not_94 rfl ?_
              refine x_callV m_X8_next l_X8_187 (r_next R3 hy3 (t233 (show rK L b3 ≠ 4 from fun q9 => by have := rK4 q9; omega)) (tkN_b (show b3 ≤ L.length by omega)).2.1) rfl R3.2.1 (by omega) rfl rfl (Nat.le_of_ble_eq_true rfl) ⟨Nat.le_refl _, Nat.le_refl _⟩ dX8_not_95 (fun r53 s53 q53 => ?_)
              obtain ⟨rfl, a53, tw53, R53, N53, K53⟩ := q53
              have A53 := N53.A
              have hO53 : RPok a53 tw53 b L (tkN L b3) op := ⟨hy3.fr A53, K53, (N53 27 (by omega)).trans t273, (N53 28 (by omega)).trans t283⟩
              have hF53 := hF3.fr A53
              have hn53 := tkN_b (show b3 ≤ L.length by omega)
              have hl53 := lexP_b (show b3 ≤ L.length by omega)
              obtain ⟨hy53, ⟨t2553, t2453, t2353, t253, t353⟩, t2753, t2853⟩ := id hO53
              obtain ⟨f053, hx531, hx532, hx533, hx534, hx535, hx536⟩ := id hy53
              refine x_stk (st' := []) rfl ?_
              refine x_aload_n dX8_not_98 rfl ?_
              refine x_callV m_X8_added l_X8_237 (hS9 _ _ _ _ _ F (tkN L b3) R53 hO53 (by omega) hF53) rfl R53.2.1 (by omega) rfl rfl (Nat.le_of_ble_eq_true rfl) ⟨Nat.le_refl _, Nat.le_refl _⟩ dX8_not_99 (fun r54 s54 q54 => ?_)
              obtain ⟨v54, a54, tw54, rfl, R54, A54, hq54⟩ := q54
              refine x_stk (st' := [.int v54]) rfl ?_
              rcases hs54 : (pSum L dd) (tkN L b3) with e54 | ⟨c54, b54⟩
              · have hO54 : RPft a54 e54 := by rw [hs54] at hq54; exact hq54
                obtain ⟨t2854, t2954⟩ := id hO54
                refine x_istore_n dX8_not_102 (by decide) rfl ?_
                refine x_lv (lv' := [some (.ref 1000), some (.int v3), some (.int (nI 1)), some (.int v54)]) rfl ?_
                refine x_iload_n dX8_not_103 rfl ?_
                refine x_ifN_eq (tgt := 115) dX8_not_104 (by decide) (by omega) (fun hv55 => ?_) (fun hv55 => ?_)
                · exact absurd hv55 (by decide)
                · refine x_iload_n dX8_not_107 rfl ?_
                  refine x_iload_n dX8_not_108 rfl ?_
                  refine x_icmpT_ge (p := (v3).toInt) (q := (v54).toInt) (tgt := 124) rfl rfl dX8_not_109 (by decide) (fun hv56 => ?_) (fun hv56 => ?_)
                  · refine x_iconst (v := nI 0) dX8_not_124 (by decide) ?_
                    exact x_iret ⟨Nat.le_refl _, Nat.le_refl _⟩ rfl dX8_not_125 ⟨_, _, _, rfl, R54, (((FrA.rf.tr A3).tr A53).tr A54), by rw [pNot_eq, if_neg (show ¬ tkK L p = 10 by omega), pCmp, hs3]; simp only; rw [if_pos (by omega), hs54]; exact hO54⟩
                  · refine x_goto (tgt := 120) dX8_not_112 (by decide) ?_
                    refine x_iconst (v := nI 1) dX8_not_120 (by decide) ?_
                    refine x_goto (tgt := 125) dX8_not_121 (by decide) ?_
                    exact x_iret ⟨Nat.le_refl _, Nat.le_refl _⟩ rfl dX8_not_125 ⟨_, _, _, rfl, R54, (((FrA.rf.tr A3).tr A53).tr A54), by rw [pNot_eq, if_neg (show ¬ tkK L p = 10 by omega), pCmp, hs3]; simp only; rw [if_pos (by omega), hs54]; exact hO54⟩
              · have hp54 : RPok a54 tw54 b L b54 op ∧ v54 = vE F c54 := by rw [hs54] at hq54; exact hq54
                obtain ⟨hO54, hv54e⟩ := hp54
                have hF54 := hF53.fr A54
                have hg54 := hGS (tkN L b3) (by omega) _ _ hs54
                obtain ⟨hy54, ⟨t2554, t2454, t2354, t254, t354⟩, t2754, t2854⟩ := id hO54
                obtain ⟨f054, hx541, hx542, hx543, hx544, hx545, hx546⟩ := id hy54
                have hk954 := tkK_lt (L := L) (p := b54)
                refine x_istore_n dX8_not_102 (by decide) rfl ?_
                refine x_lv (lv' := [some (.ref 1000), some (.int v3), some (.int (nI 1)), some (.int v54)]) rfl ?_
                refine x_iload_n dX8_not_103 rfl ?_
                refine x_ifN_eq (tgt := 115) dX8_not_104 (by decide) (by omega) (fun hv57 => ?_) (fun hv57 => ?_)
                · exact absurd hv57 (by decide)
                · refine x_iload_n dX8_not_107 rfl ?_
                  refine x_iload_n dX8_not_108 rfl ?_
                  refine x_icmpT_ge (p := (v3).toInt) (q := (v54).toInt) (tgt := 124) rfl rfl dX8_not_109 (by decide) (fun hv58 => ?_) (fun hv58 => ?_)
                  · refine x_iconst (v := nI 0) dX8_not_124 (by decide) ?_
                    exact x_iret ⟨Nat.le_refl _, Nat.le_refl _⟩ rfl dX8_not_125 ⟨_, _, _, rfl, R54, (((FrA.rf.tr A3).tr A53).tr A54), by rw [pNot_eq, if_neg (show ¬ tkK L p = 10 by omega), pCmp, hs3]; simp only; rw [if_pos (by omega), hs54]; exact ⟨hO54, by rw [vE_jn hg3.2.2.2 hg54.2.2.2 (by omega) (by omega), Nat.add_sub_cancel_left, (show tkK L b3 = 60 by omega), ← hv3e, ← hv54e]; exact (jn60_0 hv58).symm⟩⟩
                  · refine x_goto (tgt := 120) dX8_not_112 (by decide) ?_
                    refine x_iconst (v := nI 1) dX8_not_120 (by decide) ?_
                    refine x_goto (tgt := 125) dX8_not_121 (by decide) ?_
                    exact x_iret ⟨Nat.le_refl _, Nat.le_refl _⟩ rfl dX8_not_125 ⟨_, _, _, rfl, R54, (((FrA.rf.tr A3).tr A53).tr A54), by rw [pNot_eq, if_neg (show ¬ tkK L p = 10 by omega), pCmp, hs3]; simp only; rw [if_pos (by omega), hs54]; exact ⟨hO54, by rw [vE_jn hg3.2.2.2 hg54.2.2.2 (by omega) (by omega), Nat.add_sub_cancel_left, (show tkK L b3 = 60 by omega), ← hv3e, ← hv54e]; exact (jn60_1 hv58).symm⟩⟩
          · refine x_topi (y := nI 1) (lcmp_gt (by omega)) ?_
            refine x_ifN_ne (tgt := 92) dX8_not_85 (by decide) (by omega) (fun hv59 => ?_) (fun hv59 => ?_)
            · refine x_iconst (v := nI 0) dX8_not_92 (by decide) ?_
              refine x_istore_n dX8_not_93 (by decide) rfl ?_
              refine x_lv (lv' := [some (.ref 1000), some (.int v3), some (.int (nI 0)), none]) rfl ?_
              refine x_aload_n dX8_not_94 rfl ?_
              refine x_callV m_X8_next l_X8_187 (r_next R3 hy3 (t233 (show rK L b3 ≠ 4 from fun q9 => by have := rK4 q9; omega)) (tkN_b (show b3 ≤ L.length by omega)).2.1) rfl R3.2.1 (by omega) rfl rfl (Nat.le_of_ble_eq_true rfl) ⟨Nat.le_refl _, Nat.le_refl _⟩ dX8_not_95 (fun r60 s60 q60 => ?_)
              obtain ⟨rfl, a60, tw60, R60, N60, K60⟩ := q60
              have A60 := N60.A
              have hO60 : RPok a60 tw60 b L (tkN L b3) op := ⟨hy3.fr A60, K60, (N60 27 (by omega)).trans t273, (N60 28 (by omega)).trans t283⟩
              have hF60 := hF3.fr A60
              have hn60 := tkN_b (show b3 ≤ L.length by omega)
              have hl60 := lexP_b (show b3 ≤ L.length by omega)
              obtain ⟨hy60, ⟨t2560, t2460, t2360, t260, t360⟩, t2760, t2860⟩ := id hO60
              obtain ⟨f060, hx601, hx602, hx603, hx604, hx605, hx606⟩ := id hy60
              refine x_stk (st' := []) rfl ?_
              refine x_aload_n dX8_not_98 rfl ?_
              refine x_callV m_X8_added l_X8_237 (hS9 _ _ _ _ _ F (tkN L b3) R60 hO60 (by omega) hF60) rfl R60.2.1 (by omega) rfl rfl (Nat.le_of_ble_eq_true rfl) ⟨Nat.le_refl _, Nat.le_refl _⟩ dX8_not_99 (fun r61 s61 q61 => ?_)
              obtain ⟨v61, a61, tw61, rfl, R61, A61, hq61⟩ := q61
              refine x_stk (st' := [.int v61]) rfl ?_
              rcases hs61 : (pSum L dd) (tkN L b3) with e61 | ⟨c61, b61⟩
              · have hO61 : RPft a61 e61 := by rw [hs61] at hq61; exact hq61
                obtain ⟨t2861, t2961⟩ := id hO61
                refine x_istore_n dX8_not_102 (by decide) rfl ?_
                refine x_lv (lv' := [some (.ref 1000), some (.int v3), some (.int (nI 0)), some (.int v61)]) rfl ?_
                refine x_iload_n dX8_not_103 rfl ?_
                refine x_ifN_eq (tgt := 115) dX8_not_104 (by decide) (by omega) (fun hv62 => ?_) (fun hv62 => ?_)
                · refine x_iload_n dX8_not_115 rfl ?_
                  refine x_iload_n dX8_not_116 rfl ?_
                  refine x_icmpT_ne (p := (v3).toInt) (q := (v61).toInt) (tgt := 124) rfl rfl dX8_not_117 (by decide) (fun hv63 => ?_) (fun hv63 => ?_)
                  · refine x_iconst (v := nI 0) dX8_not_124 (by decide) ?_
                    exact x_iret ⟨Nat.le_refl _, Nat.le_refl _⟩ rfl dX8_not_125 ⟨_, _, _, rfl, R61, (((FrA.rf.tr A3).tr A60).tr A61), by rw [pNot_eq, if_neg (show ¬ tkK L p = 10 by omega), pCmp, hs3]; simp only; rw [if_pos (by omega), hs61]; exact hO61⟩
                  · refine x_iconst (v := nI 1) dX8_not_120 (by decide) ?_
                    refine x_goto (tgt := 125) dX8_not_121 (by decide) ?_
                    exact x_iret ⟨Nat.le_refl _, Nat.le_refl _⟩ rfl dX8_not_125 ⟨_, _, _, rfl, R61, (((FrA.rf.tr A3).tr A60).tr A61), by rw [pNot_eq, if_neg (show ¬ tkK L p = 10 by omega), pCmp, hs3]; simp only; rw [if_pos (by omega), hs61]; exact hO61⟩
                · exact absurd hv62 (by decide)
              · have hp61 : RPok a61 tw61 b L b61 op ∧ v61 = vE F c61 := by rw [hs61] at hq61; exact hq61
                obtain ⟨hO61, hv61e⟩ := hp61
                have hF61 := hF60.fr A61
                have hg61 := hGS (tkN L b3) (by omega) _ _ hs61
                obtain ⟨hy61, ⟨t2561, t2461, t2361, t261, t361⟩, t2761, t2861⟩ := id hO61
                obtain ⟨f061, hx611, hx612, hx613, hx614, hx615, hx616⟩ := id hy61
                have hk961 := tkK_lt (L := L) (p := b61)
                refine x_istore_n dX8_not_102 (by decide) rfl ?_
                refine x_lv (lv' := [some (.ref 1000), some (.int v3), some (.int (nI 0)), some (.int v61)]) rfl ?_
                refine x_iload_n dX8_not_103 rfl ?_
                refine x_ifN_eq (tgt := 115) dX8_not_104 (by decide) (by omega) (fun hv64 => ?_) (fun hv64 => ?_)
                · refine x_iload_n dX8_not_115 rfl ?_
                  refine x_iload_n dX8_not_116 rfl ?_
                  refine x_icmpT_ne (p := (v3).toInt) (q := (v61).toInt) (tgt := 124) rfl rfl dX8_not_117 (by decide) (fun hv65 => ?_) (fun hv65 => ?_)
                  · refine x_iconst (v := nI 0) dX8_not_124 (by decide) ?_
                    exact x_iret ⟨Nat.le_refl _, Nat.le_refl _⟩ rfl dX8_not_125 ⟨_, _, _, rfl, R61, (((FrA.rf.tr A3).tr A60).tr A61), by rw [pNot_eq, if_neg (show ¬ tkK L p = 10 by omega), pCmp, hs3]; simp only; rw [if_pos (by omega), hs61]; exact ⟨hO61, by rw [vE_jn hg3.2.2.2 hg61.2.2.2 (by omega) (by omega), Nat.add_sub_cancel_left, (show tkK L b3 = 61 by omega), ← hv3e, ← hv61e]; exact (jn61_0 hv65).symm⟩⟩
                  · refine x_iconst (v := nI 1) dX8_not_120 (by decide) ?_
                    refine x_goto (tgt := 125) dX8_not_121 (by decide) ?_
                    exact x_iret ⟨Nat.le_refl _, Nat.le_refl _⟩ rfl dX8_not_125 ⟨_, _, _, rfl, R61, (((FrA.rf.tr A3).tr A60).tr A61), by rw [pNot_eq, if_neg (show ¬ tkK L p = 10 by omega), pCmp, hs3]; simp only; rw [if_pos (by omega), hs61]; exact ⟨hO61, by rw [vE_jn hg3.2.2.2 hg61.2.2.2 (by omega) (by omega), Nat.add_sub_cancel_left, (show tkK L b3 = 61 by omega), ← hv3e, ← hv61e]; exact (jn61_1 hv65).symm⟩⟩
                · exact absurd hv64 (by decide)
            · exact absurd hv59 (by decide)
        · refine x_iload_n dX8_not_75 rfl ?_
          exact x_iret ⟨Nat.le_refl _, Nat.le_refl _⟩ rfl dX8_not_76 ⟨_, _, _, rfl, R3, (FrA.rf.tr A3), by rw [pNot_eq, if_neg (show ¬ tkK L p = 10 by omega), pCmp, hs3]; simp only; rw [if_neg (by omega)]; exact ⟨hO3, hv3e⟩⟩
  · rcases Nat.eq_zero_or_pos dd with hd0 | hd0
    · skip
      refine x_aload_n dX8_not_18 rfl ?_
      refine x_callV m_X8_opens l_X8_215 (r_opens_no hR hO (by omega) (by omega)) rfl hR.2.1 (by omega) rfl rfl (Nat.le_of_ble_eq_true rfl) ⟨Nat.le_refl _, Nat.le_refl _⟩ dX8_not_19 (fun r66 s66 q66 => ?_)
      obtain ⟨rfl, a66, R66, A66, hO66⟩ := q66
      obtain ⟨t2866, t2966⟩ := id hO66
      refine x_stk (st' := [.int (nI 0)]) rfl ?_
      refine x_ifN_ne (tgt := 27) dX8_not_22 (by decide) (by omega) (fun hv67 => ?_) (fun hv67 => ?_)
      · exact absurd hv67 (by decide)
      · refine x_iconst (v := nI 0) dX8_not_25 (by decide) ?_
        exact x_iret ⟨Nat.le_refl _, Nat.le_refl _⟩ rfl dX8_not_26 ⟨_, _, _, rfl, R66, (FrA.rf.tr A66), by rw [pNot_eq, if_pos (show tkK L p = 10 by omega), if_pos hd0]; exact hO66⟩
    · skip
      refine x_aload_n dX8_not_18 rfl ?_
      refine x_callV m_X8_opens l_X8_215 (r_opens_yes hR hO (by omega) (by omega) (by omega)) rfl hR.2.1 (by omega) rfl rfl (Nat.le_of_ble_eq_true rfl) ⟨Nat.le_refl _, Nat.le_refl _⟩ dX8_not_19 (fun r68 s68 q68 => ?_)
      obtain ⟨rfl, a68, tw68, R68, A68, hO68⟩ := q68
      have hF68 := hF.fr A68
      obtain ⟨hy68, ⟨t2568, t2468, t2368, t268, t368⟩, t2768, t2868⟩ := id hO68
      obtain ⟨f068, hx681, hx682, hx683, hx684, hx685, hx686⟩ := id hy68
      refine x_stk (st' := [.int (nI 1)]) rfl ?_
      refine x_ifN_ne (tgt := 27) dX8_not_22 (by decide) (by omega) (fun hv69 => ?_) (fun hv69 => ?_)
      · refine x_aload_n dX8_not_27 rfl ?_
        refine x_callV m_X8_not l_X8_234 ((hN hd0) _ _ _ _ _ F (tkN L p) R68 hO68 (by omega) hF68) rfl R68.2.1 (by omega) rfl rfl (Nat.le_of_ble_eq_true rfl) ⟨Nat.le_refl _, Nat.le_refl _⟩ dX8_not_28 (fun r70 s70 q70 => ?_)
        obtain ⟨v70, a70, tw70, rfl, R70, A70, hq70⟩ := q70
        refine x_stk (st' := [.int v70]) rfl ?_
        rcases hs70 : (pNot L (dd - 1)) (tkN L p) with e70 | ⟨c70, b70⟩
        · have hO70 : RPft a70 e70 := by rw [hs70] at hq70; exact hq70
          obtain ⟨t2870, t2970⟩ := id hO70
          refine x_istore_n dX8_not_31 (by decide) rfl ?_
          refine x_lv (lv' := [some (.ref 1000), some (.int v70), none, none]) rfl ?_
          refine x_aload_n dX8_not_32 rfl ?_
          refine x_dup dX8_not_33 rfl ?_
          refine x_rget f_X8_181 R70 rfl dX8_not_34 ?_
          refine x_iconst (v := nI 1) dX8_not_37 (by decide) ?_
          refine x_isub dX8_not_38 ?_
          refine x_rput (up a70 27 (((a70 27) - nI 1))) tw70 f_X8_181 R70 (by decide) rfl (fun c => ⟨rfl, rfl⟩) dX8_not_39 (fun sw71 Rw71 => ?_)
          have hO72 : RPft (up a70 27 (((a70 27) - nI 1))) e70 := hO70
          obtain ⟨t2872, t2972⟩ := id hO72
          refine x_iload_n dX8_not_42 rfl ?_
          refine x_ifT_ne (p := (v70).toInt) (tgt := 50) rfl dX8_not_43 (by decide) (fun hv73 => ?_) (fun hv73 => ?_)
          · refine x_iconst (v := nI 0) dX8_not_50 (by decide) ?_
            exact x_iret ⟨Nat.le_refl _, Nat.le_refl _⟩ rfl dX8_not_51 ⟨_, _, _, rfl, Rw71, (((FrA.rf.tr A68).tr A70).up (show 23 ≤ 27 ∧ 27 ≤ 29 by decide)), by rw [pNot_eq, if_pos (show tkK L p = 10 by omega), if_neg (by omega), hs70]; exact hO72⟩
          · refine x_iconst (v := nI 1) dX8_not_46 (by decide) ?_
            refine x_goto (tgt := 51) dX8_not_47 (by decide) ?_
            exact x_iret ⟨Nat.le_refl _, Nat.le_refl _⟩ rfl dX8_not_51 ⟨_, _, _, rfl, Rw71, (((FrA.rf.tr A68).tr A70).up (show 23 ≤ 27 ∧ 27 ≤ 29 by decide)), by rw [pNot_eq, if_pos (show tkK L p = 10 by omega), if_neg (by omega), hs70]; exact hO72⟩
        · have hp70 : RPok a70 tw70 b L b70 (op + 1) ∧ v70 = vE F c70 := by rw [hs70] at hq70; exact hq70
          obtain ⟨hO70, hv70e⟩ := hp70
          have hF70 := hF68.fr A70
          have hg70 := (hGN hd0) (tkN L p) (by omega) _ _ hs70
          obtain ⟨hy70, ⟨t2570, t2470, t2370, t270, t370⟩, t2770, t2870⟩ := id hO70
          obtain ⟨f070, hx701, hx702, hx703, hx704, hx705, hx706⟩ := id hy70
          have hk970 := tkK_lt (L := L) (p := b70)
          refine x_istore_n dX8_not_31 (by decide) rfl ?_
          refine x_lv (lv' := [some (.ref 1000), some (.int v70), none, none]) rfl ?_
          refine x_aload_n dX8_not_32 rfl ?_
          refine x_dup dX8_not_33 rfl ?_
          refine x_rget (v := .int (nI ((op + 1)))) f_X8_181 R70 (rg t2770) dX8_not_34 ?_
          refine x_iconst (v := nI 1) dX8_not_37 (by decide) ?_
          refine x_isubN (by omega) dX8_not_38 ?_
          refine x_rput (up a70 27 (nI (((op + 1)) - 1))) tw70 f_X8_181 R70 (by decide) rfl (fun c => ⟨rfl, rfl⟩) dX8_not_39 (fun sw74 Rw74 => ?_)
          have hO75 : RPok (up a70 27 (nI (((op + 1)) - 1))) tw70 b L b70 op := ⟨hy70.fr (FrA.rf.up (show 23 ≤ 27 ∧ 27 ≤ 29 by decide)), ⟨t2570, t2470, t2370, t270, t370⟩, (show nI (op + 1 - 1) = nI op by rw [Nat.add_sub_cancel]), t2870⟩
          have hF75 : FF (up a70 27 (nI (((op + 1)) - 1))) F := hF70.fr (FrA.rf.up (show 23 ≤ 27 ∧ 27 ≤ 29 by decide))
          obtain ⟨hy75, ⟨t2575, t2475, t2375, t275, t375⟩, t2775, t2875⟩ := id hO75
          obtain ⟨f075, hx751, hx752, hx753, hx754, hx755, hx756⟩ := id hy75
          refine x_iload_n dX8_not_42 rfl ?_
          refine x_ifT_ne (p := (v70).toInt) (tgt := 50) rfl dX8_not_43 (by decide) (fun hv76 => ?_) (fun hv76 => ?_)
          · refine x_iconst (v := nI 0) dX8_not_50 (by decide) ?_
            exact x_iret ⟨Nat.le_refl _, Nat.le_refl _⟩ rfl dX8_not_51 ⟨_, _, _, rfl, Rw74, (((FrA.rf.tr A68).tr A70).up (show 23 ≤ 27 ∧ 27 ≤ 29 by decide)), by rw [pNot_eq, if_pos (show tkK L p = 10 by omega), if_neg (by omega), hs70]; exact ⟨hO75, by rw [vE_tn hg70.2.2.2 (Or.inr rfl), ← hv70e]; exact (tn10_0 hv76).symm⟩⟩
          · refine x_iconst (v := nI 1) dX8_not_46 (by decide) ?_
            refine x_goto (tgt := 51) dX8_not_47 (by decide) ?_
            exact x_iret ⟨Nat.le_refl _, Nat.le_refl _⟩ rfl dX8_not_51 ⟨_, _, _, rfl, Rw74, (((FrA.rf.tr A68).tr A70).up (show 23 ≤ 27 ∧ 27 ≤ 29 by decide)), by rw [pNot_eq, if_pos (show tkK L p = 10 by omega), if_neg (by omega), hs70]; exact ⟨hO75, by rw [vE_tn hg70.2.2.2 (Or.inr rfl), ← hv70e]; exact (tn10_1 hv76).symm⟩⟩
      · exact absurd hv69 (by decide)
/-- the evaluators, with dd more that may be open -/
theorem e_parse {L : List Nat} : ∀ (dd op : Nat), op + dd = 5 → CE (22 * dd + 5) M_X8_atom op L (pOne L dd) ∧ CE (22 * dd + 16) M_X8_not op L (pNot L dd) ∧ CE (22 * dd + 22) M_X8_either op L (pEi L dd) := by
  have key : ∀ (dd op : Nat), op + dd = 5 → (0 < dd → CE (22 * (dd - 1) + 5) M_X8_atom (op + 1) L (pOne L (dd - 1)) ∧ CE (22 * (dd - 1) + 16) M_X8_not (op + 1) L (pNot L (dd - 1)) ∧ CE (22 * (dd - 1) + 22) M_X8_either (op + 1) L (pEi L (dd - 1))) → CE (22 * dd + 5) M_X8_atom op L (pOne L dd) ∧ CE (22 * dd + 16) M_X8_not op L (pNot L dd) ∧ CE (22 * dd + 22) M_X8_either op L (pEi L dd) := by
    intro dd op hod ih
    have g := good_all L dd
    have h1 : CE (22 * dd + 5) M_X8_atom op L (pOne L dd) := fun σ0 σ a tw b F p a1 a2 a3 a4 => e_atom0 (kq := 22 * dd) hod (fun q => (ih q).1.le (by omega)) (fun q => (ih q).2.2.le (by omega)) (fun _ => (good_all L (dd - 1)).1) (fun _ => (good_all L (dd - 1)).2.2) a1 a2 a3 a4
    have h2 : CE (22 * dd + 11) M_X8_added op L (pSum L dd) := e_added (e_term h1 g.1) (good_bin ok42 g.1)
    have h3 : CE (22 * dd + 16) M_X8_not op L (pNot L dd) := fun σ0 σ a tw b F p a1 a2 a3 a4 => e_not0 (kq := 22 * dd + 11) hod (fun q => (ih q).2.1.le (by omega)) h2 (fun _ => (good_all L (dd - 1)).2.1) good_sum a1 a2 a3 a4
    refine ⟨h1, h3, ?_⟩
    rw [pEi_eq]
    exact e_either (e_both h3 g.2.1) (good_bin ok9 g.2.1)
  intro dd
  induction dd with
  | zero => exact fun op h => key 0 op h (fun q => absurd q (by omega))
  | succ dd ih => exact fun op h => key (dd + 1) op h (fun _ => ih (op + 1) (by omega))
theorem e_either5 {L : List Nat} : CE 132 M_X8_either 0 L (pEi L 5) := (e_parse 5 0 rfl).2.2
