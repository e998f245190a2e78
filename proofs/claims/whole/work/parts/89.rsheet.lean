/-! the reference's sheets -/
theorem RSH.put {b b' : Nat → List Int32} {sh : Nat → SH} {i : Nat} {so : Int32} {sz : Nat} {row : List Int32} (h : RSH b sh) (hg : SHG sh) (hi : i < 4) (h13 : b' 13 = (b 13).set i (bI (decide (¬ so = -1)))) (h14 : b' 14 = (b 14).set i so) (h15 : ¬ so = -1 → (b' 15).getD i 0 = nI sz) (h15o : ∀ j, j ≠ i → (b' 15).getD j 0 = (b 15).getD j 0) (hl13 : (b 13).length = 4) (hl14 : (b 14).length = 4) (ho : ∀ p, p < i * 40 ∨ i * 40 + 40 ≤ p → (b' 16).getD p 0 = (b 16).getD p 0) (hr : ¬ so = -1 → ∀ j, j < sz → (b' 16).getD (i * 40 + j) 0 = row.getD j 0) : RSH b' (up sh i (so, sz, row)) := by
  intro k hk
  have hk2 := h k hk
  by_cases e : k = i
  · subst e
    rw [up_eq, h13, h14, gset (by omega), if_pos rfl]
    exact ⟨rfl, fun hn => ⟨by rw [gset (by omega), if_pos rfl], h15 hn, fun j hj => hr hn j hj⟩⟩
  · rw [up_ne _ _ e, h13, h14, gset (by omega), if_neg e, gset (by omega), if_neg e, h15o k e]
    refine ⟨hk2.1, fun hn => ⟨(hk2.2 hn).1, (hk2.2 hn).2.1, fun j hj => ?_⟩⟩
    have := (hg k hk).2.1
    rw [ho _ (by omega)]
    exact (hk2.2 hn).2.2 j hj
theorem RSH.row {b b' : Nat → List Int32} {sh : Nat → SH} {i : Nat} {row : List Int32} (h : RSH b sh) (hg : SHG sh) (hi : i < 4) (h13 : b' 13 = b 13) (h14 : b' 14 = b 14) (h15 : b' 15 = b 15) (ho : ∀ p, p < i * 40 ∨ i * 40 + 40 ≤ p → (b' 16).getD p 0 = (b 16).getD p 0) (hr : ¬ (sh i).1 = -1 → ∀ j, j < (sh i).2.1 → (b' 16).getD (i * 40 + j) 0 = row.getD j 0) : RSH b' (up sh i ((sh i).1, (sh i).2.1, row)) := by
  intro k hk
  have hk2 := h k hk
  rw [h13, h14, h15]
  by_cases e : k = i
  · subst e
    rw [up_eq]
    exact ⟨hk2.1, fun hn => ⟨(hk2.2 hn).1, (hk2.2 hn).2.1, fun j hj => hr hn j hj⟩⟩
  · rw [up_ne _ _ e]
    refine ⟨hk2.1, fun hn => ⟨(hk2.2 hn).1, (hk2.2 hn).2.1, fun j hj => ?_⟩⟩
    have := (hg k hk).2.1
    rw [ho _ (by omega)]
    exact (hk2.2 hn).2.2 j hj
theorem rep40 (j : Nat) : (List.replicate 40 (0 : Int32)).getD j 0 = 0 := by
  rw [List.getD_eq_getElem?_getD, List.getElem?_replicate]
  split <;> rfl
set_option maxHeartbeats 4000000 in
theorem lr_sheet {σ0 : ZS} {a : Nat → Int32} {tw : Int64} {b : Nat → List Int32} {sh : Nat → SH} (hS : RSH b sh) (hG : SHG sh) {i : Nat} (hi4 : i < 4) {so : Int32} (hso : 0 ≤ so.toInt) {sz : Nat} (hsz : sz ≤ 40) (hl13 : (b 13).length = 4) (hl14 : (b 14).length = 4) (hl15 : (b 15).length = 4) {d : Nat} (hd : 0 ≤ d) : ∀ (q k : Nat) (b1 : Nat → List Int32) (σ : ZS) (hR : RM σ0 σ a tw b1) (h13 : b1 13 = (b 13).set i (bI (decide (¬ so = -1)))) (h14 : b1 14 = (b 14).set i so) (h15 : b1 15 = (b 15).set i (nI sz)) (hF : ∀ j, j ≠ 13 → j ≠ 14 → j ≠ 15 → j ≠ 16 → b1 j = b j) (ho : ∀ p, p < i * 40 ∨ i * 40 + 40 ≤ p → (b1 16).getD p 0 = (b 16).getD p 0) (hz : ∀ j, j < k → (b1 16).getD (i * 40 + j) 0 = 0), k + q = sz → X M_X8_sheet d 0 0 (fun r9 σ' => r9 = some (.int (nI 1)) ∧ ∃ b' : Nat → List Int32, RM σ0 σ' a tw b' ∧ (∀ j, j ≠ 13 → j ≠ 14 → j ≠ 15 → j ≠ 16 → b' j = b j) ∧ RSH b' (up sh i (so, sz, List.replicate 40 0))) 0 0 77 [some (.ref 1000), some (.int (nI i)), some (.int so), some (.int (nI sz)), some (.int (nI k))] [] σ := by
  intro q
  induction q with
  | zero =>
    intro k b1 σ hR h13 h14 h15 hF ho hz hk
    refine x_iload dX8_sheet_77 rfl ?_
    refine x_iload_n dX8_sheet_79 rfl ?_
    refine x_icmpN_ge (tgt := 106) dX8_sheet_80 (by decide) (by omega) (by omega) (fun hv1 => ?_) (fun hv1 => ?_)
    · refine x_iconst (v := nI 1) dX8_sheet_106 (by decide) ?_
      exact x_iret ⟨Nat.le_refl _, Nat.le_refl _⟩ rfl dX8_sheet_107 ⟨rfl, b1, hR, hF, hS.put hG hi4 h13 h14 (fun _ => by rw [h15, gset (by omega), if_pos rfl]) (fun j hj => by rw [h15, gset (by omega), if_neg hj]) hl13 hl14 ho (fun _ j hj => by rw [hz j (by omega)]; exact (rep40 _).symm)⟩
    · exact absurd hv1 (by omega)
  | succ q ih =>
    intro k b1 σ hR h13 h14 h15 hF ho hz hk
    refine x_iload dX8_sheet_77 rfl ?_
    refine x_iload_n dX8_sheet_79 rfl ?_
    refine x_icmpN_ge (tgt := 106) dX8_sheet_80 (by decide) (by omega) (by omega) (fun hv1 => ?_) (fun hv1 => ?_)
    · exact absurd hv1 (by omega)
    · refine x_iload_n dX8_sheet_83 rfl ?_
      refine x_ifT_lt (p := so.toInt) (tgt := 106) rfl dX8_sheet_84 (by decide) (fun hv2 => ?_) (fun hv2 => ?_)
      · exact absurd hv2 (by omega)
      · refine x_aload_n dX8_sheet_87 rfl ?_
        refine x_rget f_X8_72 hR rfl dX8_sheet_88 ?_
        refine x_bipush (v := nI 40) dX8_sheet_91 (by decide) ?_
        refine x_iload_n dX8_sheet_93 rfl ?_
        refine x_imulN dX8_sheet_94 ?_
        refine x_topi (y := nI (i * 40)) (by rw [Nat.mul_comm]) ?_
        refine x_iload dX8_sheet_95 rfl ?_
        refine x_iaddN dX8_sheet_97 ?_
        refine x_iconst (v := nI 0) dX8_sheet_98 (by decide) ?_
        refine x_rast (j := 16) (n := (i * 40) + k) hR rfl (by decide) rfl rfl (rlt hR (m := 160) (by decide) rfl (by omega)) dX8_sheet_99 (fun sw3 Rw3 => ?_)
        refine x_iincN dX8_sheet_100 rfl (by decide) rfl ?_
        refine x_lv (lv' := [some (.ref 1000), some (.int (nI i)), some (.int so), some (.int (nI sz)), some (.int (nI (k + 1)))]) rfl ?_
        refine x_goto (tgt := 77) dX8_sheet_103 (by decide) ?_
        refine ih (k + 1) (up b1 16 ((b1 16).set ((i * 40) + k) (nI 0))) sw3 Rw3 h13 h14 h15 (fun j a1 a2 a3 a4 => (up_ne _ _ a4).trans (hF j a1 a2 a3 a4)) (fun p hp => ?_) (fun j hj => ?_) (by omega)
        · rw [up_eq, gset (rlt hR (m := 160) (by decide) rfl (by omega)), if_neg (by omega)]; exact ho p hp
        · rw [up_eq, gset (rlt hR (m := 160) (by decide) rfl (by omega))]
          by_cases e : j = k
          · rw [if_pos (by omega)]; rfl
          · rw [if_neg (by omega)]; exact hz j (by omega)
set_option maxHeartbeats 4000000 in
theorem r_sheet {σ0 σ : ZS} {a : Nat → Int32} {tw : Int64} {b : Nat → List Int32} (hR : RM σ0 σ a tw b) {sh : Nat → SH} (hS : RSH b sh) (hG : SHG sh) {i : Nat} (hi4 : i < 4) {so : Int32} (hso : 0 ≤ so.toInt ∧ so.toInt ≤ 2) {sz : Nat} (hsz : sz ≤ 40) : Cn 3 M_X8_sheet 0 0 [.ref 1000, .int (nI i), .int so, .int (nI sz)] σ (fun r9 σ' => r9 = some (.int (nI 1)) ∧ ∃ b' : Nat → List Int32, RM σ0 σ' a tw b' ∧ (∀ j, j ≠ 13 → j ≠ 14 → j ≠ 15 → j ≠ 16 → b' j = b j) ∧ RSH b' (up sh i (so, sz, List.replicate 40 0))) := by
  have hso1 : ¬ so = -1 := fun q => by
    rw [q] at hso
    exact absurd hso.1 (by decide)
  refine Cn.intro (lv0 := [some (.ref 1000), some (.int (nI i)), some (.int so), some (.int (nI sz)), none]) rfl (Nat.le_of_ble_eq_true rfl) rfl (fun d hd => ?_)
  refine x_iload_n dX8_sheet_0 rfl ?_
  refine x_callS m_X8_isSheet l_X8_299 (r_isSheet (nI_toInt (by omega))) (by omega) rfl rfl (Nat.le_of_ble_eq_true rfl) ⟨Nat.le_refl _, Nat.le_refl _⟩ dX8_sheet_1 (fun r1 s1 q1 => ?_)
  obtain ⟨rfl, eq1⟩ := q1
  obtain rfl := eq1.symm
  refine x_stk (st' := [.int (bI (decide (0 ≤ ((i : Nat) : Int) ∧ ((i : Nat) : Int) ≤ 3)))]) rfl ?_
  refine x_ifP_eq (P := 0 ≤ ((i : Nat) : Int) ∧ ((i : Nat) : Int) ≤ 3) inferInstance (tgt := 31) dX8_sheet_4 (by decide) (fun hv2 => ?_) (fun hv2 => ?_)
  · exact absurd (by omega) hv2
  · refine x_iload_n dX8_sheet_7 rfl ?_
    refine x_i2l dX8_sheet_8 ?_
    refine x_ldc2 (v := (-1)) cl_X8_407 dX8_sheet_9 ?_
    refine x_ldc2 (v := (2)) cl_X8_302 dX8_sheet_12 ?_
    refine x_callS m_X8_in l_X8_85 (r_in (p := so.toInt) (q := (-1)) (r := (2)) (tL rfl) (by decide) (by decide)) (by omega) rfl rfl (Nat.le_of_ble_eq_true rfl) ⟨Nat.le_refl _, Nat.le_refl _⟩ dX8_sheet_15 (fun r3 s3 q3 => ?_)
    obtain ⟨rfl, eq3⟩ := q3
    obtain rfl := eq3.symm
    refine x_stk (st' := [.int (bI (decide ((-1) ≤ so.toInt ∧ so.toInt ≤ (2))))]) rfl ?_
    refine x_ifP_eq (P := (-1) ≤ so.toInt ∧ so.toInt ≤ (2)) inferInstance (tgt := 31) dX8_sheet_18 (by decide) (fun hv4 => ?_) (fun hv4 => ?_)
    · exact absurd (by omega) hv4
    · refine x_iload_n dX8_sheet_21 rfl ?_
      refine x_ifT_lt (p := so.toInt) (tgt := 34) rfl dX8_sheet_22 (by decide) (fun hv5 => ?_) (fun hv5 => ?_)
      · exact absurd hv5 (by omega)
      · refine x_iload_n dX8_sheet_25 rfl ?_
        refine x_bipush (v := nI 40) dX8_sheet_26 (by decide) ?_
        refine x_icmpN_le (tgt := 34) dX8_sheet_28 (by decide) (by omega) (by omega) (fun hv6 => ?_) (fun hv6 => ?_)
        · refine x_iload_n dX8_sheet_34 rfl ?_
          refine x_ifT_lt (p := so.toInt) (tgt := 45) rfl dX8_sheet_35 (by decide) (fun hv7 => ?_) (fun hv7 => ?_)
          · exact absurd hv7 (by omega)
          · refine x_iload_n dX8_sheet_38 rfl ?_
            refine x_ifN_ge (tgt := 45) dX8_sheet_39 (by decide) (by omega) ?_
            refine x_aload_n dX8_sheet_45 rfl ?_
            refine x_rget f_X8_62 hR rfl dX8_sheet_46 ?_
            refine x_iload_n dX8_sheet_49 rfl ?_
            refine x_iload_n dX8_sheet_50 rfl ?_
            refine x_ifT_lt (p := so.toInt) (tgt := 58) rfl dX8_sheet_51 (by decide) (fun hv9 => ?_) (fun hv9 => ?_)
            · exact absurd hv9 (by omega)
            · refine x_iconst (v := nI 1) dX8_sheet_54 (by decide) ?_
              refine x_goto (tgt := 59) dX8_sheet_55 (by decide) ?_
              refine x_topi (y := bI (decide (¬ so = -1))) (bI_1 hso1).symm ?_
              refine x_rzst (j := 13) (n := i) hR rfl (by decide) rfl rfl (rlt hR (m := 4) (by decide) rfl (by omega)) (bI_vp _) dX8_sheet_59 (fun sw10 Rw10 => ?_)
              refine x_aload_n dX8_sheet_60 rfl ?_
              refine x_rget f_X8_66 Rw10 rfl dX8_sheet_61 ?_
              refine x_iload_n dX8_sheet_64 rfl ?_
              refine x_iload_n dX8_sheet_65 rfl ?_
              refine x_rast (j := 14) (n := i) Rw10 rfl (by decide) rfl rfl (rlt Rw10 (m := 4) (by decide) rfl (by omega)) dX8_sheet_66 (fun sw11 Rw11 => ?_)
              refine x_aload_n dX8_sheet_67 rfl ?_
              refine x_rget f_X8_69 Rw11 rfl dX8_sheet_68 ?_
              refine x_iload_n dX8_sheet_71 rfl ?_
              refine x_iload_n dX8_sheet_72 rfl ?_
              refine x_rast (j := 15) (n := i) Rw11 rfl (by decide) rfl rfl (rlt Rw11 (m := 4) (by decide) rfl (by omega)) dX8_sheet_73 (fun sw12 Rw12 => ?_)
              refine x_iconst (v := nI 0) dX8_sheet_74 (by decide) ?_
              refine x_istore dX8_sheet_75 (by decide) rfl ?_
              refine x_lv (lv' := [some (.ref 1000), some (.int (nI i)), some (.int so), some (.int (nI sz)), some (.int (nI 0))]) rfl ?_
              exact lr_sheet hS hG hi4 (by omega) hsz (hR.rlen (j := 13) (by decide) (m := 4) rfl) (hR.rlen (j := 14) (by decide) (m := 4) rfl) (hR.rlen (j := 15) (by decide) (m := 4) rfl) (Nat.le_trans (by decide) hd) sz 0 (up (up (up b 13 ((b 13).set i (bI ((decide (¬ so = -1)))))) 14 (((up b 13 ((b 13).set i (bI ((decide (¬ so = -1)))))) 14).set i so)) 15 (((up (up b 13 ((b 13).set i (bI ((decide (¬ so = -1)))))) 14 (((up b 13 ((b 13).set i (bI ((decide (¬ so = -1)))))) 14).set i so)) 15).set i (nI sz))) sw12 Rw12 rfl rfl rfl (fun j a1 a2 a3 a4 => (up_ne _ _ a3).trans ((up_ne _ _ a2).trans (up_ne _ _ a1))) (fun _ _ => rfl) (fun j hj => absurd hj (by omega)) (by omega)
        · exact absurd hv6 (by omega)
set_option maxHeartbeats 4000000 in
theorem r_sheet_m {σ0 σ : ZS} {a : Nat → Int32} {tw : Int64} {b : Nat → List Int32} (hR : RM σ0 σ a tw b) {sh : Nat → SH} (hS : RSH b sh) (hG : SHG sh) {i : Nat} (hi4 : i < 4) {n : Int32} : Cn 3 M_X8_sheet 0 0 [.ref 1000, .int (nI i), .int ((-1)), .int n] σ (fun r9 σ' => r9 = some (.int (nI 1)) ∧ ∃ b' : Nat → List Int32, RM σ0 σ' a tw b' ∧ (∀ j, j ≠ 13 → j ≠ 14 → j ≠ 15 → j ≠ 16 → b' j = b j) ∧ RSH b' (up sh i (-1, 0, List.replicate 40 0))) := by
  refine Cn.intro (lv0 := [some (.ref 1000), some (.int (nI i)), some (.int ((-1))), some (.int n), none]) rfl (Nat.le_of_ble_eq_true rfl) rfl (fun d hd => ?_)
  refine x_iload_n dX8_sheet_0 rfl ?_
  refine x_callS m_X8_isSheet l_X8_299 (r_isSheet (nI_toInt (by omega))) (by omega) rfl rfl (Nat.le_of_ble_eq_true rfl) ⟨Nat.le_refl _, Nat.le_refl _⟩ dX8_sheet_1 (fun r1 s1 q1 => ?_)
  obtain ⟨rfl, eq1⟩ := q1
  obtain rfl := eq1.symm
  refine x_stk (st' := [.int (bI (decide (0 ≤ ((i : Nat) : Int) ∧ ((i : Nat) : Int) ≤ 3)))]) rfl ?_
  refine x_ifP_eq (P := 0 ≤ ((i : Nat) : Int) ∧ ((i : Nat) : Int) ≤ 3) inferInstance (tgt := 31) dX8_sheet_4 (by decide) (fun hv2 => ?_) (fun hv2 => ?_)
  · exact absurd (by omega) hv2
  · refine x_iload_n dX8_sheet_7 rfl ?_
    refine x_i2l dX8_sheet_8 ?_
    refine x_ldc2 (v := (-1)) cl_X8_407 dX8_sheet_9 ?_
    refine x_ldc2 (v := (2)) cl_X8_302 dX8_sheet_12 ?_
    refine x_callS m_X8_in l_X8_85 (r_in (p := (-1)) (q := (-1)) (r := (2)) (tL (by decide)) (by decide) (by decide)) (by omega) rfl rfl (Nat.le_of_ble_eq_true rfl) ⟨Nat.le_refl _, Nat.le_refl _⟩ dX8_sheet_15 (fun r3 s3 q3 => ?_)
    obtain ⟨rfl, eq3⟩ := q3
    obtain rfl := eq3.symm
    refine x_stk (st' := [.int (bI (decide ((-1) ≤ (-1) ∧ (-1) ≤ (2))))]) rfl ?_
    refine x_ifP_eq (P := (-1) ≤ (-1) ∧ (-1) ≤ (2)) inferInstance (tgt := 31) dX8_sheet_18 (by decide) (fun hv4 => ?_) (fun hv4 => ?_)
    · exact absurd (by decide) hv4
    · refine x_iload_n dX8_sheet_21 rfl ?_
      refine x_ifT_lt (p := (-1)) (tgt := 34) (by decide) dX8_sheet_22 (by decide) (fun hv5 => ?_) (fun hv5 => ?_)
      · refine x_iload_n dX8_sheet_34 rfl ?_
        refine x_ifT_lt (p := (-1)) (tgt := 45) (by decide) dX8_sheet_35 (by decide) (fun hv6 => ?_) (fun hv6 => ?_)
        · refine x_aload_n dX8_sheet_45 rfl ?_
          refine x_rget f_X8_62 hR rfl dX8_sheet_46 ?_
          refine x_iload_n dX8_sheet_49 rfl ?_
          refine x_iload_n dX8_sheet_50 rfl ?_
          refine x_ifT_lt (p := (-1)) (tgt := 58) (by decide) dX8_sheet_51 (by decide) (fun hv7 => ?_) (fun hv7 => ?_)
          · refine x_iconst (v := nI 0) dX8_sheet_58 (by decide) ?_
            refine x_rzst (j := 13) (n := i) hR rfl (by decide) rfl rfl (rlt hR (m := 4) (by decide) rfl (by omega)) (by decide) dX8_sheet_59 (fun sw8 Rw8 => ?_)
            refine x_aload_n dX8_sheet_60 rfl ?_
            refine x_rget f_X8_66 Rw8 rfl dX8_sheet_61 ?_
            refine x_iload_n dX8_sheet_64 rfl ?_
            refine x_iload_n dX8_sheet_65 rfl ?_
            refine x_rast (j := 14) (n := i) Rw8 rfl (by decide) rfl rfl (rlt Rw8 (m := 4) (by decide) rfl (by omega)) dX8_sheet_66 (fun sw9 Rw9 => ?_)
            refine x_aload_n dX8_sheet_67 rfl ?_
            refine x_rget f_X8_69 Rw9 rfl dX8_sheet_68 ?_
            refine x_iload_n dX8_sheet_71 rfl ?_
            refine x_iload_n dX8_sheet_72 rfl ?_
            refine x_rast (j := 15) (n := i) Rw9 rfl (by decide) rfl rfl (rlt Rw9 (m := 4) (by decide) rfl (by omega)) dX8_sheet_73 (fun sw10 Rw10 => ?_)
            refine x_iconst (v := nI 0) dX8_sheet_74 (by decide) ?_
            refine x_istore dX8_sheet_75 (by decide) rfl ?_
            refine x_lv (lv' := [some (.ref 1000), some (.int (nI i)), some (.int ((-1))), some (.int n), some (.int (nI 0))]) rfl ?_
            refine x_iload dX8_sheet_77 rfl ?_
            refine x_iload_n dX8_sheet_79 rfl ?_
            refine x_icmpT_ge (p := ((0 : Nat) : Int)) (q := (n).toInt) (tgt := 106) (nI_toInt (by omega)) rfl dX8_sheet_80 (by decide) (fun hv11 => ?_) (fun hv11 => ?_)
            · refine x_iconst (v := nI 1) dX8_sheet_106 (by decide) ?_
              exact x_iret ⟨Nat.le_refl _, Nat.le_refl _⟩ rfl dX8_sheet_107 ⟨rfl, _, Rw10, (fun j a1 a2 a3 a4 => (up_ne _ _ a3).trans ((up_ne _ _ a2).trans (up_ne _ _ a1))), hS.put hG hi4 (so := -1) (by rw [show decide (¬ (-1 : Int32) = -1) = false from rfl, bI_f]; rfl) rfl (fun z => absurd rfl z) (fun j hj => (show ((b 15).set i n).getD j 0 = (b 15).getD j 0 from by rw [gset (by rw [hR.rlen (j := 15) (by decide) (m := 4) rfl]; omega), if_neg hj])) (hR.rlen (j := 13) (by decide) (m := 4) rfl) (hR.rlen (j := 14) (by decide) (m := 4) rfl) (fun _ _ => rfl) (fun z => absurd rfl z)⟩
            · refine x_iload_n dX8_sheet_83 rfl ?_
              refine x_ifT_lt (p := (-1)) (tgt := 106) (by decide) dX8_sheet_84 (by decide) (fun hv12 => ?_) (fun hv12 => ?_)
              · refine x_iconst (v := nI 1) dX8_sheet_106 (by decide) ?_
                exact x_iret ⟨Nat.le_refl _, Nat.le_refl _⟩ rfl dX8_sheet_107 ⟨rfl, _, Rw10, (fun j a1 a2 a3 a4 => (up_ne _ _ a3).trans ((up_ne _ _ a2).trans (up_ne _ _ a1))), hS.put hG hi4 (so := -1) (by rw [show decide (¬ (-1 : Int32) = -1) = false from rfl, bI_f]; rfl) rfl (fun z => absurd rfl z) (fun j hj => (show ((b 15).set i n).getD j 0 = (b 15).getD j 0 from by rw [gset (by rw [hR.rlen (j := 15) (by decide) (m := 4) rfl]; omega), if_neg hj])) (hR.rlen (j := 13) (by decide) (m := 4) rfl) (hR.rlen (j := 14) (by decide) (m := 4) rfl) (fun _ _ => rfl) (fun z => absurd rfl z)⟩
              · exact absurd hv12 (by decide)
          · exact absurd hv7 (by decide)
        · exact absurd hv6 (by decide)
      · exact absurd hv5 (by decide)
set_option maxHeartbeats 4000000 in
theorem r_sheet_b1 {σ0 σ : ZS} {a : Nat → Int32} {tw : Int64} {b : Nat → List Int32} (hR : RM σ0 σ a tw b) {x so n : Int32} (hb : ¬ (0 ≤ x.toInt ∧ x.toInt ≤ 3) ∨ ¬ (-1 ≤ so.toInt ∧ so.toInt ≤ 2) ∨ (0 ≤ so.toInt ∧ 40 < n.toInt)) : Cn 3 M_X8_sheet 0 0 [.ref 1000, .int x, .int so, .int n] σ (fun r9 σ' => r9 = some (.int (-2)) ∧ σ' = σ) := by
  refine Cn.intro (lv0 := [some (.ref 1000), some (.int x), some (.int so), some (.int n), none]) rfl (Nat.le_of_ble_eq_true rfl) rfl (fun d hd => ?_)
  refine x_iload_n dX8_sheet_0 rfl ?_
  refine x_callS m_X8_isSheet l_X8_299 (r_isSheet rfl) (by omega) rfl rfl (Nat.le_of_ble_eq_true rfl) ⟨Nat.le_refl _, Nat.le_refl _⟩ dX8_sheet_1 (fun r1 s1 q1 => ?_)
  obtain ⟨rfl, eq1⟩ := q1
  obtain rfl := eq1.symm
  refine x_stk (st' := [.int (bI (decide (0 ≤ (x).toInt ∧ (x).toInt ≤ 3)))]) rfl ?_
  refine x_ifP_eq (P := 0 ≤ (x).toInt ∧ (x).toInt ≤ 3) inferInstance (tgt := 31) dX8_sheet_4 (by decide) (fun hv2 => ?_) (fun hv2 => ?_)
  · refine x_bipush (v := (-2)) dX8_sheet_31 (by decide) ?_
    exact x_iret ⟨Nat.le_refl _, Nat.le_refl _⟩ rfl dX8_sheet_33 ⟨rfl, rfl⟩
  · refine x_iload_n dX8_sheet_7 rfl ?_
    refine x_i2l dX8_sheet_8 ?_
    refine x_ldc2 (v := (-1)) cl_X8_407 dX8_sheet_9 ?_
    refine x_ldc2 (v := (2)) cl_X8_302 dX8_sheet_12 ?_
    refine x_callS m_X8_in l_X8_85 (r_in (p := so.toInt) (q := (-1)) (r := (2)) (tL rfl) (by decide) (by decide)) (by omega) rfl rfl (Nat.le_of_ble_eq_true rfl) ⟨Nat.le_refl _, Nat.le_refl _⟩ dX8_sheet_15 (fun r3 s3 q3 => ?_)
    obtain ⟨rfl, eq3⟩ := q3
    obtain rfl := eq3.symm
    refine x_stk (st' := [.int (bI (decide ((-1) ≤ so.toInt ∧ so.toInt ≤ (2))))]) rfl ?_
    refine x_ifP_eq (P := (-1) ≤ so.toInt ∧ so.toInt ≤ (2)) inferInstance (tgt := 31) dX8_sheet_18 (by decide) (fun hv4 => ?_) (fun hv4 => ?_)
    · refine x_bipush (v := (-2)) dX8_sheet_31 (by decide) ?_
      exact x_iret ⟨Nat.le_refl _, Nat.le_refl _⟩ rfl dX8_sheet_33 ⟨rfl, rfl⟩
    · refine x_iload_n dX8_sheet_21 rfl ?_
      refine x_ifT_lt (p := so.toInt) (tgt := 34) rfl dX8_sheet_22 (by decide) (fun hv5 => ?_) (fun hv5 => ?_)
      · exfalso; omega
      · refine x_iload_n dX8_sheet_25 rfl ?_
        refine x_bipush (v := nI 40) dX8_sheet_26 (by decide) ?_
        refine x_icmpT_le (p := (n).toInt) (q := ((40 : Nat) : Int)) (tgt := 34) rfl (nI_toInt (by omega)) dX8_sheet_28 (by decide) (fun hv6 => ?_) (fun hv6 => ?_)
        · exfalso; omega
        · refine x_bipush (v := (-2)) dX8_sheet_31 (by decide) ?_
          exact x_iret ⟨Nat.le_refl _, Nat.le_refl _⟩ rfl dX8_sheet_33 ⟨rfl, rfl⟩
set_option maxHeartbeats 4000000 in
theorem r_sheet_b2 {σ0 σ : ZS} {a : Nat → Int32} {tw : Int64} {b : Nat → List Int32} (hR : RM σ0 σ a tw b) {i : Nat} (hi4 : i < 4) {so : Int32} (hso : 0 ≤ so.toInt ∧ so.toInt ≤ 2) {n : Int32} (hn : n.toInt < 0) : Cn 3 M_X8_sheet 0 0 [.ref 1000, .int (nI i), .int so, .int n] σ (fun r9 σ' => r9 = some (.int (-14)) ∧ σ' = σ) := by
  refine Cn.intro (lv0 := [some (.ref 1000), some (.int (nI i)), some (.int so), some (.int n), none]) rfl (Nat.le_of_ble_eq_true rfl) rfl (fun d hd => ?_)
  refine x_iload_n dX8_sheet_0 rfl ?_
  refine x_callS m_X8_isSheet l_X8_299 (r_isSheet (nI_toInt (by omega))) (by omega) rfl rfl (Nat.le_of_ble_eq_true rfl) ⟨Nat.le_refl _, Nat.le_refl _⟩ dX8_sheet_1 (fun r1 s1 q1 => ?_)
  obtain ⟨rfl, eq1⟩ := q1
  obtain rfl := eq1.symm
  refine x_stk (st' := [.int (bI (decide (0 ≤ ((i : Nat) : Int) ∧ ((i : Nat) : Int) ≤ 3)))]) rfl ?_
  refine x_ifP_eq (P := 0 ≤ ((i : Nat) : Int) ∧ ((i : Nat) : Int) ≤ 3) inferInstance (tgt := 31) dX8_sheet_4 (by decide) (fun hv2 => ?_) (fun hv2 => ?_)
  · exact absurd (by omega) hv2
  · refine x_iload_n dX8_sheet_7 rfl ?_
    refine x_i2l dX8_sheet_8 ?_
    refine x_ldc2 (v := (-1)) cl_X8_407 dX8_sheet_9 ?_
    refine x_ldc2 (v := (2)) cl_X8_302 dX8_sheet_12 ?_
    refine x_callS m_X8_in l_X8_85 (r_in (p := so.toInt) (q := (-1)) (r := (2)) (tL rfl) (by decide) (by decide)) (by omega) rfl rfl (Nat.le_of_ble_eq_true rfl) ⟨Nat.le_refl _, Nat.le_refl _⟩ dX8_sheet_15 (fun r3 s3 q3 => ?_)
    obtain ⟨rfl, eq3⟩ := q3
    obtain rfl := eq3.symm
    refine x_stk (st' := [.int (bI (decide ((-1) ≤ so.toInt ∧ so.toInt ≤ (2))))]) rfl ?_
    refine x_ifP_eq (P := (-1) ≤ so.toInt ∧ so.toInt ≤ (2)) inferInstance (tgt := 31) dX8_sheet_18 (by decide) (fun hv4 => ?_) (fun hv4 => ?_)
    · exact absurd (by omega) hv4
    · refine x_iload_n dX8_sheet_21 rfl ?_
      refine x_ifT_lt (p := so.toInt) (tgt := 34) rfl dX8_sheet_22 (by decide) (fun hv5 => ?_) (fun hv5 => ?_)
      · refine x_iload_n dX8_sheet_34 rfl ?_
        refine x_ifT_lt (p := so.toInt) (tgt := 45) rfl dX8_sheet_35 (by decide) (fun hv6 => ?_) (fun hv6 => ?_)
        · exfalso; omega
        · refine x_iload_n dX8_sheet_38 rfl ?_
          refine x_ifT_ge (p := (n).toInt) (tgt := 45) rfl dX8_sheet_39 (by decide) (fun hv7 => ?_) (fun hv7 => ?_)
          · exfalso; omega
          · refine x_bipush (v := (-14)) dX8_sheet_42 (by decide) ?_
            exact x_iret ⟨Nat.le_refl _, Nat.le_refl _⟩ rfl dX8_sheet_44 ⟨rfl, rfl⟩
      · refine x_iload_n dX8_sheet_25 rfl ?_
        refine x_bipush (v := nI 40) dX8_sheet_26 (by decide) ?_
        refine x_icmpT_le (p := (n).toInt) (q := ((40 : Nat) : Int)) (tgt := 34) rfl (nI_toInt (by omega)) dX8_sheet_28 (by decide) (fun hv8 => ?_) (fun hv8 => ?_)
        · refine x_iload_n dX8_sheet_34 rfl ?_
          refine x_ifT_lt (p := so.toInt) (tgt := 45) rfl dX8_sheet_35 (by decide) (fun hv9 => ?_) (fun hv9 => ?_)
          · exfalso; omega
          · refine x_iload_n dX8_sheet_38 rfl ?_
            refine x_ifT_ge (p := (n).toInt) (tgt := 45) rfl dX8_sheet_39 (by decide) (fun hv10 => ?_) (fun hv10 => ?_)
            · exfalso; omega
            · refine x_bipush (v := (-14)) dX8_sheet_42 (by decide) ?_
              exact x_iret ⟨Nat.le_refl _, Nat.le_refl _⟩ rfl dX8_sheet_44 ⟨rfl, rfl⟩
        · exfalso; omega
def putV (so v : Int32) : Int32 := if so.toInt = 0 then v.toInt8.toInt32 else if so.toInt = 1 then v.toInt16.toInt32 else v
set_option maxHeartbeats 4000000 in
theorem r_cell {σ0 σ : ZS} {a : Nat → Int32} {tw : Int64} {b : Nat → List Int32} (hR : RM σ0 σ a tw b) {sh : Nat → SH} (hS : RSH b sh) (hG : SHG sh) {i : Nat} (hi4 : i < 4) (hne : ¬ (sh i).1 = -1) {j : Nat} (hj : j < (sh i).2.1) {v : Int32} : Cn 3 M_X8_cell 0 0 [.ref 1000, .int (nI i), .int (nI j), .int v] σ (fun r9 σ' => r9 = some (.int (nI 1)) ∧ ∃ b' : Nat → List Int32, RM σ0 σ' a tw b' ∧ Fb 16 b b' ∧ RSH b' (up sh i ((sh i).1, (sh i).2.1, (sh i).2.2.set j (putV (sh i).1 v)))) := by
  have hz40 := (hG i hi4).2.1
  refine Cn.intro (lv0 := [some (.ref 1000), some (.int (nI i)), some (.int (nI j)), some (.int v)]) rfl (Nat.le_of_ble_eq_true rfl) rfl (fun d hd => ?_)
  refine x_iload_n dX8_cell_0 rfl ?_
  refine x_callS m_X8_isSheet l_X8_299 (r_isSheet (nI_toInt (by omega))) (by omega) rfl rfl (Nat.le_of_ble_eq_true rfl) ⟨Nat.le_refl _, Nat.le_refl _⟩ dX8_cell_1 (fun r1 s1 q1 => ?_)
  obtain ⟨rfl, eq1⟩ := q1
  obtain rfl := eq1.symm
  refine x_stk (st' := [.int (bI (decide (0 ≤ ((i : Nat) : Int) ∧ ((i : Nat) : Int) ≤ 3)))]) rfl ?_
  refine x_ifP_ne (P := 0 ≤ ((i : Nat) : Int) ∧ ((i : Nat) : Int) ≤ 3) inferInstance (tgt := 10) dX8_cell_4 (by decide) (fun hv2 => ?_) (fun hv2 => ?_)
  · refine x_aload_n dX8_cell_10 rfl ?_
    refine x_rget f_X8_62 hR rfl dX8_cell_11 ?_
    refine x_iload_n dX8_cell_14 rfl ?_
    refine x_rzld (j := 13) (n := i) hR rfl (by decide) rfl rfl (rlt hR (m := 4) (by decide) rfl (by omega)) dX8_cell_15 ?_
    refine x_topi (y := bI (decide (¬ (sh i).1 = -1))) (hS i hi4).1 ?_
    refine x_ifP_ne (P := ¬ (sh i).1 = -1) inferInstance (tgt := 22) dX8_cell_16 (by decide) (fun hv3 => ?_) (fun hv3 => ?_)
    · refine x_iload_n dX8_cell_22 rfl ?_
      refine x_i2l dX8_cell_23 ?_
      refine x_lconst (v := 0) dX8_cell_24 (by decide) ?_
      refine x_aload_n dX8_cell_25 rfl ?_
      refine x_rget f_X8_69 hR rfl dX8_cell_26 ?_
      refine x_iload_n dX8_cell_29 rfl ?_
      refine x_rald (j := 15) (n := i) hR rfl (by decide) rfl rfl (rlt hR (m := 4) (by decide) rfl (by omega)) dX8_cell_30 ?_
      refine x_topi (y := nI ((sh i).2.1)) ((hS i hi4).2 hne).2.1 ?_
      refine x_iconst (v := nI 1) dX8_cell_31 (by decide) ?_
      refine x_isub dX8_cell_32 ?_
      refine x_i2l dX8_cell_33 ?_
      refine x_callS m_X8_in l_X8_85 (r_in (p := ((j : Nat) : Int)) (q := 0) (r := (((sh i).2.1 : Nat) : Int) - 1) (tL (nI_toInt (by omega))) (by decide) (tL (nI_m1 (by omega)))) (by omega) rfl rfl (Nat.le_of_ble_eq_true rfl) ⟨Nat.le_refl _, Nat.le_refl _⟩ dX8_cell_34 (fun r4 s4 q4 => ?_)
      obtain ⟨rfl, eq4⟩ := q4
      obtain rfl := eq4.symm
      refine x_stk (st' := [.int (bI (decide (0 ≤ ((j : Nat) : Int) ∧ ((j : Nat) : Int) ≤ (((sh i).2.1 : Nat) : Int) - 1)))]) rfl ?_
      refine x_ifP_ne (P := 0 ≤ ((j : Nat) : Int) ∧ ((j : Nat) : Int) ≤ (((sh i).2.1 : Nat) : Int) - 1) inferInstance (tgt := 43) dX8_cell_37 (by decide) (fun hv5 => ?_) (fun hv5 => ?_)
      · refine x_aload_n dX8_cell_43 rfl ?_
        refine x_rget f_X8_72 hR rfl dX8_cell_44 ?_
        refine x_bipush (v := nI 40) dX8_cell_47 (by decide) ?_
        refine x_iload_n dX8_cell_49 rfl ?_
        refine x_imulN dX8_cell_50 ?_
        refine x_topi (y := nI (i * 40)) (by rw [Nat.mul_comm]) ?_
        refine x_iload_n dX8_cell_51 rfl ?_
        refine x_iaddN dX8_cell_52 ?_
        refine x_aload_n dX8_cell_53 rfl ?_
        refine x_rget f_X8_66 hR rfl dX8_cell_54 ?_
        refine x_iload_n dX8_cell_57 rfl ?_
        refine x_rald (j := 14) (n := i) hR rfl (by decide) rfl rfl (rlt hR (m := 4) (by decide) rfl (by omega)) dX8_cell_58 ?_
        refine x_topi (y := (sh i).1) ((hS i hi4).2 hne).1 ?_
        refine x_ifT_ne (p := ((sh i).1).toInt) (tgt := 67) rfl dX8_cell_59 (by decide) (fun hv6 => ?_) (fun hv6 => ?_)
        · refine x_aload_n dX8_cell_67 rfl ?_
          refine x_rget f_X8_66 hR rfl dX8_cell_68 ?_
          refine x_iload_n dX8_cell_71 rfl ?_
          refine x_rald (j := 14) (n := i) hR rfl (by decide) rfl rfl (rlt hR (m := 4) (by decide) rfl (by omega)) dX8_cell_72 ?_
          refine x_topi (y := (sh i).1) ((hS i hi4).2 hne).1 ?_
          refine x_iconst (v := nI 1) dX8_cell_73 (by decide) ?_
          refine x_icmpT_ne (p := ((sh i).1).toInt) (q := ((1 : Nat) : Int)) (tgt := 82) rfl (nI_toInt (by omega)) dX8_cell_74 (by decide) (fun hv7 => ?_) (fun hv7 => ?_)
          · refine x_iload_n dX8_cell_82 rfl ?_
            refine x_rast (j := 16) (n := (i * 40) + j) hR rfl (by decide) rfl rfl (rlt hR (m := 160) (by decide) rfl (by omega)) dX8_cell_83 (fun sw8 Rw8 => ?_)
            refine x_iconst (v := nI 1) dX8_cell_84 (by decide) ?_
            exact x_iret ⟨Nat.le_refl _, Nat.le_refl _⟩ rfl dX8_cell_85 ⟨rfl, _, Rw8, Fb.ups, hS.row hG hi4 rfl rfl rfl (fun p hp => by rw [up_eq, gset (rlt hR (m := 160) (by decide) rfl (by omega)), if_neg (by omega)]) (fun _ q hq => by
  rw [up_eq, gset (rlt hR (m := 160) (by decide) rfl (by omega)), gset (by rw [(hG i hi4).2.2]; omega)]
  by_cases e : q = j
  · rw [if_pos (by omega), if_pos e]; rw [putV, if_neg (by omega), if_neg (by omega)]
  · rw [if_neg (by omega), if_neg e]; exact ((hS i hi4).2 hne).2.2 q hq)⟩
          · refine x_iload_n dX8_cell_77 rfl ?_
            refine x_i2s dX8_cell_78 ?_
            refine x_goto (tgt := 83) dX8_cell_79 (by decide) ?_
            refine x_rast (j := 16) (n := (i * 40) + j) hR rfl (by decide) rfl rfl (rlt hR (m := 160) (by decide) rfl (by omega)) dX8_cell_83 (fun sw9 Rw9 => ?_)
            refine x_iconst (v := nI 1) dX8_cell_84 (by decide) ?_
            exact x_iret ⟨Nat.le_refl _, Nat.le_refl _⟩ rfl dX8_cell_85 ⟨rfl, _, Rw9, Fb.ups, hS.row hG hi4 rfl rfl rfl (fun p hp => by rw [up_eq, gset (rlt hR (m := 160) (by decide) rfl (by omega)), if_neg (by omega)]) (fun _ q hq => by
  rw [up_eq, gset (rlt hR (m := 160) (by decide) rfl (by omega)), gset (by rw [(hG i hi4).2.2]; omega)]
  by_cases e : q = j
  · rw [if_pos (by omega), if_pos e]; rw [putV, if_neg (by omega), if_pos (by omega)]
  · rw [if_neg (by omega), if_neg e]; exact ((hS i hi4).2 hne).2.2 q hq)⟩
        · refine x_iload_n dX8_cell_62 rfl ?_
          refine x_i2b dX8_cell_63 ?_
          refine x_goto (tgt := 83) dX8_cell_64 (by decide) ?_
          refine x_rast (j := 16) (n := (i * 40) + j) hR rfl (by decide) rfl rfl (rlt hR (m := 160) (by decide) rfl (by omega)) dX8_cell_83 (fun sw10 Rw10 => ?_)
          refine x_iconst (v := nI 1) dX8_cell_84 (by decide) ?_
          exact x_iret ⟨Nat.le_refl _, Nat.le_refl _⟩ rfl dX8_cell_85 ⟨rfl, _, Rw10, Fb.ups, hS.row hG hi4 rfl rfl rfl (fun p hp => by rw [up_eq, gset (rlt hR (m := 160) (by decide) rfl (by omega)), if_neg (by omega)]) (fun _ q hq => by
  rw [up_eq, gset (rlt hR (m := 160) (by decide) rfl (by omega)), gset (by rw [(hG i hi4).2.2]; omega)]
  by_cases e : q = j
  · rw [if_pos (by omega), if_pos e]; rw [putV, if_pos (by omega)]
  · rw [if_neg (by omega), if_neg e]; exact ((hS i hi4).2 hne).2.2 q hq)⟩
      · exact absurd (by omega) hv5
    · exact absurd hne hv3
  · exact absurd (by omega) hv2
set_option maxHeartbeats 4000000 in
theorem r_cell_b0 {σ0 σ : ZS} {a : Nat → Int32} {tw : Int64} {b : Nat → List Int32} (hR : RM σ0 σ a tw b) {x j v : Int32} (hx : ¬ (0 ≤ x.toInt ∧ x.toInt ≤ 3)) : Cn 3 M_X8_cell 0 0 [.ref 1000, .int x, .int j, .int v] σ (fun r9 σ' => r9 = some (.int (-2)) ∧ σ' = σ) := by
  refine Cn.intro (lv0 := [some (.ref 1000), some (.int x), some (.int j), some (.int v)]) rfl (Nat.le_of_ble_eq_true rfl) rfl (fun d hd => ?_)
  refine x_iload_n dX8_cell_0 rfl ?_
  refine x_callS m_X8_isSheet l_X8_299 (r_isSheet rfl) (by omega) rfl rfl (Nat.le_of_ble_eq_true rfl) ⟨Nat.le_refl _, Nat.le_refl _⟩ dX8_cell_1 (fun r1 s1 q1 => ?_)
  obtain ⟨rfl, eq1⟩ := q1
  obtain rfl := eq1.symm
  refine x_stk (st' := [.int (bI (decide (0 ≤ (x).toInt ∧ (x).toInt ≤ 3)))]) rfl ?_
  refine x_ifP_ne (P := 0 ≤ (x).toInt ∧ (x).toInt ≤ 3) inferInstance (tgt := 10) dX8_cell_4 (by decide) (fun hv2 => ?_) (fun hv2 => ?_)
  · exact absurd hv2 hx
  · refine x_bipush (v := (-2)) dX8_cell_7 (by decide) ?_
    exact x_iret ⟨Nat.le_refl _, Nat.le_refl _⟩ rfl dX8_cell_9 ⟨rfl, rfl⟩
set_option maxHeartbeats 4000000 in
theorem r_cell_b1 {σ0 σ : ZS} {a : Nat → Int32} {tw : Int64} {b : Nat → List Int32} (hR : RM σ0 σ a tw b) {sh : Nat → SH} (hS : RSH b sh) (hG : SHG sh) {i : Nat} (hi4 : i < 4) (hb : (sh i).1 = -1) {j v : Int32} : Cn 3 M_X8_cell 0 0 [.ref 1000, .int (nI i), .int j, .int v] σ (fun r9 σ' => r9 = some (.int (-11)) ∧ σ' = σ) := by
  refine Cn.intro (lv0 := [some (.ref 1000), some (.int (nI i)), some (.int j), some (.int v)]) rfl (Nat.le_of_ble_eq_true rfl) rfl (fun d hd => ?_)
  refine x_iload_n dX8_cell_0 rfl ?_
  refine x_callS m_X8_isSheet l_X8_299 (r_isSheet (nI_toInt (by omega))) (by omega) rfl rfl (Nat.le_of_ble_eq_true rfl) ⟨Nat.le_refl _, Nat.le_refl _⟩ dX8_cell_1 (fun r1 s1 q1 => ?_)
  obtain ⟨rfl, eq1⟩ := q1
  obtain rfl := eq1.symm
  refine x_stk (st' := [.int (bI (decide (0 ≤ ((i : Nat) : Int) ∧ ((i : Nat) : Int) ≤ 3)))]) rfl ?_
  refine x_ifP_ne (P := 0 ≤ ((i : Nat) : Int) ∧ ((i : Nat) : Int) ≤ 3) inferInstance (tgt := 10) dX8_cell_4 (by decide) (fun hv2 => ?_) (fun hv2 => ?_)
  · refine x_aload_n dX8_cell_10 rfl ?_
    refine x_rget f_X8_62 hR rfl dX8_cell_11 ?_
    refine x_iload_n dX8_cell_14 rfl ?_
    refine x_rzld (j := 13) (n := i) hR rfl (by decide) rfl rfl (rlt hR (m := 4) (by decide) rfl (by omega)) dX8_cell_15 ?_
    refine x_topi (y := bI (decide (¬ (sh i).1 = -1))) (hS i hi4).1 ?_
    refine x_ifP_ne (P := ¬ (sh i).1 = -1) inferInstance (tgt := 22) dX8_cell_16 (by decide) (fun hv3 => ?_) (fun hv3 => ?_)
    · exact absurd hb hv3
    · refine x_bipush (v := (-11)) dX8_cell_19 (by decide) ?_
      exact x_iret ⟨Nat.le_refl _, Nat.le_refl _⟩ rfl dX8_cell_21 ⟨rfl, rfl⟩
  · exact absurd (by omega) hv2
set_option maxHeartbeats 4000000 in
theorem r_cell_b2 {σ0 σ : ZS} {a : Nat → Int32} {tw : Int64} {b : Nat → List Int32} (hR : RM σ0 σ a tw b) {sh : Nat → SH} (hS : RSH b sh) (hG : SHG sh) {i : Nat} (hi4 : i < 4) (hne : ¬ (sh i).1 = -1) {j : Int32} (hj : ¬ (0 ≤ j.toInt ∧ j.toInt < (((sh i).2.1 : Nat) : Int))) {v : Int32} : Cn 3 M_X8_cell 0 0 [.ref 1000, .int (nI i), .int j, .int v] σ (fun r9 σ' => r9 = some (.int (-12)) ∧ σ' = σ) := by
  have hz40 := (hG i hi4).2.1
  refine Cn.intro (lv0 := [some (.ref 1000), some (.int (nI i)), some (.int j), some (.int v)]) rfl (Nat.le_of_ble_eq_true rfl) rfl (fun d hd => ?_)
  refine x_iload_n dX8_cell_0 rfl ?_
  refine x_callS m_X8_isSheet l_X8_299 (r_isSheet (nI_toInt (by omega))) (by omega) rfl rfl (Nat.le_of_ble_eq_true rfl) ⟨Nat.le_refl _, Nat.le_refl _⟩ dX8_cell_1 (fun r1 s1 q1 => ?_)
  obtain ⟨rfl, eq1⟩ := q1
  obtain rfl := eq1.symm
  refine x_stk (st' := [.int (bI (decide (0 ≤ ((i : Nat) : Int) ∧ ((i : Nat) : Int) ≤ 3)))]) rfl ?_
  refine x_ifP_ne (P := 0 ≤ ((i : Nat) : Int) ∧ ((i : Nat) : Int) ≤ 3) inferInstance (tgt := 10) dX8_cell_4 (by decide) (fun hv2 => ?_) (fun hv2 => ?_)
  · refine x_aload_n dX8_cell_10 rfl ?_
    refine x_rget f_X8_62 hR rfl dX8_cell_11 ?_
    refine x_iload_n dX8_cell_14 rfl ?_
    refine x_rzld (j := 13) (n := i) hR rfl (by decide) rfl rfl (rlt hR (m := 4) (by decide) rfl (by omega)) dX8_cell_15 ?_
    refine x_topi (y := bI (decide (¬ (sh i).1 = -1))) (hS i hi4).1 ?_
    refine x_ifP_ne (P := ¬ (sh i).1 = -1) inferInstance (tgt := 22) dX8_cell_16 (by decide) (fun hv3 => ?_) (fun hv3 => ?_)
    · refine x_iload_n dX8_cell_22 rfl ?_
      refine x_i2l dX8_cell_23 ?_
      refine x_lconst (v := 0) dX8_cell_24 (by decide) ?_
      refine x_aload_n dX8_cell_25 rfl ?_
      refine x_rget f_X8_69 hR rfl dX8_cell_26 ?_
      refine x_iload_n dX8_cell_29 rfl ?_
      refine x_rald (j := 15) (n := i) hR rfl (by decide) rfl rfl (rlt hR (m := 4) (by decide) rfl (by omega)) dX8_cell_30 ?_
      refine x_topi (y := nI ((sh i).2.1)) ((hS i hi4).2 hne).2.1 ?_
      refine x_iconst (v := nI 1) dX8_cell_31 (by decide) ?_
      refine x_isub dX8_cell_32 ?_
      refine x_i2l dX8_cell_33 ?_
      refine x_callS m_X8_in l_X8_85 (r_in (p := (j).toInt) (q := 0) (r := (((sh i).2.1 : Nat) : Int) - 1) (tL rfl) (by decide) (tL (nI_m1 (by omega)))) (by omega) rfl rfl (Nat.le_of_ble_eq_true rfl) ⟨Nat.le_refl _, Nat.le_refl _⟩ dX8_cell_34 (fun r4 s4 q4 => ?_)
      obtain ⟨rfl, eq4⟩ := q4
      obtain rfl := eq4.symm
      refine x_stk (st' := [.int (bI (decide (0 ≤ (j).toInt ∧ (j).toInt ≤ (((sh i).2.1 : Nat) : Int) - 1)))]) rfl ?_
      refine x_ifP_ne (P := 0 ≤ (j).toInt ∧ (j).toInt ≤ (((sh i).2.1 : Nat) : Int) - 1) inferInstance (tgt := 43) dX8_cell_37 (by decide) (fun hv5 => ?_) (fun hv5 => ?_)
      · exact absurd hv5 (by omega)
      · refine x_bipush (v := (-12)) dX8_cell_40 (by decide) ?_
        exact x_iret ⟨Nat.le_refl _, Nat.le_refl _⟩ rfl dX8_cell_42 ⟨rfl, rfl⟩
    · exact absurd hne hv3
  · exact absurd (by omega) hv2
