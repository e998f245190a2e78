theorem z0i {a : Int32} : a = 0 ↔ a.toInt = 0 := by rw [← Int32.toInt_inj, z_toInt0]
theorem jn9_1 {a b : Int32} (h : ¬ a.toInt = 0) (h2 : ¬ b.toInt = 0) : joinE 9 a b = nI 1 := if_pos (show ¬ a = 0 ∧ ¬ b = 0 from ⟨mt z0i.mp h, mt z0i.mp h2⟩)
theorem jn9_0 {a b : Int32} (h : a.toInt = 0 ∨ b.toInt = 0) : joinE 9 a b = nI 0 := if_neg (show ¬ (¬ a = 0 ∧ ¬ b = 0) from fun q => h.elim (fun e => q.1 (z0i.mpr e)) (fun e => q.2 (z0i.mpr e)))
theorem jn8_1 {a b : Int32} (h : ¬ a.toInt = 0 ∨ ¬ b.toInt = 0) : joinE 8 a b = nI 1 := if_pos (show ¬ a = 0 ∨ ¬ b = 0 from h.elim (fun e => Or.inl (mt z0i.mp e)) (fun e => Or.inr (mt z0i.mp e)))
theorem jn8_0 {a b : Int32} (h : a.toInt = 0) (h2 : b.toInt = 0) : joinE 8 a b = nI 0 := if_neg (show ¬ (¬ a = 0 ∨ ¬ b = 0) from fun q => q.elim (fun e => e (z0i.mpr h)) (fun e => e (z0i.mpr h2)))
theorem jn60_1 {a b : Int32} (h : a.toInt < b.toInt) : joinE 60 a b = nI 1 := if_pos (Int32.lt_iff_toInt_lt.mpr h)
theorem jn60_0 {a b : Int32} (h : b.toInt ≤ a.toInt) : joinE 60 a b = nI 0 := if_neg (show ¬ a < b from fun q => by have := Int32.lt_iff_toInt_lt.mp q; omega)
theorem jn61_1 {a b : Int32} (h : a.toInt = b.toInt) : joinE 61 a b = nI 1 := if_pos (Int32.toInt_inj.mp h)
theorem jn61_0 {a b : Int32} (h : ¬ a.toInt = b.toInt) : joinE 61 a b = nI 0 := if_neg (show ¬ a = b from fun q => h (by rw [q]))
theorem tn10_1 {v : Int32} (h : v.toInt = 0) : turnE 10 v = nI 1 := if_pos (z0i.mpr h)
theorem tn10_0 {v : Int32} (h : ¬ v.toInt = 0) : turnE 10 v = nI 0 := if_neg (mt z0i.mp h)
set_option maxHeartbeats 4000000 in
theorem r_opens_no {σ0 σ : ZS} {a : Nat → Int32} {tw : Int64} {b : Nat → List Int32} {L : List Nat} {p op : Nat} (hR : RM σ0 σ a tw b) (hO : RPok a tw b L p op) (hp : p ≤ L.length) (ho : op = 5) : Cn 1 M_X8_opens 0 0 [.ref 1000] σ (fun r9 σ' => r9 = some (.int (nI 0)) ∧ ∃ a', RM σ0 σ' a' tw b ∧ FrA a a' ∧ RPft a' (lexP L p)) := by
  obtain ⟨hy, ⟨t25, t24, t23, t2, t3⟩, t27, t28⟩ := id hO
  obtain ⟨f0, hx1, hx2, hx3, hx4, hx5, hx6⟩ := id hy
  have hk9 := tkK_lt (L := L) (p := p)
  have hlp := lexP_b hp
  have hnp := tkN_b hp
  refine Cn.intro (lv0 := [some (.ref 1000)]) rfl (Nat.le_of_ble_eq_true rfl) rfl (fun d hd => ?_)
  refine x_aload_n dX8_opens_0 rfl ?_
  refine x_rget (v := .int (nI op)) f_X8_181 hR (rg t27) dX8_opens_1 ?_
  refine x_iconst (v := nI 5) dX8_opens_4 (by decide) ?_
  refine x_icmpN_ne (tgt := 14) dX8_opens_5 (by decide) (by omega) (by omega) (fun hv1 => ?_) (fun hv1 => ?_)
  · exact absurd hv1 (by omega)
  · refine x_aload_n dX8_opens_8 rfl ?_
    refine x_callV m_X8_fail l_X8_184 (r_fail hR hO (by omega)) rfl hR.2.1 (by omega) rfl rfl (Nat.le_of_ble_eq_true rfl) ⟨Nat.le_refl _, Nat.le_refl _⟩ dX8_opens_9 (fun r2 s2 q2 => ?_)
    obtain ⟨rfl, a2, R2, A2, hO2⟩ := q2
    obtain ⟨t282, t292⟩ := id hO2
    refine x_stk (st' := []) rfl ?_
    refine x_iconst (v := nI 0) dX8_opens_12 (by decide) ?_
    exact x_zret ⟨Nat.le_refl _, Nat.le_refl _⟩ rfl (by decide) dX8_opens_13 ⟨rfl, _, R2, (FrA.rf.tr A2), hO2⟩
set_option maxHeartbeats 4000000 in
theorem r_opens_yes {σ0 σ : ZS} {a : Nat → Int32} {tw : Int64} {b : Nat → List Int32} {L : List Nat} {p op : Nat} (hR : RM σ0 σ a tw b) (hO : RPok a tw b L p op) (hp : p ≤ L.length) (ho : op < 5) (hne : tkK L p ≠ 1) : Cn 2 M_X8_opens 0 0 [.ref 1000] σ (fun r9 σ' => r9 = some (.int (nI 1)) ∧ ∃ a' tw', RM σ0 σ' a' tw' b ∧ FrA a a' ∧ RPok a' tw' b L (tkN L p) (op + 1)) := by
  obtain ⟨hy, ⟨t25, t24, t23, t2, t3⟩, t27, t28⟩ := id hO
  obtain ⟨f0, hx1, hx2, hx3, hx4, hx5, hx6⟩ := id hy
  have hk9 := tkK_lt (L := L) (p := p)
  have hlp := lexP_b hp
  have hnp := tkN_b hp
  refine Cn.intro (lv0 := [some (.ref 1000)]) rfl (Nat.le_of_ble_eq_true rfl) rfl (fun d hd => ?_)
  refine x_aload_n dX8_opens_0 rfl ?_
  refine x_rget (v := .int (nI op)) f_X8_181 hR (rg t27) dX8_opens_1 ?_
  refine x_iconst (v := nI 5) dX8_opens_4 (by decide) ?_
  refine x_icmpN_ne (tgt := 14) dX8_opens_5 (by decide) (by omega) (by omega) (fun hv1 => ?_) (fun hv1 => ?_)
  · refine x_aload_n dX8_opens_14 rfl ?_
    refine x_dup dX8_opens_15 rfl ?_
    refine x_rget (v := .int (nI op)) f_X8_181 hR (rg t27) dX8_opens_16 ?_
    refine x_iconst (v := nI 1) dX8_opens_19 (by decide) ?_
    refine x_iaddN dX8_opens_20 ?_
    refine x_rput (up a 27 (nI (op + 1))) tw f_X8_181 hR (by decide) rfl (fun c => ⟨rfl, rfl⟩) dX8_opens_21 (fun sw2 Rw2 => ?_)
    refine x_aload_n dX8_opens_24 rfl ?_
    refine x_callV m_X8_next l_X8_187 (r_next Rw2 (hy.fr (FrA.rf.up (by omega))) (t23 (show rK L p ≠ 4 from fun q9 => hne (rK4 q9))) (tkN_b hp).2.1) rfl Rw2.2.1 (by omega) rfl rfl (Nat.le_of_ble_eq_true rfl) ⟨Nat.le_refl _, Nat.le_refl _⟩ dX8_opens_25 (fun r3 s3 q3 => ?_)
    obtain ⟨rfl, a3, tw3, R3, N3, K3⟩ := q3
    have A3 := N3.A
    have hO3 : RPok a3 tw3 b L (tkN L p) (op + 1) := ⟨(hy.fr (FrA.rf.up (show 23 ≤ 27 ∧ 27 ≤ 29 by decide))).fr A3, K3, (N3 27 (by omega)).trans rfl, (N3 28 (by omega)).trans t28⟩
    obtain ⟨hy3, ⟨t253, t243, t233, t23, t33⟩, t273, t283⟩ := id hO3
    obtain ⟨f03, hx31, hx32, hx33, hx34, hx35, hx36⟩ := id hy3
    refine x_stk (st' := []) rfl ?_
    refine x_iconst (v := nI 1) dX8_opens_28 (by decide) ?_
    exact x_zret ⟨Nat.le_refl _, Nat.le_refl _⟩ rfl (by decide) dX8_opens_29 ⟨rfl, _, _, R3, ((FrA.rf.up (show 23 ≤ 27 ∧ 27 ≤ 29 by decide)).tr A3), hO3⟩
  · exact absurd hv1 (by omega)
set_option maxHeartbeats 4000000 in
theorem r_name {σ0 σ : ZS} {a : Nat → Int32} {tw : Int64} {b : Nat → List Int32} {L : List Nat} {p op : Nat} {F : List Int32} (hR : RM σ0 σ a tw b) (hO : RPok a tw b L p op) (hp : p ≤ L.length) (hF : FF a F) : Cn 3 M_X8_name 0 0 [.ref 1000] σ (fun r9 σ' => ∃ (v : Int32) (a' : Nat → Int32) (tw' : Int64), r9 = some (.int v) ∧ RM σ0 σ' a' tw' b ∧ FrA a a' ∧ (if tkK L p = 3 then a' = a ∧ tw' = tw ∧ v = F.getD (tkV L p) 0 else RPft a' (lexP L p))) := by
  obtain ⟨hy, ⟨t25, t24, t23, t2, t3⟩, t27, t28⟩ := id hO
  obtain ⟨f0, hx1, hx2, hx3, hx4, hx5, hx6⟩ := id hy
  have hk9 := tkK_lt (L := L) (p := p)
  have hlp := lexP_b hp
  have hnp := tkN_b hp
  refine Cn.intro (lv0 := [some (.ref 1000)]) rfl (Nat.le_of_ble_eq_true rfl) rfl (fun d hd => ?_)
  refine x_aload_n dX8_name_0 rfl ?_
  refine x_bipush (v := nI 100) dX8_name_1 (by decide) ?_
  refine x_bipush (v := nI 101) dX8_name_3 (by decide) ?_
  refine x_bipush (v := nI 98) dX8_name_5 (by decide) ?_
  refine x_bipush (v := nI 116) dX8_name_7 (by decide) ?_
  refine x_iconst (v := nI 0) dX8_name_9 (by decide) ?_
  refine x_iconst (v := nI 0) dX8_name_10 (by decide) ?_
  refine x_iconst (v := nI 0) dX8_name_11 (by decide) ?_
  refine x_iconst (v := nI 0) dX8_name_12 (by decide) ?_
  refine x_callV m_X8_isWord l_X8_190 (r_isName hR hO (by omega) (k := 0) (by omega)) rfl hR.2.1 (by omega) rfl rfl (Nat.le_of_ble_eq_true rfl) ⟨Nat.le_refl _, Nat.le_refl _⟩ dX8_name_13 (fun r1 s1 q1 => ?_)
  obtain ⟨rfl, eq1⟩ := q1
  obtain rfl := eq1.symm
  refine x_stk (st' := [.int (bI (decide (tkK L p = 3 ∧ tkV L p = 0)))]) rfl ?_
  refine x_ifP_eq (P := tkK L p = 3 ∧ tkV L p = 0) inferInstance (tgt := 24) dX8_name_16 (by decide) (fun hv2 => ?_) (fun hv2 => ?_)
  · refine x_aload_n dX8_name_24 rfl ?_
    refine x_bipush (v := nI 98) dX8_name_25 (by decide) ?_
    refine x_bipush (v := nI 97) dX8_name_27 (by decide) ?_
    refine x_bipush (v := nI 99) dX8_name_29 (by decide) ?_
    refine x_bipush (v := nI 107) dX8_name_31 (by decide) ?_
    refine x_iconst (v := nI 0) dX8_name_33 (by decide) ?_
    refine x_iconst (v := nI 0) dX8_name_34 (by decide) ?_
    refine x_iconst (v := nI 0) dX8_name_35 (by decide) ?_
    refine x_iconst (v := nI 0) dX8_name_36 (by decide) ?_
    refine x_callV m_X8_isWord l_X8_190 (r_isName hR hO (by omega) (k := 1) (by omega)) rfl hR.2.1 (by omega) rfl rfl (Nat.le_of_ble_eq_true rfl) ⟨Nat.le_refl _, Nat.le_refl _⟩ dX8_name_37 (fun r3 s3 q3 => ?_)
    obtain ⟨rfl, eq3⟩ := q3
    obtain rfl := eq3.symm
    refine x_stk (st' := [.int (bI (decide (tkK L p = 3 ∧ tkV L p = 1)))]) rfl ?_
    refine x_ifP_eq (P := tkK L p = 3 ∧ tkV L p = 1) inferInstance (tgt := 48) dX8_name_40 (by decide) (fun hv4 => ?_) (fun hv4 => ?_)
    · refine x_aload_n dX8_name_48 rfl ?_
      refine x_bipush (v := nI 110) dX8_name_49 (by decide) ?_
      refine x_bipush (v := nI 117) dX8_name_51 (by decide) ?_
      refine x_bipush (v := nI 109) dX8_name_53 (by decide) ?_
      refine x_bipush (v := nI 98) dX8_name_55 (by decide) ?_
      refine x_bipush (v := nI 101) dX8_name_57 (by decide) ?_
      refine x_bipush (v := nI 114) dX8_name_59 (by decide) ?_
      refine x_iconst (v := nI 0) dX8_name_61 (by decide) ?_
      refine x_iconst (v := nI 0) dX8_name_62 (by decide) ?_
      refine x_callV m_X8_isWord l_X8_190 (r_isName hR hO (by omega) (k := 2) (by omega)) rfl hR.2.1 (by omega) rfl rfl (Nat.le_of_ble_eq_true rfl) ⟨Nat.le_refl _, Nat.le_refl _⟩ dX8_name_63 (fun r5 s5 q5 => ?_)
      obtain ⟨rfl, eq5⟩ := q5
      obtain rfl := eq5.symm
      refine x_stk (st' := [.int (bI (decide (tkK L p = 3 ∧ tkV L p = 2)))]) rfl ?_
      refine x_ifP_eq (P := tkK L p = 3 ∧ tkV L p = 2) inferInstance (tgt := 74) dX8_name_66 (by decide) (fun hv6 => ?_) (fun hv6 => ?_)
      · refine x_aload_n dX8_name_74 rfl ?_
        refine x_bipush (v := nI 115) dX8_name_75 (by decide) ?_
        refine x_bipush (v := nI 101) dX8_name_77 (by decide) ?_
        refine x_bipush (v := nI 97) dX8_name_79 (by decide) ?_
        refine x_bipush (v := nI 116) dX8_name_81 (by decide) ?_
        refine x_bipush (v := nI 115) dX8_name_83 (by decide) ?_
        refine x_iconst (v := nI 0) dX8_name_85 (by decide) ?_
        refine x_iconst (v := nI 0) dX8_name_86 (by decide) ?_
        refine x_iconst (v := nI 0) dX8_name_87 (by decide) ?_
        refine x_callV m_X8_isWord l_X8_190 (r_isName hR hO (by omega) (k := 3) (by omega)) rfl hR.2.1 (by omega) rfl rfl (Nat.le_of_ble_eq_true rfl) ⟨Nat.le_refl _, Nat.le_refl _⟩ dX8_name_88 (fun r7 s7 q7 => ?_)
        obtain ⟨rfl, eq7⟩ := q7
        obtain rfl := eq7.symm
        refine x_stk (st' := [.int (bI (decide (tkK L p = 3 ∧ tkV L p = 3)))]) rfl ?_
        refine x_ifP_eq (P := tkK L p = 3 ∧ tkV L p = 3) inferInstance (tgt := 99) dX8_name_91 (by decide) (fun hv8 => ?_) (fun hv8 => ?_)
        · refine x_aload_n dX8_name_99 rfl ?_
          refine x_bipush (v := nI 115) dX8_name_100 (by decide) ?_
          refine x_bipush (v := nI 101) dX8_name_102 (by decide) ?_
          refine x_bipush (v := nI 97) dX8_name_104 (by decide) ?_
          refine x_bipush (v := nI 116) dX8_name_106 (by decide) ?_
          refine x_iconst (v := nI 0) dX8_name_108 (by decide) ?_
          refine x_iconst (v := nI 0) dX8_name_109 (by decide) ?_
          refine x_iconst (v := nI 0) dX8_name_110 (by decide) ?_
          refine x_iconst (v := nI 0) dX8_name_111 (by decide) ?_
          refine x_callV m_X8_isWord l_X8_190 (r_isName hR hO (by omega) (k := 4) (by omega)) rfl hR.2.1 (by omega) rfl rfl (Nat.le_of_ble_eq_true rfl) ⟨Nat.le_refl _, Nat.le_refl _⟩ dX8_name_112 (fun r9 s9 q9 => ?_)
          obtain ⟨rfl, eq9⟩ := q9
          obtain rfl := eq9.symm
          refine x_stk (st' := [.int (bI (decide (tkK L p = 3 ∧ tkV L p = 4)))]) rfl ?_
          refine x_ifP_eq (P := tkK L p = 3 ∧ tkV L p = 4) inferInstance (tgt := 123) dX8_name_115 (by decide) (fun hv10 => ?_) (fun hv10 => ?_)
          · refine x_aload_n dX8_name_123 rfl ?_
            refine x_bipush (v := nI 119) dX8_name_124 (by decide) ?_
            refine x_bipush (v := nI 97) dX8_name_126 (by decide) ?_
            refine x_bipush (v := nI 110) dX8_name_128 (by decide) ?_
            refine x_bipush (v := nI 116) dX8_name_130 (by decide) ?_
            refine x_bipush (v := nI 101) dX8_name_132 (by decide) ?_
            refine x_bipush (v := nI 100) dX8_name_134 (by decide) ?_
            refine x_iconst (v := nI 0) dX8_name_136 (by decide) ?_
            refine x_iconst (v := nI 0) dX8_name_137 (by decide) ?_
            refine x_callV m_X8_isWord l_X8_190 (r_isName hR hO (by omega) (k := 5) (by omega)) rfl hR.2.1 (by omega) rfl rfl (Nat.le_of_ble_eq_true rfl) ⟨Nat.le_refl _, Nat.le_refl _⟩ dX8_name_138 (fun r11 s11 q11 => ?_)
            obtain ⟨rfl, eq11⟩ := q11
            obtain rfl := eq11.symm
            refine x_stk (st' := [.int (bI (decide (tkK L p = 3 ∧ tkV L p = 5)))]) rfl ?_
            refine x_ifP_eq (P := tkK L p = 3 ∧ tkV L p = 5) inferInstance (tgt := 149) dX8_name_141 (by decide) (fun hv12 => ?_) (fun hv12 => ?_)
            · refine x_aload_n dX8_name_149 rfl ?_
              refine x_callV m_X8_fail l_X8_184 (r_fail hR hO (by omega)) rfl hR.2.1 (by omega) rfl rfl (Nat.le_of_ble_eq_true rfl) ⟨Nat.le_refl _, Nat.le_refl _⟩ dX8_name_150 (fun r13 s13 q13 => ?_)
              obtain ⟨rfl, a13, R13, A13, hO13⟩ := q13
              obtain ⟨t2813, t2913⟩ := id hO13
              refine x_stk (st' := []) rfl ?_
              refine x_iconst (v := nI 0) dX8_name_153 (by decide) ?_
              exact x_iret ⟨Nat.le_refl _, Nat.le_refl _⟩ rfl dX8_name_154 ⟨_, _, _, rfl, R13, (FrA.rf.tr A13), by rw [if_neg (fun q => by have := tkV_name q; omega)]; exact hO13⟩
            · refine x_aload_n dX8_name_144 rfl ?_
              refine x_rget f_X8_209 hR rfl dX8_name_145 ?_
              exact x_iret ⟨Nat.le_refl _, Nat.le_refl _⟩ rfl dX8_name_148 ⟨_, a, tw, rfl, hR, FrA.rf, by rw [if_pos hv12.1]; exact ⟨rfl, rfl, by rw [hv12.2]; exact hF 5 (by omega)⟩⟩
          · refine x_aload_n dX8_name_118 rfl ?_
            refine x_rget f_X8_206 hR rfl dX8_name_119 ?_
            exact x_iret ⟨Nat.le_refl _, Nat.le_refl _⟩ rfl dX8_name_122 ⟨_, a, tw, rfl, hR, FrA.rf, by rw [if_pos hv10.1]; exact ⟨rfl, rfl, by rw [hv10.2]; exact hF 4 (by omega)⟩⟩
        · refine x_aload_n dX8_name_94 rfl ?_
          refine x_rget f_X8_203 hR rfl dX8_name_95 ?_
          exact x_iret ⟨Nat.le_refl _, Nat.le_refl _⟩ rfl dX8_name_98 ⟨_, a, tw, rfl, hR, FrA.rf, by rw [if_pos hv8.1]; exact ⟨rfl, rfl, by rw [hv8.2]; exact hF 3 (by omega)⟩⟩
      · refine x_aload_n dX8_name_69 rfl ?_
        refine x_rget f_X8_200 hR rfl dX8_name_70 ?_
        exact x_iret ⟨Nat.le_refl _, Nat.le_refl _⟩ rfl dX8_name_73 ⟨_, a, tw, rfl, hR, FrA.rf, by rw [if_pos hv6.1]; exact ⟨rfl, rfl, by rw [hv6.2]; exact hF 2 (by omega)⟩⟩
    · refine x_aload_n dX8_name_43 rfl ?_
      refine x_rget f_X8_197 hR rfl dX8_name_44 ?_
      exact x_iret ⟨Nat.le_refl _, Nat.le_refl _⟩ rfl dX8_name_47 ⟨_, a, tw, rfl, hR, FrA.rf, by rw [if_pos hv4.1]; exact ⟨rfl, rfl, by rw [hv4.2]; exact hF 1 (by omega)⟩⟩
  · refine x_aload_n dX8_name_19 rfl ?_
    refine x_rget f_X8_194 hR rfl dX8_name_20 ?_
    exact x_iret ⟨Nat.le_refl _, Nat.le_refl _⟩ rfl dX8_name_23 ⟨_, a, tw, rfl, hR, FrA.rf, by rw [if_pos hv2.1]; exact ⟨rfl, rfl, by rw [hv2.2]; exact hF 0 (by omega)⟩⟩
set_option maxHeartbeats 4000000 in
theorem le_term {σ0 : ZS} {a0 : Nat → Int32} {b : Nat → List Int32} {F : List Int32} {L : List Nat} {sb : Nat → PR} {op kd : Nat} (hC : CE kd M_X8_atom op L sb) (hG : ∀ p, p ≤ L.length → Good L p (sb p)) {d : Nat} (hd : kd + 3 ≤ d) : ∀ (f p : Nat) (s : List Nat) (v : Int32) (a : Nat → Int32) (tw : Int64) (σ : ZS) (hR : RM σ0 σ a tw b) (hO : RPok a tw b L p op) (hF : FF a F) (hA : FrA a0 a) (hgs : gd s) (hve : v = vE F s), L.length ≤ p + f → p ≤ L.length → X M_X8_term d 0 0 (fun r9 σ' => ∃ (v' : Int32) (a' : Nat → Int32) (tw' : Int64), r9 = some (.int v') ∧ RM σ0 σ' a' tw' b ∧ FrA a0 a' ∧ RPr a' tw' b L op F v' (pLp op42 L sb f s p)) 0 0 5 [some (.ref 1000), some (.int v)] [] σ := by
  intro f
  induction f with
  | zero =>
    intro p s v a tw σ hR hO hF hA hgs hve hfu hk
    obtain ⟨hy, ⟨t25, t24, t23, t2, t3⟩, t27, t28⟩ := id hO
    obtain ⟨f0, hx1, hx2, hx3, hx4, hx5, hx6⟩ := id hy
    have hk9 := tkK_lt (L := L) (p := p)
    have hlp := lexP_b hk
    have hnp := tkN_b hk
    have hpe := pend (L := L) (p := p) (by omega)
    refine x_aload_n dX8_term_5 rfl ?_
    refine x_bipush (v := nI 42) dX8_term_6 (by decide) ?_
    refine x_callV m_X8_isSign l_X8_212 (r_isSign hR hO (by omega) (by omega)) rfl hR.2.1 (by omega) rfl rfl (Nat.le_of_ble_eq_true rfl) ⟨Nat.le_refl _, Nat.le_refl _⟩ dX8_term_8 (fun r1 s1 q1 => ?_)
    obtain ⟨rfl, eq1⟩ := q1
    obtain rfl := eq1.symm
    refine x_stk (st' := [.int (bI (decide (tkK L p = 42)))]) rfl ?_
    refine x_ifP_eq (P := tkK L p = 42) inferInstance (tgt := 28) dX8_term_11 (by decide) (fun hv2 => ?_) (fun hv2 => ?_)
    · refine x_iload_n dX8_term_28 rfl ?_
      exact x_iret ⟨Nat.le_refl _, Nat.le_refl _⟩ rfl dX8_term_29 ⟨v, _, _, rfl, hR, hA, hO, hve⟩
    · exact absurd hv2 (by omega)
  | succ f ih =>
    intro p s v a tw σ hR hO hF hA hgs hve hfu hk
    obtain ⟨hy, ⟨t25, t24, t23, t2, t3⟩, t27, t28⟩ := id hO
    obtain ⟨f0, hx1, hx2, hx3, hx4, hx5, hx6⟩ := id hy
    have hk9 := tkK_lt (L := L) (p := p)
    have hlp := lexP_b hk
    have hnp := tkN_b hk
    refine x_aload_n dX8_term_5 rfl ?_
    refine x_bipush (v := nI 42) dX8_term_6 (by decide) ?_
    refine x_callV m_X8_isSign l_X8_212 (r_isSign hR hO (by omega) (by omega)) rfl hR.2.1 (by omega) rfl rfl (Nat.le_of_ble_eq_true rfl) ⟨Nat.le_refl _, Nat.le_refl _⟩ dX8_term_8 (fun r1 s1 q1 => ?_)
    obtain ⟨rfl, eq1⟩ := q1
    obtain rfl := eq1.symm
    refine x_stk (st' := [.int (bI (decide (tkK L p = 42)))]) rfl ?_
    refine x_ifP_eq (P := tkK L p = 42) inferInstance (tgt := 28) dX8_term_11 (by decide) (fun hv2 => ?_) (fun hv2 => ?_)
    · refine x_iload_n dX8_term_28 rfl ?_
      exact x_iret ⟨Nat.le_refl _, Nat.le_refl _⟩ rfl dX8_term_29 ⟨v, _, _, rfl, hR, hA, by rw [pLp, if_neg (show ¬ op42 (tkK L p) = true from fun e => by have := eq_of_beq e; omega)]; exact ⟨hO, hve⟩⟩
    · refine x_aload_n dX8_term_14 rfl ?_
      refine x_callV m_X8_next l_X8_187 (r_next hR hy (t23 (show rK L p ≠ 4 from fun q9 => by have := rK4 q9; omega)) (tkN_b (show p ≤ L.length by omega)).2.1) rfl hR.2.1 (by omega) rfl rfl (Nat.le_of_ble_eq_true rfl) ⟨Nat.le_refl _, Nat.le_refl _⟩ dX8_term_15 (fun r3 s3 q3 => ?_)
      obtain ⟨rfl, a3, tw3, R3, N3, K3⟩ := q3
      have A3 := N3.A
      have hO3 : RPok a3 tw3 b L (tkN L p) op := ⟨hy.fr A3, K3, (N3 27 (by omega)).trans t27, (N3 28 (by omega)).trans t28⟩
      have hF3 := hF.fr A3
      have hn3 := tkN_b (show p ≤ L.length by omega)
      have hl3 := lexP_b (show p ≤ L.length by omega)
      obtain ⟨hy3, ⟨t253, t243, t233, t23, t33⟩, t273, t283⟩ := id hO3
      obtain ⟨f03, hx31, hx32, hx33, hx34, hx35, hx36⟩ := id hy3
      refine x_stk (st' := []) rfl ?_
      refine x_iload_n dX8_term_18 rfl ?_
      refine x_aload_n dX8_term_19 rfl ?_
      refine x_callV m_X8_atom l_X8_219 (hC _ _ _ _ _ F (tkN L p) R3 hO3 (by omega) hF3) rfl R3.2.1 (by omega) rfl rfl (Nat.le_of_ble_eq_true rfl) ⟨Nat.le_refl _, Nat.le_refl _⟩ dX8_term_20 (fun r4 s4 q4 => ?_)
      obtain ⟨v4, a4, tw4, rfl, R4, A4, hq4⟩ := q4
      refine x_stk (st' := [.int v4, .int v]) rfl ?_
      rcases hs4 : sb (tkN L p) with e4 | ⟨c4, b4⟩
      · have hO4 : RPft a4 e4 := by rw [hs4] at hq4; exact hq4
        obtain ⟨t284, t294⟩ := id hO4
        refine x_imul dX8_term_23 ?_
        refine x_istore_n dX8_term_24 (by decide) rfl ?_
        refine x_lv (lv' := [some (.ref 1000), some (.int ((v * v4)))]) rfl ?_
        refine x_goto (tgt := 5) dX8_term_25 (by decide) ?_
        refine x_aload_n dX8_term_5 rfl ?_
        refine x_bipush (v := nI 42) dX8_term_6 (by decide) ?_
        refine x_callV m_X8_isSign l_X8_212 (r_isSign_ft R4 hO4) rfl R4.2.1 (by omega) rfl rfl (Nat.le_of_ble_eq_true rfl) ⟨Nat.le_refl _, Nat.le_refl _⟩ dX8_term_8 (fun r305 s305 q305 => ?_)
        obtain ⟨rfl, eq305⟩ := q305
        obtain rfl := eq305.symm
        refine x_stk (st' := [.int (nI 0)]) rfl ?_
        refine x_ifN_eq (tgt := 28) dX8_term_11 (by decide) (by omega) (fun hv306 => ?_) (fun hv306 => ?_)
        · refine x_iload_n dX8_term_28 rfl ?_
          exact x_iret ⟨Nat.le_refl _, Nat.le_refl _⟩ rfl dX8_term_29 ⟨_, _, _, rfl, R4, ((hA.tr A3).tr A4), by rw [pLp, if_pos (show op42 (tkK L p) = true from beq_iff_eq.mpr (by omega)), hs4]; exact hO4⟩
        · exact absurd hv306 (by decide)
      · have hp4 : RPok a4 tw4 b L b4 op ∧ v4 = vE F c4 := by rw [hs4] at hq4; exact hq4
        obtain ⟨hO4, hv4e⟩ := hp4
        have hF4 := hF3.fr A4
        have hg4 := hG (tkN L p) (by omega) _ _ hs4
        obtain ⟨hy4, ⟨t254, t244, t234, t24, t34⟩, t274, t284⟩ := id hO4
        obtain ⟨f04, hx41, hx42, hx43, hx44, hx45, hx46⟩ := id hy4
        have hk94 := tkK_lt (L := L) (p := b4)
        refine x_imul dX8_term_23 ?_
        refine x_istore_n dX8_term_24 (by decide) rfl ?_
        refine x_lv (lv' := [some (.ref 1000), some (.int ((v * v4)))]) rfl ?_
        refine x_goto (tgt := 5) dX8_term_25 (by decide) ?_
        rw [pLp, if_pos (show op42 (tkK L p) = true from beq_iff_eq.mpr (by omega)), hs4]
        exact ih b4 (s ++ c4 ++ [20000 + tkK L p]) ((v * v4)) a4 tw4 s4 R4 hO4 hF4 ((hA.tr A3).tr A4) (gd_jn hgs hg4.2.2 (by omega)) (by rw [vE_jn hgs.2 hg4.2.2.2 (by omega) (by omega), Nat.add_sub_cancel_left, (show tkK L p = 42 by omega), ← hve, ← hv4e]; exact rfl) (by omega) (by omega)
set_option maxHeartbeats 4000000 in
theorem e_term0 {σ0 σ : ZS} {a : Nat → Int32} {tw : Int64} {b : Nat → List Int32} {L : List Nat} {sb : Nat → PR} {op kd p : Nat} {F : List Int32} (hC : CE kd M_X8_atom op L sb) (hG : ∀ p, p ≤ L.length → Good L p (sb p)) (hR : RM σ0 σ a tw b) (hO : RPok a tw b L p op) (hp : p ≤ L.length) (hF : FF a F) : Cn (kd + 3) M_X8_term 0 0 [.ref 1000] σ (fun r9 σ' => ∃ (v : Int32) (a' : Nat → Int32) (tw' : Int64), r9 = some (.int v) ∧ RM σ0 σ' a' tw' b ∧ FrA a a' ∧ RPr a' tw' b L op F v (pBin op42 L sb p)) := by
  obtain ⟨hy, ⟨t25, t24, t23, t2, t3⟩, t27, t28⟩ := id hO
  obtain ⟨f0, hx1, hx2, hx3, hx4, hx5, hx6⟩ := id hy
  have hk9 := tkK_lt (L := L) (p := p)
  have hlp := lexP_b hp
  have hnp := tkN_b hp
  refine Cn.intro (lv0 := [some (.ref 1000), none]) rfl (Nat.le_of_ble_eq_true rfl) rfl (fun d hd => ?_)
  refine x_aload_n dX8_term_0 rfl ?_
  refine x_callV m_X8_atom l_X8_219 (hC _ _ _ _ _ F p hR hO (by omega) hF) rfl hR.2.1 (by omega) rfl rfl (Nat.le_of_ble_eq_true rfl) ⟨Nat.le_refl _, Nat.le_refl _⟩ dX8_term_1 (fun r1 s1 q1 => ?_)
  obtain ⟨v1, a1, tw1, rfl, R1, A1, hq1⟩ := q1
  refine x_stk (st' := [.int v1]) rfl ?_
  rcases hs1 : sb p with e1 | ⟨c1, b1⟩
  · have hO1 : RPft a1 e1 := by rw [hs1] at hq1; exact hq1
    obtain ⟨t281, t291⟩ := id hO1
    refine x_istore_n dX8_term_4 (by decide) rfl ?_
    refine x_lv (lv' := [some (.ref 1000), some (.int v1)]) rfl ?_
    refine x_aload_n dX8_term_5 rfl ?_
    refine x_bipush (v := nI 42) dX8_term_6 (by decide) ?_
    refine x_callV m_X8_isSign l_X8_212 (r_isSign_ft R1 hO1) rfl R1.2.1 (by omega) rfl rfl (Nat.le_of_ble_eq_true rfl) ⟨Nat.le_refl _, Nat.le_refl _⟩ dX8_term_8 (fun r2 s2 q2 => ?_)
    obtain ⟨rfl, eq2⟩ := q2
    obtain rfl := eq2.symm
    refine x_stk (st' := [.int (nI 0)]) rfl ?_
    refine x_ifN_eq (tgt := 28) dX8_term_11 (by decide) (by omega) (fun hv3 => ?_) (fun hv3 => ?_)
    · refine x_iload_n dX8_term_28 rfl ?_
      exact x_iret ⟨Nat.le_refl _, Nat.le_refl _⟩ rfl dX8_term_29 ⟨_, _, _, rfl, R1, (FrA.rf.tr A1), by rw [pBin, hs1]; exact hO1⟩
    · exact absurd hv3 (by decide)
  · have hp1 : RPok a1 tw1 b L b1 op ∧ v1 = vE F c1 := by rw [hs1] at hq1; exact hq1
    obtain ⟨hO1, hv1e⟩ := hp1
    have hF1 := hF.fr A1
    have hg1 := hG p (by omega) _ _ hs1
    obtain ⟨hy1, ⟨t251, t241, t231, t21, t31⟩, t271, t281⟩ := id hO1
    obtain ⟨f01, hx11, hx12, hx13, hx14, hx15, hx16⟩ := id hy1
    have hk91 := tkK_lt (L := L) (p := b1)
    refine x_istore_n dX8_term_4 (by decide) rfl ?_
    refine x_lv (lv' := [some (.ref 1000), some (.int v1)]) rfl ?_
    have hL := hx3
    rw [pBin, hs1]
    exact le_term hC hG hd 160 b1 c1 v1 a1 tw1 s1 R1 hO1 hF1 (FrA.rf.tr A1) hg1.2.2 hv1e (by omega) (by omega)
theorem e_term {L : List Nat} {sb : Nat → PR} {op kd : Nat} (hC : CE kd M_X8_atom op L sb) (hG : ∀ p, p ≤ L.length → Good L p (sb p)) : CE (kd + 3) M_X8_term op L (pBin op42 L sb) := fun σ0 σ a tw b F p a1 a2 a3 a4 => e_term0 hC hG a1 a2 a3 a4
set_option maxHeartbeats 4000000 in
theorem le_added {σ0 : ZS} {a0 : Nat → Int32} {b : Nat → List Int32} {F : List Int32} {L : List Nat} {sb : Nat → PR} {op kd : Nat} (hC : CE kd M_X8_term op L sb) (hG : ∀ p, p ≤ L.length → Good L p (sb p)) {d : Nat} (hd : kd + 3 ≤ d) : ∀ (f p : Nat) (s : List Nat) (v : Int32) (a : Nat → Int32) (tw : Int64) (σ : ZS) (hR : RM σ0 σ a tw b) (hO : RPok a tw b L p op) (hF : FF a F) (hA : FrA a0 a) (hgs : gd s) (hve : v = vE F s), L.length ≤ p + f → p ≤ L.length → X M_X8_added d 0 0 (fun r9 σ' => ∃ (v' : Int32) (a' : Nat → Int32) (tw' : Int64), r9 = some (.int v') ∧ RM σ0 σ' a' tw' b ∧ FrA a0 a' ∧ RPr a' tw' b L op F v' (pLp opPM L sb f s p)) 0 0 5 [some (.ref 1000), some (.int v), none, none] [] σ := by
  intro f
  induction f with
  | zero =>
    intro p s v a tw σ hR hO hF hA hgs hve hfu hk
    obtain ⟨hy, ⟨t25, t24, t23, t2, t3⟩, t27, t28⟩ := id hO
    obtain ⟨f0, hx1, hx2, hx3, hx4, hx5, hx6⟩ := id hy
    have hk9 := tkK_lt (L := L) (p := p)
    have hlp := lexP_b hk
    have hnp := tkN_b hk
    have hpe := pend (L := L) (p := p) (by omega)
    refine x_aload_n dX8_added_5 rfl ?_
    refine x_bipush (v := nI 43) dX8_added_6 (by decide) ?_
    refine x_callV m_X8_isSign l_X8_212 (r_isSign hR hO (by omega) (by omega)) rfl hR.2.1 (by omega) rfl rfl (Nat.le_of_ble_eq_true rfl) ⟨Nat.le_refl _, Nat.le_refl _⟩ dX8_added_8 (fun r1 s1 q1 => ?_)
    obtain ⟨rfl, eq1⟩ := q1
    obtain rfl := eq1.symm
    refine x_stk (st' := [.int (bI (decide (tkK L p = 43)))]) rfl ?_
    refine x_ifP_ne (P := tkK L p = 43) inferInstance (tgt := 23) dX8_added_11 (by decide) (fun hv2 => ?_) (fun hv2 => ?_)
    · exact absurd hv2 (by omega)
    · refine x_aload_n dX8_added_14 rfl ?_
      refine x_bipush (v := nI 45) dX8_added_15 (by decide) ?_
      refine x_callV m_X8_isSign l_X8_212 (r_isSign hR hO (by omega) (by omega)) rfl hR.2.1 (by omega) rfl rfl (Nat.le_of_ble_eq_true rfl) ⟨Nat.le_refl _, Nat.le_refl _⟩ dX8_added_17 (fun r3 s3 q3 => ?_)
      obtain ⟨rfl, eq3⟩ := q3
      obtain rfl := eq3.symm
      refine x_stk (st' := [.int (bI (decide (tkK L p = 45)))]) rfl ?_
      refine x_ifP_eq (P := tkK L p = 45) inferInstance (tgt := 66) dX8_added_20 (by decide) (fun hv4 => ?_) (fun hv4 => ?_)
      · refine x_iload_n dX8_added_66 rfl ?_
        exact x_iret ⟨Nat.le_refl _, Nat.le_refl _⟩ rfl dX8_added_67 ⟨v, _, _, rfl, hR, hA, hO, hve⟩
      · exact absurd hv4 (by omega)
  | succ f ih =>
    intro p s v a tw σ hR hO hF hA hgs hve hfu hk
    obtain ⟨hy, ⟨t25, t24, t23, t2, t3⟩, t27, t28⟩ := id hO
    obtain ⟨f0, hx1, hx2, hx3, hx4, hx5, hx6⟩ := id hy
    have hk9 := tkK_lt (L := L) (p := p)
    have hlp := lexP_b hk
    have hnp := tkN_b hk
    refine x_aload_n dX8_added_5 rfl ?_
    refine x_bipush (v := nI 43) dX8_added_6 (by decide) ?_
    refine x_callV m_X8_isSign l_X8_212 (r_isSign hR hO (by omega) (by omega)) rfl hR.2.1 (by omega) rfl rfl (Nat.le_of_ble_eq_true rfl) ⟨Nat.le_refl _, Nat.le_refl _⟩ dX8_added_8 (fun r1 s1 q1 => ?_)
    obtain ⟨rfl, eq1⟩ := q1
    obtain rfl := eq1.symm
    refine x_stk (st' := [.int (bI (decide (tkK L p = 43)))]) rfl ?_
    refine x_ifP_ne (P := tkK L p = 43) inferInstance (tgt := 23) dX8_added_11 (by decide) (fun hv2 => ?_) (fun hv2 => ?_)
    · refine x_aload_n dX8_added_23 rfl ?_
      refine x_rget f_X8_167 hR rfl dX8_added_24 ?_
      refine x_ldc2 (v := (43)) cl_X8_232 dX8_added_27 ?_
      refine x_lcmp dX8_added_30 ?_
      have hts := t3 ((tk_sign (s := tkK L p) (by omega)).mp rfl).1
      have hts2 := ((tk_sign (L := L) (p := p) (s := tkK L p) (by omega)).mp rfl).2
      have h43 : (43 : Int64).toInt = 43 := by decide
      rcases (show (tw).toInt < (43 : Int64).toInt ∨ (tw).toInt = (43 : Int64).toInt ∨ (43 : Int64).toInt < (tw).toInt by omega) with hc | hc | hc
      · refine x_topi (y := (-1)) (lcmp_lt (by omega)) ?_
        refine x_ifT_ne (p := (-1)) (tgt := 38) (by decide) dX8_added_31 (by decide) (fun hv3 => ?_) (fun hv3 => ?_)
        · refine x_iconst (v := nI 0) dX8_added_38 (by decide) ?_
          refine x_istore_n dX8_added_39 (by decide) rfl ?_
          refine x_lv (lv' := [some (.ref 1000), some (.int v), some (.int (nI 0)), none]) rfl ?_
          refine x_aload_n dX8_added_40 rfl ?_
          refine x_callV m_X8_next l_X8_187 (r_next hR hy (t23 (show rK L p ≠ 4 from fun q9 => by have := rK4 q9; omega)) (tkN_b (show p ≤ L.length by omega)).2.1) rfl hR.2.1 (by omega) rfl rfl (Nat.le_of_ble_eq_true rfl) ⟨Nat.le_refl _, Nat.le_refl _⟩ dX8_added_41 (fun r4 s4 q4 => ?_)
          obtain ⟨rfl, a4, tw4, R4, N4, K4⟩ := q4
          have A4 := N4.A
          have hO4 : RPok a4 tw4 b L (tkN L p) op := ⟨hy.fr A4, K4, (N4 27 (by omega)).trans t27, (N4 28 (by omega)).trans t28⟩
          have hF4 := hF.fr A4
          have hn4 := tkN_b (show p ≤ L.length by omega)
          have hl4 := lexP_b (show p ≤ L.length by omega)
          obtain ⟨hy4, ⟨t254, t244, t234, t24, t34⟩, t274, t284⟩ := id hO4
          obtain ⟨f04, hx41, hx42, hx43, hx44, hx45, hx46⟩ := id hy4
          refine x_stk (st' := []) rfl ?_
          refine x_aload_n dX8_added_44 rfl ?_
          refine x_callV m_X8_term l_X8_229 (hC _ _ _ _ _ F (tkN L p) R4 hO4 (by omega) hF4) rfl R4.2.1 (by omega) rfl rfl (Nat.le_of_ble_eq_true rfl) ⟨Nat.le_refl _, Nat.le_refl _⟩ dX8_added_45 (fun r5 s5 q5 => ?_)
          obtain ⟨v5, a5, tw5, rfl, R5, A5, hq5⟩ := q5
          refine x_stk (st' := [.int v5]) rfl ?_
          rcases hs5 : sb (tkN L p) with e5 | ⟨c5, b5⟩
          · have hO5 : RPft a5 e5 := by rw [hs5] at hq5; exact hq5
            obtain ⟨t285, t295⟩ := id hO5
            refine x_istore_n dX8_added_48 (by decide) rfl ?_
            refine x_lv (lv' := [some (.ref 1000), some (.int v), some (.int (nI 0)), some (.int v5)]) rfl ?_
            refine x_iload_n dX8_added_49 rfl ?_
            refine x_ifN_eq (tgt := 59) dX8_added_50 (by decide) (by omega) (fun hv6 => ?_) (fun hv6 => ?_)
            · refine x_iload_n dX8_added_59 rfl ?_
              refine x_iload_n dX8_added_60 rfl ?_
              refine x_isub dX8_added_61 ?_
              refine x_istore_n dX8_added_62 (by decide) rfl ?_
              refine x_lv (lv' := [some (.ref 1000), some (.int ((v - v5))), some (.int (nI 0)), some (.int v5)]) rfl ?_
              refine x_goto (tgt := 5) dX8_added_63 (by decide) ?_
              refine x_aload_n dX8_added_5 rfl ?_
              refine x_bipush (v := nI 43) dX8_added_6 (by decide) ?_
              refine x_callV m_X8_isSign l_X8_212 (r_isSign_ft R5 hO5) rfl R5.2.1 (by omega) rfl rfl (Nat.le_of_ble_eq_true rfl) ⟨Nat.le_refl _, Nat.le_refl _⟩ dX8_added_8 (fun r307 s307 q307 => ?_)
              obtain ⟨rfl, eq307⟩ := q307
              obtain rfl := eq307.symm
              refine x_stk (st' := [.int (nI 0)]) rfl ?_
              refine x_ifN_ne (tgt := 23) dX8_added_11 (by decide) (by omega) (fun hv308 => ?_) (fun hv308 => ?_)
              · exact absurd hv308 (by decide)
              · refine x_aload_n dX8_added_14 rfl ?_
                refine x_bipush (v := nI 45) dX8_added_15 (by decide) ?_
                refine x_callV m_X8_isSign l_X8_212 (r_isSign_ft R5 hO5) rfl R5.2.1 (by omega) rfl rfl (Nat.le_of_ble_eq_true rfl) ⟨Nat.le_refl _, Nat.le_refl _⟩ dX8_added_17 (fun r309 s309 q309 => ?_)
                obtain ⟨rfl, eq309⟩ := q309
                obtain rfl := eq309.symm
                refine x_stk (st' := [.int (nI 0)]) rfl ?_
                refine x_ifN_eq (tgt := 66) dX8_added_20 (by decide) (by omega) (fun hv310 => ?_) (fun hv310 => ?_)
                · refine x_iload_n dX8_added_66 rfl ?_
                  exact x_iret ⟨Nat.le_refl _, Nat.le_refl _⟩ rfl dX8_added_67 ⟨_, _, _, rfl, R5, ((hA.tr A4).tr A5), by rw [pLp, if_pos (show opPM (tkK L p) = true from opPM_iff.mpr (by omega)), hs5]; exact hO5⟩
                · exact absurd hv310 (by decide)
            · exact absurd hv6 (by decide)
          · have hp5 : RPok a5 tw5 b L b5 op ∧ v5 = vE F c5 := by rw [hs5] at hq5; exact hq5
            obtain ⟨hO5, hv5e⟩ := hp5
            have hF5 := hF4.fr A5
            have hg5 := hG (tkN L p) (by omega) _ _ hs5
            obtain ⟨hy5, ⟨t255, t245, t235, t25, t35⟩, t275, t285⟩ := id hO5
            obtain ⟨f05, hx51, hx52, hx53, hx54, hx55, hx56⟩ := id hy5
            have hk95 := tkK_lt (L := L) (p := b5)
            refine x_istore_n dX8_added_48 (by decide) rfl ?_
            refine x_lv (lv' := [some (.ref 1000), some (.int v), some (.int (nI 0)), some (.int v5)]) rfl ?_
            refine x_iload_n dX8_added_49 rfl ?_
            refine x_ifN_eq (tgt := 59) dX8_added_50 (by decide) (by omega) (fun hv7 => ?_) (fun hv7 => ?_)
            · refine x_iload_n dX8_added_59 rfl ?_
              refine x_iload_n dX8_added_60 rfl ?_
              refine x_isub dX8_added_61 ?_
              refine x_istore_n dX8_added_62 (by decide) rfl ?_
              refine x_lv (lv' := [some (.ref 1000), some (.int ((v - v5))), some (.int (nI 0)), some (.int v5)]) rfl ?_
              refine x_goto (tgt := 5) dX8_added_63 (by decide) ?_
              refine x_drop 2 (x_drop 3 ?_)
              rw [pLp, if_pos (show opPM (tkK L p) = true from opPM_iff.mpr (by omega)), hs5]
              exact ih b5 (s ++ c5 ++ [20000 + tkK L p]) ((v - v5)) a5 tw5 s5 R5 hO5 hF5 ((hA.tr A4).tr A5) (gd_jn hgs hg5.2.2 (by omega)) (by rw [vE_jn hgs.2 hg5.2.2.2 (by omega) (by omega), Nat.add_sub_cancel_left, (show tkK L p = 45 by omega), ← hve, ← hv5e]; exact rfl) (by omega) (by omega)
            · exact absurd hv7 (by decide)
        · refine x_iconst (v := nI 1) dX8_added_34 (by decide) ?_
          refine x_goto (tgt := 39) dX8_added_35 (by decide) ?_
          refine x_istore_n dX8_added_39 (by decide) rfl ?_
          refine x_lv (lv' := [some (.ref 1000), some (.int v), some (.int (nI 1)), none]) rfl ?_
          refine x_aload_n dX8_added_40 rfl ?_
          refine x_callV m_X8_next l_X8_187 (r_next hR hy (t23 (show rK L p ≠ 4 from fun q9 => by have := rK4 q9; omega)) (tkN_b (show p ≤ L.length by omega)).2.1) rfl hR.2.1 (by omega) rfl rfl (Nat.le_of_ble_eq_true rfl) ⟨Nat.le_refl _, Nat.le_refl _⟩ dX8_added_41 (fun r8 s8 q8 => ?_)
          obtain ⟨rfl, a8, tw8, R8, N8, K8⟩ := q8
          have A8 := N8.A
          have hO8 : RPok a8 tw8 b L (tkN L p) op := ⟨hy.fr A8, K8, (N8 27 (by omega)).trans t27, (N8 28 (by omega)).trans t28⟩
          have hF8 := hF.fr A8
          have hn8 := tkN_b (show p ≤ L.length by omega)
          have hl8 := lexP_b (show p ≤ L.length by omega)
          obtain ⟨hy8, ⟨t258, t248, t238, t28, t38⟩, t278, t288⟩ := id hO8
          obtain ⟨f08, hx81, hx82, hx83, hx84, hx85, hx86⟩ := id hy8
          refine x_stk (st' := []) rfl ?_
          refine x_aload_n dX8_added_44 rfl ?_
          refine x_callV m_X8_term l_X8_229 (hC _ _ _ _ _ F (tkN L p) R8 hO8 (by omega) hF8) rfl R8.2.1 (by omega) rfl rfl (Nat.le_of_ble_eq_true rfl) ⟨Nat.le_refl _, Nat.le_refl _⟩ dX8_added_45 (fun r9 s9 q9 => ?_)
          obtain ⟨v9, a9, tw9, rfl, R9, A9, hq9⟩ := q9
          refine x_stk (st' := [.int v9]) rfl ?_
          rcases hs9 : sb (tkN L p) with e9 | ⟨c9, b9⟩
          · have hO9 : RPft a9 e9 := by rw [hs9] at hq9; exact hq9
            obtain ⟨t289, t299⟩ := id hO9
            refine x_istore_n dX8_added_48 (by decide) rfl ?_
            refine x_lv (lv' := [some (.ref 1000), some (.int v), some (.int (nI 1)), some (.int v9)]) rfl ?_
            refine x_iload_n dX8_added_49 rfl ?_
            refine x_ifN_eq (tgt := 59) dX8_added_50 (by decide) (by omega) (fun hv10 => ?_) (fun hv10 => ?_)
            · exact absurd hv10 (by decide)
            · refine x_iload_n dX8_added_53 rfl ?_
              refine x_iload_n dX8_added_54 rfl ?_
              refine x_iadd dX8_added_55 ?_
              refine x_goto (tgt := 62) dX8_added_56 (by decide) ?_
              refine x_istore_n dX8_added_62 (by decide) rfl ?_
              refine x_lv (lv' := [some (.ref 1000), some (.int ((v + v9))), some (.int (nI 1)), some (.int v9)]) rfl ?_
              refine x_goto (tgt := 5) dX8_added_63 (by decide) ?_
              refine x_aload_n dX8_added_5 rfl ?_
              refine x_bipush (v := nI 43) dX8_added_6 (by decide) ?_
              refine x_callV m_X8_isSign l_X8_212 (r_isSign_ft R9 hO9) rfl R9.2.1 (by omega) rfl rfl (Nat.le_of_ble_eq_true rfl) ⟨Nat.le_refl _, Nat.le_refl _⟩ dX8_added_8 (fun r311 s311 q311 => ?_)
              obtain ⟨rfl, eq311⟩ := q311
              obtain rfl := eq311.symm
              refine x_stk (st' := [.int (nI 0)]) rfl ?_
              refine x_ifN_ne (tgt := 23) dX8_added_11 (by decide) (by omega) (fun hv312 => ?_) (fun hv312 => ?_)
              · exact absurd hv312 (by decide)
              · refine x_aload_n dX8_added_14 rfl ?_
                refine x_bipush (v := nI 45) dX8_added_15 (by decide) ?_
                refine x_callV m_X8_isSign l_X8_212 (r_isSign_ft R9 hO9) rfl R9.2.1 (by omega) rfl rfl (Nat.le_of_ble_eq_true rfl) ⟨Nat.le_refl _, Nat.le_refl _⟩ dX8_added_17 (fun r313 s313 q313 => ?_)
                obtain ⟨rfl, eq313⟩ := q313
                obtain rfl := eq313.symm
                refine x_stk (st' := [.int (nI 0)]) rfl ?_
                refine x_ifN_eq (tgt := 66) dX8_added_20 (by decide) (by omega) (fun hv314 => ?_) (fun hv314 => ?_)
                · refine x_iload_n dX8_added_66 rfl ?_
                  exact x_iret ⟨Nat.le_refl _, Nat.le_refl _⟩ rfl dX8_added_67 ⟨_, _, _, rfl, R9, ((hA.tr A8).tr A9), by rw [pLp, if_pos (show opPM (tkK L p) = true from opPM_iff.mpr (by omega)), hs9]; exact hO9⟩
                · exact absurd hv314 (by decide)
          · have hp9 : RPok a9 tw9 b L b9 op ∧ v9 = vE F c9 := by rw [hs9] at hq9; exact hq9
            obtain ⟨hO9, hv9e⟩ := hp9
            have hF9 := hF8.fr A9
            have hg9 := hG (tkN L p) (by omega) _ _ hs9
            obtain ⟨hy9, ⟨t259, t249, t239, t29, t39⟩, t279, t289⟩ := id hO9
            obtain ⟨f09, hx91, hx92, hx93, hx94, hx95, hx96⟩ := id hy9
            have hk99 := tkK_lt (L := L) (p := b9)
            refine x_istore_n dX8_added_48 (by decide) rfl ?_
            refine x_lv (lv' := [some (.ref 1000), some (.int v), some (.int (nI 1)), some (.int v9)]) rfl ?_
            refine x_iload_n dX8_added_49 rfl ?_
            refine x_ifN_eq (tgt := 59) dX8_added_50 (by decide) (by omega) (fun hv11 => ?_) (fun hv11 => ?_)
            · exact absurd hv11 (by decide)
            · refine x_iload_n dX8_added_53 rfl ?_
              refine x_iload_n dX8_added_54 rfl ?_
              refine x_iadd dX8_added_55 ?_
              refine x_goto (tgt := 62) dX8_added_56 (by decide) ?_
              refine x_istore_n dX8_added_62 (by decide) rfl ?_
              refine x_lv (lv' := [some (.ref 1000), some (.int ((v + v9))), some (.int (nI 1)), some (.int v9)]) rfl ?_
              refine x_goto (tgt := 5) dX8_added_63 (by decide) ?_
              refine x_drop 2 (x_drop 3 ?_)
              rw [pLp, if_pos (show opPM (tkK L p) = true from opPM_iff.mpr (by omega)), hs9]
              exact ih b9 (s ++ c9 ++ [20000 + tkK L p]) ((v + v9)) a9 tw9 s9 R9 hO9 hF9 ((hA.tr A8).tr A9) (gd_jn hgs hg9.2.2 (by omega)) (by rw [vE_jn hgs.2 hg9.2.2.2 (by omega) (by omega), Nat.add_sub_cancel_left, (show tkK L p = 43 by omega), ← hve, ← hv9e]; exact rfl) (by omega) (by omega)
      · refine x_topi (y := nI 0) (lcmp_eq (by omega)) ?_
        refine x_ifN_ne (tgt := 38) dX8_added_31 (by decide) (by omega) (fun hv12 => ?_) (fun hv12 => ?_)
        · exact absurd hv12 (by decide)
        · refine x_iconst (v := nI 1) dX8_added_34 (by decide) ?_
          refine x_goto (tgt := 39) dX8_added_35 (by decide) ?_
          refine x_istore_n dX8_added_39 (by decide) rfl ?_
          refine x_lv (lv' := [some (.ref 1000), some (.int v), some (.int (nI 1)), none]) rfl ?_
          refine x_aload_n dX8_added_40 rfl ?_
          refine x_callV m_X8_next l_X8_187 (r_next hR hy (t23 (show rK L p ≠ 4 from fun q9 => by have := rK4 q9; omega)) (tkN_b (show p ≤ L.length by omega)).2.1) rfl hR.2.1 (by omega) rfl rfl (Nat.le_of_ble_eq_true rfl) ⟨Nat.le_refl _, Nat.le_refl _⟩ dX8_added_41 (fun r13 s13 q13 => ?_)
          obtain ⟨rfl, a13, tw13, R13, N13, K13⟩ := q13
          have A13 := N13.A
          have hO13 : RPok a13 tw13 b L (tkN L p) op := ⟨hy.fr A13, K13, (N13 27 (by omega)).trans t27, (N13 28 (by omega)).trans t28⟩
          have hF13 := hF.fr A13
          have hn13 := tkN_b (show p ≤ L.length by omega)
          have hl13 := lexP_b (show p ≤ L.length by omega)
          obtain ⟨hy13, ⟨t2513, t2413, t2313, t213, t313⟩, t2713, t2813⟩ := id hO13
          obtain ⟨f013, hx131, hx132, hx133, hx134, hx135, hx136⟩ := id hy13
          refine x_stk (st' := []) rfl ?_
          refine x_aload_n dX8_added_44 rfl ?_
          refine x_callV m_X8_term l_X8_229 (hC _ _ _ _ _ F (tkN L p) R13 hO13 (by omega) hF13) rfl R13.2.1 (by omega) rfl rfl (Nat.le_of_ble_eq_true rfl) ⟨Nat.le_refl _, Nat.le_refl _⟩ dX8_added_45 (fun r14 s14 q14 => ?_)
          obtain ⟨v14, a14, tw14, rfl, R14, A14, hq14⟩ := q14
          refine x_stk (st' := [.int v14]) rfl ?_
          rcases hs14 : sb (tkN L p) with e14 | ⟨c14, b14⟩
          · have hO14 : RPft a14 e14 := by rw [hs14] at hq14; exact hq14
            obtain ⟨t2814, t2914⟩ := id hO14
            refine x_istore_n dX8_added_48 (by decide) rfl ?_
            refine x_lv (lv' := [some (.ref 1000), some (.int v), some (.int (nI 1)), some (.int v14)]) rfl ?_
            refine x_iload_n dX8_added_49 rfl ?_
            refine x_ifN_eq (tgt := 59) dX8_added_50 (by decide) (by omega) (fun hv15 => ?_) (fun hv15 => ?_)
            · exact absurd hv15 (by decide)
            · refine x_iload_n dX8_added_53 rfl ?_
              refine x_iload_n dX8_added_54 rfl ?_
              refine x_iadd dX8_added_55 ?_
              refine x_goto (tgt := 62) dX8_added_56 (by decide) ?_
              refine x_istore_n dX8_added_62 (by decide) rfl ?_
              refine x_lv (lv' := [some (.ref 1000), some (.int ((v + v14))), some (.int (nI 1)), some (.int v14)]) rfl ?_
              refine x_goto (tgt := 5) dX8_added_63 (by decide) ?_
              refine x_aload_n dX8_added_5 rfl ?_
              refine x_bipush (v := nI 43) dX8_added_6 (by decide) ?_
              refine x_callV m_X8_isSign l_X8_212 (r_isSign_ft R14 hO14) rfl R14.2.1 (by omega) rfl rfl (Nat.le_of_ble_eq_true rfl) ⟨Nat.le_refl _, Nat.le_refl _⟩ dX8_added_8 (fun r316 s316 q316 => ?_)
              obtain ⟨rfl, eq316⟩ := q316
              obtain rfl := eq316.symm
              refine x_stk (st' := [.int (nI 0)]) rfl ?_
              refine x_ifN_ne (tgt := 23) dX8_added_11 (by decide) (by omega) (fun hv317 => ?_) (fun hv317 => ?_)
              · exact absurd hv317 (by decide)
              · refine x_aload_n dX8_added_14 rfl ?_
                refine x_bipush (v := nI 45) dX8_added_15 (by decide) ?_
                refine x_callV m_X8_isSign l_X8_212 (r_isSign_ft R14 hO14) rfl R14.2.1 (by omega) rfl rfl (Nat.le_of_ble_eq_true rfl) ⟨Nat.le_refl _, Nat.le_refl _⟩ dX8_added_17 (fun r318 s318 q318 => ?_)
                obtain ⟨rfl, eq318⟩ := q318
                obtain rfl := eq318.symm
                refine x_stk (st' := [.int (nI 0)]) rfl ?_
                refine x_ifN_eq (tgt := 66) dX8_added_20 (by decide) (by omega) (fun hv319 => ?_) (fun hv319 => ?_)
                · refine x_iload_n dX8_added_66 rfl ?_
                  exact x_iret ⟨Nat.le_refl _, Nat.le_refl _⟩ rfl dX8_added_67 ⟨_, _, _, rfl, R14, ((hA.tr A13).tr A14), by rw [pLp, if_pos (show opPM (tkK L p) = true from opPM_iff.mpr (by omega)), hs14]; exact hO14⟩
                · exact absurd hv319 (by decide)
          · have hp14 : RPok a14 tw14 b L b14 op ∧ v14 = vE F c14 := by rw [hs14] at hq14; exact hq14
            obtain ⟨hO14, hv14e⟩ := hp14
            have hF14 := hF13.fr A14
            have hg14 := hG (tkN L p) (by omega) _ _ hs14
            obtain ⟨hy14, ⟨t2514, t2414, t2314, t214, t314⟩, t2714, t2814⟩ := id hO14
            obtain ⟨f014, hx141, hx142, hx143, hx144, hx145, hx146⟩ := id hy14
            have hk914 := tkK_lt (L := L) (p := b14)
            refine x_istore_n dX8_added_48 (by decide) rfl ?_
            refine x_lv (lv' := [some (.ref 1000), some (.int v), some (.int (nI 1)), some (.int v14)]) rfl ?_
            refine x_iload_n dX8_added_49 rfl ?_
            refine x_ifN_eq (tgt := 59) dX8_added_50 (by decide) (by omega) (fun hv16 => ?_) (fun hv16 => ?_)
            · exact absurd hv16 (by decide)
            · refine x_iload_n dX8_added_53 rfl ?_
              refine x_iload_n dX8_added_54 rfl ?_
              refine x_iadd dX8_added_55 ?_
              refine x_goto (tgt := 62) dX8_added_56 (by decide) ?_
              refine x_istore_n dX8_added_62 (by decide) rfl ?_
              refine x_lv (lv' := [some (.ref 1000), some (.int ((v + v14))), some (.int (nI 1)), some (.int v14)]) rfl ?_
              refine x_goto (tgt := 5) dX8_added_63 (by decide) ?_
              refine x_drop 2 (x_drop 3 ?_)
              rw [pLp, if_pos (show opPM (tkK L p) = true from opPM_iff.mpr (by omega)), hs14]
              exact ih b14 (s ++ c14 ++ [20000 + tkK L p]) ((v + v14)) a14 tw14 s14 R14 hO14 hF14 ((hA.tr A13).tr A14) (gd_jn hgs hg14.2.2 (by omega)) (by rw [vE_jn hgs.2 hg14.2.2.2 (by omega) (by omega), Nat.add_sub_cancel_left, (show tkK L p = 43 by omega), ← hve, ← hv14e]; exact rfl) (by omega) (by omega)
      · refine x_topi (y := nI 1) (lcmp_gt (by omega)) ?_
        refine x_ifN_ne (tgt := 38) dX8_added_31 (by decide) (by omega) (fun hv17 => ?_) (fun hv17 => ?_)
        · refine x_iconst (v := nI 0) dX8_added_38 (by decide) ?_
          refine x_istore_n dX8_added_39 (by decide) rfl ?_
          refine x_lv (lv' := [some (.ref 1000), some (.int v), some (.int (nI 0)), none]) rfl ?_
          refine x_aload_n dX8_added_40 rfl ?_
          refine x_callV m_X8_next l_X8_187 (r_next hR hy (t23 (show rK L p ≠ 4 from fun q9 => by have := rK4 q9; omega)) (tkN_b (show p ≤ L.length by omega)).2.1) rfl hR.2.1 (by omega) rfl rfl (Nat.le_of_ble_eq_true rfl) ⟨Nat.le_refl _, Nat.le_refl _⟩ dX8_added_41 (fun r18 s18 q18 => ?_)
          obtain ⟨rfl, a18, tw18, R18, N18, K18⟩ := q18
          have A18 := N18.A
          have hO18 : RPok a18 tw18 b L (tkN L p) op := ⟨hy.fr A18, K18, (N18 27 (by omega)).trans t27, (N18 28 (by omega)).trans t28⟩
          have hF18 := hF.fr A18
          have hn18 := tkN_b (show p ≤ L.length by omega)
          have hl18 := lexP_b (show p ≤ L.length by omega)
          obtain ⟨hy18, ⟨t2518, t2418, t2318, t218, t318⟩, t2718, t2818⟩ := id hO18
          obtain ⟨f018, hx181, hx182, hx183, hx184, hx185, hx186⟩ := id hy18
          refine x_stk (st' := []) rfl ?_
          refine x_aload_n dX8_added_44 rfl ?_
          refine x_callV m_X8_term l_X8_229 (hC _ _ _ _ _ F (tkN L p) R18 hO18 (by omega) hF18) rfl R18.2.1 (by omega) rfl rfl (Nat.le_of_ble_eq_true rfl) ⟨Nat.le_refl _, Nat.le_refl _⟩ dX8_added_45 (fun r19 s19 q19 => ?_)
          obtain ⟨v19, a19, tw19, rfl, R19, A19, hq19⟩ := q19
          refine x_stk (st' := [.int v19]) rfl ?_
          rcases hs19 : sb (tkN L p) with e19 | ⟨c19, b19⟩
          · have hO19 : RPft a19 e19 := by rw [hs19] at hq19; exact hq19
            obtain ⟨t2819, t2919⟩ := id hO19
            refine x_istore_n dX8_added_48 (by decide) rfl ?_
            refine x_lv (lv' := [some (.ref 1000), some (.int v), some (.int (nI 0)), some (.int v19)]) rfl ?_
            refine x_iload_n dX8_added_49 rfl ?_
            refine x_ifN_eq (tgt := 59) dX8_added_50 (by decide) (by omega) (fun hv20 => ?_) (fun hv20 => ?_)
            · refine x_iload_n dX8_added_59 rfl ?_
              refine x_iload_n dX8_added_60 rfl ?_
              refine x_isub dX8_added_61 ?_
              refine x_istore_n dX8_added_62 (by decide) rfl ?_
              refine x_lv (lv' := [some (.ref 1000), some (.int ((v - v19))), some (.int (nI 0)), some (.int v19)]) rfl ?_
              refine x_goto (tgt := 5) dX8_added_63 (by decide) ?_
              refine x_aload_n dX8_added_5 rfl ?_
              refine x_bipush (v := nI 43) dX8_added_6 (by decide) ?_
              refine x_callV m_X8_isSign l_X8_212 (r_isSign_ft R19 hO19) rfl R19.2.1 (by omega) rfl rfl (Nat.le_of_ble_eq_true rfl) ⟨Nat.le_refl _, Nat.le_refl _⟩ dX8_added_8 (fun r321 s321 q321 => ?_)
              obtain ⟨rfl, eq321⟩ := q321
              obtain rfl := eq321.symm
              refine x_stk (st' := [.int (nI 0)]) rfl ?_
              refine x_ifN_ne (tgt := 23) dX8_added_11 (by decide) (by omega) (fun hv322 => ?_) (fun hv322 => ?_)
              · exact absurd hv322 (by decide)
              · refine x_aload_n dX8_added_14 rfl ?_
                refine x_bipush (v := nI 45) dX8_added_15 (by decide) ?_
                refine x_callV m_X8_isSign l_X8_212 (r_isSign_ft R19 hO19) rfl R19.2.1 (by omega) rfl rfl (Nat.le_of_ble_eq_true rfl) ⟨Nat.le_refl _, Nat.le_refl _⟩ dX8_added_17 (fun r323 s323 q323 => ?_)
                obtain ⟨rfl, eq323⟩ := q323
                obtain rfl := eq323.symm
                refine x_stk (st' := [.int (nI 0)]) rfl ?_
                refine x_ifN_eq (tgt := 66) dX8_added_20 (by decide) (by omega) (fun hv324 => ?_) (fun hv324 => ?_)
                · refine x_iload_n dX8_added_66 rfl ?_
                  exact x_iret ⟨Nat.le_refl _, Nat.le_refl _⟩ rfl dX8_added_67 ⟨_, _, _, rfl, R19, ((hA.tr A18).tr A19), by rw [pLp, if_pos (show opPM (tkK L p) = true from opPM_iff.mpr (by omega)), hs19]; exact hO19⟩
                · exact absurd hv324 (by decide)
            · exact absurd hv20 (by decide)
          · have hp19 : RPok a19 tw19 b L b19 op ∧ v19 = vE F c19 := by rw [hs19] at hq19; exact hq19
            obtain ⟨hO19, hv19e⟩ := hp19
            have hF19 := hF18.fr A19
            have hg19 := hG (tkN L p) (by omega) _ _ hs19
            obtain ⟨hy19, ⟨t2519, t2419, t2319, t219, t319⟩, t2719, t2819⟩ := id hO19
            obtain ⟨f019, hx191, hx192, hx193, hx194, hx195, hx196⟩ := id hy19
            have hk919 := tkK_lt (L := L) (p := b19)
            refine x_istore_n dX8_added_48 (by decide) rfl ?_
            refine x_lv (lv' := [some (.ref 1000), some (.int v), some (.int (nI 0)), some (.int v19)]) rfl ?_
            refine x_iload_n dX8_added_49 rfl ?_
            refine x_ifN_eq (tgt := 59) dX8_added_50 (by decide) (by omega) (fun hv21 => ?_) (fun hv21 => ?_)
            · refine x_iload_n dX8_added_59 rfl ?_
              refine x_iload_n dX8_added_60 rfl ?_
              refine x_isub dX8_added_61 ?_
              refine x_istore_n dX8_added_62 (by decide) rfl ?_
              refine x_lv (lv' := [some (.ref 1000), some (.int ((v - v19))), some (.int (nI 0)), some (.int v19)]) rfl ?_
              refine x_goto (tgt := 5) dX8_added_63 (by decide) ?_
              refine x_drop 2 (x_drop 3 ?_)
              rw [pLp, if_pos (show opPM (tkK L p) = true from opPM_iff.mpr (by omega)), hs19]
              exact ih b19 (s ++ c19 ++ [20000 + tkK L p]) ((v - v19)) a19 tw19 s19 R19 hO19 hF19 ((hA.tr A18).tr A19) (gd_jn hgs hg19.2.2 (by omega)) (by rw [vE_jn hgs.2 hg19.2.2.2 (by omega) (by omega), Nat.add_sub_cancel_left, (show tkK L p = 45 by omega), ← hve, ← hv19e]; exact rfl) (by omega) (by omega)
            · exact absurd hv21 (by decide)
        · exact absurd hv17 (by decide)
    · refine x_aload_n dX8_added_14 rfl ?_
      refine x_bipush (v := nI 45) dX8_added_15 (by decide) ?_
      refine x_callV m_X8_isSign l_X8_212 (r_isSign hR hO (by omega) (by omega)) rfl hR.2.1 (by omega) rfl rfl (Nat.le_of_ble_eq_true rfl) ⟨Nat.le_refl _, Nat.le_refl _⟩ dX8_added_17 (fun r22 s22 q22 => ?_)
      obtain ⟨rfl, eq22⟩ := q22
      obtain rfl := eq22.symm
      refine x_stk (st' := [.int (bI (decide (tkK L p = 45)))]) rfl ?_
      refine x_ifP_eq (P := tkK L p = 45) inferInstance (tgt := 66) dX8_added_20 (by decide) (fun hv23 => ?_) (fun hv23 => ?_)
      · refine x_iload_n dX8_added_66 rfl ?_
        exact x_iret ⟨Nat.le_refl _, Nat.le_refl _⟩ rfl dX8_added_67 ⟨v, _, _, rfl, hR, hA, by rw [pLp, if_neg (show ¬ opPM (tkK L p) = true from fun e => by have := opPM_iff.mp e; omega)]; exact ⟨hO, hve⟩⟩
      · refine x_aload_n dX8_added_23 rfl ?_
        refine x_rget f_X8_167 hR rfl dX8_added_24 ?_
        refine x_ldc2 (v := (43)) cl_X8_232 dX8_added_27 ?_
        refine x_lcmp dX8_added_30 ?_
        have hts := t3 ((tk_sign (s := tkK L p) (by omega)).mp rfl).1
        have hts2 := ((tk_sign (L := L) (p := p) (s := tkK L p) (by omega)).mp rfl).2
        have h43 : (43 : Int64).toInt = 43 := by decide
        rcases (show (tw).toInt < (43 : Int64).toInt ∨ (tw).toInt = (43 : Int64).toInt ∨ (43 : Int64).toInt < (tw).toInt by omega) with hc | hc | hc
        · refine x_topi (y := (-1)) (lcmp_lt (by omega)) ?_
          refine x_ifT_ne (p := (-1)) (tgt := 38) (by decide) dX8_added_31 (by decide) (fun hv24 => ?_) (fun hv24 => ?_)
          · refine x_iconst (v := nI 0) dX8_added_38 (by decide) ?_
            refine x_istore_n dX8_added_39 (by decide) rfl ?_
            refine x_lv (lv' := [some (.ref 1000), some (.int v), some (.int (nI 0)), none]) rfl ?_
            refine x_aload_n dX8_added_40 rfl ?_
            refine x_callV m_X8_next l_X8_187 (r_next hR hy (t23 (show rK L p ≠ 4 from fun q9 => by have := rK4 q9; omega)) (tkN_b (show p ≤ L.length by omega)).2.1) rfl hR.2.1 (by omega) rfl rfl (Nat.le_of_ble_eq_true rfl) ⟨Nat.le_refl _, Nat.le_refl _⟩ dX8_added_41 (fun r25 s25 q25 => ?_)
            obtain ⟨rfl, a25, tw25, R25, N25, K25⟩ := q25
            have A25 := N25.A
            have hO25 : RPok a25 tw25 b L (tkN L p) op := ⟨hy.fr A25, K25, (N25 27 (by omega)).trans t27, (N25 28 (by omega)).trans t28⟩
            have hF25 := hF.fr A25
            have hn25 := tkN_b (show p ≤ L.length by omega)
            have hl25 := lexP_b (show p ≤ L.length by omega)
            obtain ⟨hy25, ⟨t2525, t2425, t2325, t225, t325⟩, t2725, t2825⟩ := id hO25
            obtain ⟨f025, hx251, hx252, hx253, hx254, hx255, hx256⟩ := id hy25
            refine x_stk (st' := []) rfl ?_
            refine x_aload_n dX8_added_44 rfl ?_
            refine x_callV m_X8_term l_X8_229 (hC _ _ _ _ _ F (tkN L p) R25 hO25 (by omega) hF25) rfl R25.2.1 (by omega) rfl rfl (Nat.le_of_ble_eq_true rfl) ⟨Nat.le_refl _, Nat.le_refl _⟩ dX8_added_45 (fun r26 s26 q26 => ?_)
            obtain ⟨v26, a26, tw26, rfl, R26, A26, hq26⟩ := q26
            refine x_stk (st' := [.int v26]) rfl ?_
            rcases hs26 : sb (tkN L p) with e26 | ⟨c26, b26⟩
            · have hO26 : RPft a26 e26 := by rw [hs26] at hq26; exact hq26
              obtain ⟨t2826, t2926⟩ := id hO26
              refine x_istore_n dX8_added_48 (by decide) rfl ?_
              refine x_lv (lv' := [some (.ref 1000), some (.int v), some (.int (nI 0)), some (.int v26)]) rfl ?_
              refine x_iload_n dX8_added_49 rfl ?_
              refine x_ifN_eq (tgt := 59) dX8_added_50 (by decide) (by omega) (fun hv27 => ?_) (fun hv27 => ?_)
              · refine x_iload_n dX8_added_59 rfl ?_
                refine x_iload_n dX8_added_60 rfl ?_
                refine x_isub dX8_added_61 ?_
                refine x_istore_n dX8_added_62 (by decide) rfl ?_
                refine x_lv (lv' := [some (.ref 1000), some (.int ((v - v26))), some (.int (nI 0)), some (.int v26)]) rfl ?_
                refine x_goto (tgt := 5) dX8_added_63 (by decide) ?_
                refine x_aload_n dX8_added_5 rfl ?_
                refine x_bipush (v := nI 43) dX8_added_6 (by decide) ?_
                refine x_callV m_X8_isSign l_X8_212 (r_isSign_ft R26 hO26) rfl R26.2.1 (by omega) rfl rfl (Nat.le_of_ble_eq_true rfl) ⟨Nat.le_refl _, Nat.le_refl _⟩ dX8_added_8 (fun r328 s328 q328 => ?_)
                obtain ⟨rfl, eq328⟩ := q328
                obtain rfl := eq328.symm
                refine x_stk (st' := [.int (nI 0)]) rfl ?_
                refine x_ifN_ne (tgt := 23) dX8_added_11 (by decide) (by omega) (fun hv329 => ?_) (fun hv329 => ?_)
                · exact absurd hv329 (by decide)
                · refine x_aload_n dX8_added_14 rfl ?_
                  refine x_bipush (v := nI 45) dX8_added_15 (by decide) ?_
                  refine x_callV m_X8_isSign l_X8_212 (r_isSign_ft R26 hO26) rfl R26.2.1 (by omega) rfl rfl (Nat.le_of_ble_eq_true rfl) ⟨Nat.le_refl _, Nat.le_refl _⟩ dX8_added_17 (fun r330 s330 q330 => ?_)
                  obtain ⟨rfl, eq330⟩ := q330
                  obtain rfl := eq330.symm
                  refine x_stk (st' := [.int (nI 0)]) rfl ?_
                  refine x_ifN_eq (tgt := 66) dX8_added_20 (by decide) (by omega) (fun hv331 => ?_) (fun hv331 => ?_)
                  · refine x_iload_n dX8_added_66 rfl ?_
                    exact x_iret ⟨Nat.le_refl _, Nat.le_refl _⟩ rfl dX8_added_67 ⟨_, _, _, rfl, R26, ((hA.tr A25).tr A26), by rw [pLp, if_pos (show opPM (tkK L p) = true from opPM_iff.mpr (by omega)), hs26]; exact hO26⟩
                  · exact absurd hv331 (by decide)
              · exact absurd hv27 (by decide)
            · have hp26 : RPok a26 tw26 b L b26 op ∧ v26 = vE F c26 := by rw [hs26] at hq26; exact hq26
              obtain ⟨hO26, hv26e⟩ := hp26
              have hF26 := hF25.fr A26
              have hg26 := hG (tkN L p) (by omega) _ _ hs26
              obtain ⟨hy26, ⟨t2526, t2426, t2326, t226, t326⟩, t2726, t2826⟩ := id hO26
              obtain ⟨f026, hx261, hx262, hx263, hx264, hx265, hx266⟩ := id hy26
              have hk926 := tkK_lt (L := L) (p := b26)
              refine x_istore_n dX8_added_48 (by decide) rfl ?_
              refine x_lv (lv' := [some (.ref 1000), some (.int v), some (.int (nI 0)), some (.int v26)]) rfl ?_
              refine x_iload_n dX8_added_49 rfl ?_
              refine x_ifN_eq (tgt := 59) dX8_added_50 (by decide) (by omega) (fun hv28 => ?_) (fun hv28 => ?_)
              · refine x_iload_n dX8_added_59 rfl ?_
                refine x_iload_n dX8_added_60 rfl ?_
                refine x_isub dX8_added_61 ?_
                refine x_istore_n dX8_added_62 (by decide) rfl ?_
                refine x_lv (lv' := [some (.ref 1000), some (.int ((v - v26))), some (.int (nI 0)), some (.int v26)]) rfl ?_
                refine x_goto (tgt := 5) dX8_added_63 (by decide) ?_
                refine x_drop 2 (x_drop 3 ?_)
                rw [pLp, if_pos (show opPM (tkK L p) = true from opPM_iff.mpr (by omega)), hs26]
                exact ih b26 (s ++ c26 ++ [20000 + tkK L p]) ((v - v26)) a26 tw26 s26 R26 hO26 hF26 ((hA.tr A25).tr A26) (gd_jn hgs hg26.2.2 (by omega)) (by rw [vE_jn hgs.2 hg26.2.2.2 (by omega) (by omega), Nat.add_sub_cancel_left, (show tkK L p = 45 by omega), ← hve, ← hv26e]; exact rfl) (by omega) (by omega)
              · exact absurd hv28 (by decide)
          · refine x_iconst (v := nI 1) dX8_added_34 (by decide) ?_
            refine x_goto (tgt := 39) dX8_added_35 (by decide) ?_
            refine x_istore_n dX8_added_39 (by decide) rfl ?_
            refine x_lv (lv' := [some (.ref 1000), some (.int v), some (.int (nI 1)), none]) rfl ?_
            refine x_aload_n dX8_added_40 rfl ?_
            refine x_callV m_X8_next l_X8_187 (r_next hR hy (t23 (show rK L p ≠ 4 from fun q9 => by have := rK4 q9; omega)) (tkN_b (show p ≤ L.length by omega)).2.1) rfl hR.2.1 (by omega) rfl rfl (Nat.le_of_ble_eq_true rfl) ⟨Nat.le_refl _, Nat.le_refl _⟩ dX8_added_41 (fun r29 s29 q29 => ?_)
            obtain ⟨rfl, a29, tw29, R29, N29, K29⟩ := q29
            have A29 := N29.A
            have hO29 : RPok a29 tw29 b L (tkN L p) op := ⟨hy.fr A29, K29, (N29 27 (by omega)).trans t27, (N29 28 (by omega)).trans t28⟩
            have hF29 := hF.fr A29
            have hn29 := tkN_b (show p ≤ L.length by omega)
            have hl29 := lexP_b (show p ≤ L.length by omega)
            obtain ⟨hy29, ⟨t2529, t2429, t2329, t229, t329⟩, t2729, t2829⟩ := id hO29
            obtain ⟨f029, hx291, hx292, hx293, hx294, hx295, hx296⟩ := id hy29
            refine x_stk (st' := []) rfl ?_
            refine x_aload_n dX8_added_44 rfl ?_
            refine x_callV m_X8_term l_X8_229 (hC _ _ _ _ _ F (tkN L p) R29 hO29 (by omega) hF29) rfl R29.2.1 (by omega) rfl rfl (Nat.le_of_ble_eq_true rfl) ⟨Nat.le_refl _, Nat.le_refl _⟩ dX8_added_45 (fun r30 s30 q30 => ?_)
            obtain ⟨v30, a30, tw30, rfl, R30, A30, hq30⟩ := q30
            refine x_stk (st' := [.int v30]) rfl ?_
            rcases hs30 : sb (tkN L p) with e30 | ⟨c30, b30⟩
            · have hO30 : RPft a30 e30 := by rw [hs30] at hq30; exact hq30
              obtain ⟨t2830, t2930⟩ := id hO30
              refine x_istore_n dX8_added_48 (by decide) rfl ?_
              refine x_lv (lv' := [some (.ref 1000), some (.int v), some (.int (nI 1)), some (.int v30)]) rfl ?_
              refine x_iload_n dX8_added_49 rfl ?_
              refine x_ifN_eq (tgt := 59) dX8_added_50 (by decide) (by omega) (fun hv31 => ?_) (fun hv31 => ?_)
              · exact absurd hv31 (by decide)
              · refine x_iload_n dX8_added_53 rfl ?_
                refine x_iload_n dX8_added_54 rfl ?_
                refine x_iadd dX8_added_55 ?_
                refine x_goto (tgt := 62) dX8_added_56 (by decide) ?_
                refine x_istore_n dX8_added_62 (by decide) rfl ?_
                refine x_lv (lv' := [some (.ref 1000), some (.int ((v + v30))), some (.int (nI 1)), some (.int v30)]) rfl ?_
                refine x_goto (tgt := 5) dX8_added_63 (by decide) ?_
                refine x_aload_n dX8_added_5 rfl ?_
                refine x_bipush (v := nI 43) dX8_added_6 (by decide) ?_
                refine x_callV m_X8_isSign l_X8_212 (r_isSign_ft R30 hO30) rfl R30.2.1 (by omega) rfl rfl (Nat.le_of_ble_eq_true rfl) ⟨Nat.le_refl _, Nat.le_refl _⟩ dX8_added_8 (fun r332 s332 q332 => ?_)
                obtain ⟨rfl, eq332⟩ := q332
                obtain rfl := eq332.symm
                refine x_stk (st' := [.int (nI 0)]) rfl ?_
                refine x_ifN_ne (tgt := 23) dX8_added_11 (by decide) (by omega) (fun hv333 => ?_) (fun hv333 => ?_)
                · exact absurd hv333 (by decide)
                · refine x_aload_n dX8_added_14 rfl ?_
                  refine x_bipush (v := nI 45) dX8_added_15 (by decide) ?_
                  refine x_callV m_X8_isSign l_X8_212 (r_isSign_ft R30 hO30) rfl R30.2.1 (by omega) rfl rfl (Nat.le_of_ble_eq_true rfl) ⟨Nat.le_refl _, Nat.le_refl _⟩ dX8_added_17 (fun r334 s334 q334 => ?_)
                  obtain ⟨rfl, eq334⟩ := q334
                  obtain rfl := eq334.symm
                  refine x_stk (st' := [.int (nI 0)]) rfl ?_
                  refine x_ifN_eq (tgt := 66) dX8_added_20 (by decide) (by omega) (fun hv335 => ?_) (fun hv335 => ?_)
                  · refine x_iload_n dX8_added_66 rfl ?_
                    exact x_iret ⟨Nat.le_refl _, Nat.le_refl _⟩ rfl dX8_added_67 ⟨_, _, _, rfl, R30, ((hA.tr A29).tr A30), by rw [pLp, if_pos (show opPM (tkK L p) = true from opPM_iff.mpr (by omega)), hs30]; exact hO30⟩
                  · exact absurd hv335 (by decide)
            · have hp30 : RPok a30 tw30 b L b30 op ∧ v30 = vE F c30 := by rw [hs30] at hq30; exact hq30
              obtain ⟨hO30, hv30e⟩ := hp30
              have hF30 := hF29.fr A30
              have hg30 := hG (tkN L p) (by omega) _ _ hs30
              obtain ⟨hy30, ⟨t2530, t2430, t2330, t230, t330⟩, t2730, t2830⟩ := id hO30
              obtain ⟨f030, hx301, hx302, hx303, hx304, hx305, hx306⟩ := id hy30
              have hk930 := tkK_lt (L := L) (p := b30)
              refine x_istore_n dX8_added_48 (by decide) rfl ?_
              refine x_lv (lv' := [some (.ref 1000), some (.int v), some (.int (nI 1)), some (.int v30)]) rfl ?_
              refine x_iload_n dX8_added_49 rfl ?_
              refine x_ifN_eq (tgt := 59) dX8_added_50 (by decide) (by omega) (fun hv32 => ?_) (fun hv32 => ?_)
              · exact absurd hv32 (by decide)
              · refine x_iload_n dX8_added_53 rfl ?_
                refine x_iload_n dX8_added_54 rfl ?_
                refine x_iadd dX8_added_55 ?_
                refine x_goto (tgt := 62) dX8_added_56 (by decide) ?_
                refine x_istore_n dX8_added_62 (by decide) rfl ?_
                refine x_lv (lv' := [some (.ref 1000), some (.int ((v + v30))), some (.int (nI 1)), some (.int v30)]) rfl ?_
                refine x_goto (tgt := 5) dX8_added_63 (by decide) ?_
                refine x_drop 2 (x_drop 3 ?_)
                rw [pLp, if_pos (show opPM (tkK L p) = true from opPM_iff.mpr (by omega)), hs30]
                exact ih b30 (s ++ c30 ++ [20000 + tkK L p]) ((v + v30)) a30 tw30 s30 R30 hO30 hF30 ((hA.tr A29).tr A30) (gd_jn hgs hg30.2.2 (by omega)) (by rw [vE_jn hgs.2 hg30.2.2.2 (by omega) (by omega), Nat.add_sub_cancel_left, (show tkK L p = 43 by omega), ← hve, ← hv30e]; exact rfl) (by omega) (by omega)
        · refine x_topi (y := nI 0) (lcmp_eq (by omega)) ?_
          refine x_ifN_ne (tgt := 38) dX8_added_31 (by decide) (by omega) (fun hv33 => ?_) (fun hv33 => ?_)
          · exact absurd hv33 (by decide)
          · refine x_iconst (v := nI 1) dX8_added_34 (by decide) ?_
            refine x_goto (tgt := 39) dX8_added_35 (by decide) ?_
            refine x_istore_n dX8_added_39 (by decide) rfl ?_
            refine x_lv (lv' := [some (.ref 1000), some (.int v), some (.int (nI 1)), none]) rfl ?_
            refine x_aload_n dX8_added_40 rfl ?_
            refine x_callV m_X8_next l_X8_187 (r_next hR hy (t23 (show rK L p ≠ 4 from fun q9 => by have := rK4 q9; omega)) (tkN_b (show p ≤ L.length by omega)).2.1) rfl hR.2.1 (by omega) rfl rfl (Nat.le_of_ble_eq_true rfl) ⟨Nat.le_refl _, Nat.le_refl _⟩ dX8_added_41 (fun r34 s34 q34 => ?_)
            obtain ⟨rfl, a34, tw34, R34, N34, K34⟩ := q34
            have A34 := N34.A
            have hO34 : RPok a34 tw34 b L (tkN L p) op := ⟨hy.fr A34, K34, (N34 27 (by omega)).trans t27, (N34 28 (by omega)).trans t28⟩
            have hF34 := hF.fr A34
            have hn34 := tkN_b (show p ≤ L.length by omega)
            have hl34 := lexP_b (show p ≤ L.length by omega)
            obtain ⟨hy34, ⟨t2534, t2434, t2334, t234, t334⟩, t2734, t2834⟩ := id hO34
            obtain ⟨f034, hx341, hx342, hx343, hx344, hx345, hx346⟩ := id hy34
            refine x_stk (st' := []) rfl ?_
            refine x_aload_n dX8_added_44 rfl ?_
            refine x_callV m_X8_term l_X8_229 (hC _ _ _ _ _ F (tkN L p) R34 hO34 (by omega) hF34) rfl R34.2.1 (by omega) rfl rfl (Nat.le_of_ble_eq_true rfl) ⟨Nat.le_refl _, Nat.le_refl _⟩ dX8_added_45 (fun r35 s35 q35 => ?_)
            obtain ⟨v35, a35, tw35, rfl, R35, A35, hq35⟩ := q35
            refine x_stk (st' := [.int v35]) rfl ?_
            rcases hs35 : sb (tkN L p) with e35 | ⟨c35, b35⟩
            · have hO35 : RPft a35 e35 := by rw [hs35] at hq35; exact hq35
              obtain ⟨t2835, t2935⟩ := id hO35
              refine x_istore_n dX8_added_48 (by decide) rfl ?_
              refine x_lv (lv' := [some (.ref 1000), some (.int v), some (.int (nI 1)), some (.int v35)]) rfl ?_
              refine x_iload_n dX8_added_49 rfl ?_
              refine x_ifN_eq (tgt := 59) dX8_added_50 (by decide) (by omega) (fun hv36 => ?_) (fun hv36 => ?_)
              · exact absurd hv36 (by decide)
              · refine x_iload_n dX8_added_53 rfl ?_
                refine x_iload_n dX8_added_54 rfl ?_
                refine x_iadd dX8_added_55 ?_
                refine x_goto (tgt := 62) dX8_added_56 (by decide) ?_
                refine x_istore_n dX8_added_62 (by decide) rfl ?_
                refine x_lv (lv' := [some (.ref 1000), some (.int ((v + v35))), some (.int (nI 1)), some (.int v35)]) rfl ?_
                refine x_goto (tgt := 5) dX8_added_63 (by decide) ?_
                refine x_aload_n dX8_added_5 rfl ?_
                refine x_bipush (v := nI 43) dX8_added_6 (by decide) ?_
                refine x_callV m_X8_isSign l_X8_212 (r_isSign_ft R35 hO35) rfl R35.2.1 (by omega) rfl rfl (Nat.le_of_ble_eq_true rfl) ⟨Nat.le_refl _, Nat.le_refl _⟩ dX8_added_8 (fun r337 s337 q337 => ?_)
                obtain ⟨rfl, eq337⟩ := q337
                obtain rfl := eq337.symm
                refine x_stk (st' := [.int (nI 0)]) rfl ?_
                refine x_ifN_ne (tgt := 23) dX8_added_11 (by decide) (by omega) (fun hv338 => ?_) (fun hv338 => ?_)
                · exact absurd hv338 (by decide)
                · refine x_aload_n dX8_added_14 rfl ?_
                  refine x_bipush (v := nI 45) dX8_added_15 (by decide) ?_
                  refine x_callV m_X8_isSign l_X8_212 (r_isSign_ft R35 hO35) rfl R35.2.1 (by omega) rfl rfl (Nat.le_of_ble_eq_true rfl) ⟨Nat.le_refl _, Nat.le_refl _⟩ dX8_added_17 (fun r339 s339 q339 => ?_)
                  obtain ⟨rfl, eq339⟩ := q339
                  obtain rfl := eq339.symm
                  refine x_stk (st' := [.int (nI 0)]) rfl ?_
                  refine x_ifN_eq (tgt := 66) dX8_added_20 (by decide) (by omega) (fun hv340 => ?_) (fun hv340 => ?_)
                  · refine x_iload_n dX8_added_66 rfl ?_
                    exact x_iret ⟨Nat.le_refl _, Nat.le_refl _⟩ rfl dX8_added_67 ⟨_, _, _, rfl, R35, ((hA.tr A34).tr A35), by rw [pLp, if_pos (show opPM (tkK L p) = true from opPM_iff.mpr (by omega)), hs35]; exact hO35⟩
                  · exact absurd hv340 (by decide)
            · have hp35 : RPok a35 tw35 b L b35 op ∧ v35 = vE F c35 := by rw [hs35] at hq35; exact hq35
              obtain ⟨hO35, hv35e⟩ := hp35
              have hF35 := hF34.fr A35
              have hg35 := hG (tkN L p) (by omega) _ _ hs35
              obtain ⟨hy35, ⟨t2535, t2435, t2335, t235, t335⟩, t2735, t2835⟩ := id hO35
              obtain ⟨f035, hx351, hx352, hx353, hx354, hx355, hx356⟩ := id hy35
              have hk935 := tkK_lt (L := L) (p := b35)
              refine x_istore_n dX8_added_48 (by decide) rfl ?_
              refine x_lv (lv' := [some (.ref 1000), some (.int v), some (.int (nI 1)), some (.int v35)]) rfl ?_
              refine x_iload_n dX8_added_49 rfl ?_
              refine x_ifN_eq (tgt := 59) dX8_added_50 (by decide) (by omega) (fun hv37 => ?_) (fun hv37 => ?_)
              · exact absurd hv37 (by decide)
              · refine x_iload_n dX8_added_53 rfl ?_
                refine x_iload_n dX8_added_54 rfl ?_
                refine x_iadd dX8_added_55 ?_
                refine x_goto (tgt := 62) dX8_added_56 (by decide) ?_
                refine x_istore_n dX8_added_62 (by decide) rfl ?_
                refine x_lv (lv' := [some (.ref 1000), some (.int ((v + v35))), some (.int (nI 1)), some (.int v35)]) rfl ?_
                refine x_goto (tgt := 5) dX8_added_63 (by decide) ?_
                refine x_drop 2 (x_drop 3 ?_)
                rw [pLp, if_pos (show opPM (tkK L p) = true from opPM_iff.mpr (by omega)), hs35]
                exact ih b35 (s ++ c35 ++ [20000 + tkK L p]) ((v + v35)) a35 tw35 s35 R35 hO35 hF35 ((hA.tr A34).tr A35) (gd_jn hgs hg35.2.2 (by omega)) (by rw [vE_jn hgs.2 hg35.2.2.2 (by omega) (by omega), Nat.add_sub_cancel_left, (show tkK L p = 43 by omega), ← hve, ← hv35e]; exact rfl) (by omega) (by omega)
        · refine x_topi (y := nI 1) (lcmp_gt (by omega)) ?_
          refine x_ifN_ne (tgt := 38) dX8_added_31 (by decide) (by omega) (fun hv38 => ?_) (fun hv38 => ?_)
          · refine x_iconst (v := nI 0) dX8_added_38 (by decide) ?_
            refine x_istore_n dX8_added_39 (by decide) rfl ?_
            refine x_lv (lv' := [some (.ref 1000), some (.int v), some (.int (nI 0)), none]) rfl ?_
            refine x_aload_n dX8_added_40 rfl ?_
            refine x_callV m_X8_next l_X8_187 (r_next hR hy (t23 (show rK L p ≠ 4 from fun q9 => by have := rK4 q9; omega)) (tkN_b (show p ≤ L.length by omega)).2.1) rfl hR.2.1 (by omega) rfl rfl (Nat.le_of_ble_eq_true rfl) ⟨Nat.le_refl _, Nat.le_refl _⟩ dX8_added_41 (fun r39 s39 q39 => ?_)
            obtain ⟨rfl, a39, tw39, R39, N39, K39⟩ := q39
            have A39 := N39.A
            have hO39 : RPok a39 tw39 b L (tkN L p) op := ⟨hy.fr A39, K39, (N39 27 (by omega)).trans t27, (N39 28 (by omega)).trans t28⟩
            have hF39 := hF.fr A39
            have hn39 := tkN_b (show p ≤ L.length by omega)
            have hl39 := lexP_b (show p ≤ L.length by omega)
            obtain ⟨hy39, ⟨t2539, t2439, t2339, t239, t339⟩, t2739, t2839⟩ := id hO39
            obtain ⟨f039, hx391, hx392, hx393, hx394, hx395, hx396⟩ := id hy39
            refine x_stk (st' := []) rfl ?_
            refine x_aload_n dX8_added_44 rfl ?_
            refine x_callV m_X8_term l_X8_229 (hC _ _ _ _ _ F (tkN L p) R39 hO39 (by omega) hF39) rfl R39.2.1 (by omega) rfl rfl (Nat.le_of_ble_eq_true rfl) ⟨Nat.le_refl _, Nat.le_refl _⟩ dX8_added_45 (fun r40 s40 q40 => ?_)
            obtain ⟨v40, a40, tw40, rfl, R40, A40, hq40⟩ := q40
            refine x_stk (st' := [.int v40]) rfl ?_
            rcases hs40 : sb (tkN L p) with e40 | ⟨c40, b40⟩
            · have hO40 : RPft a40 e40 := by rw [hs40] at hq40; exact hq40
              obtain ⟨t2840, t2940⟩ := id hO40
              refine x_istore_n dX8_added_48 (by decide) rfl ?_
              refine x_lv (lv' := [some (.ref 1000), some (.int v), some (.int (nI 0)), some (.int v40)]) rfl ?_
              refine x_iload_n dX8_added_49 rfl ?_
              refine x_ifN_eq (tgt := 59) dX8_added_50 (by decide) (by omega) (fun hv41 => ?_) (fun hv41 => ?_)
              · refine x_iload_n dX8_added_59 rfl ?_
                refine x_iload_n dX8_added_60 rfl ?_
                refine x_isub dX8_added_61 ?_
                refine x_istore_n dX8_added_62 (by decide) rfl ?_
                refine x_lv (lv' := [some (.ref 1000), some (.int ((v - v40))), some (.int (nI 0)), some (.int v40)]) rfl ?_
                refine x_goto (tgt := 5) dX8_added_63 (by decide) ?_
                refine x_aload_n dX8_added_5 rfl ?_
                refine x_bipush (v := nI 43) dX8_added_6 (by decide) ?_
                refine x_callV m_X8_isSign l_X8_212 (r_isSign_ft R40 hO40) rfl R40.2.1 (by omega) rfl rfl (Nat.le_of_ble_eq_true rfl) ⟨Nat.le_refl _, Nat.le_refl _⟩ dX8_added_8 (fun r342 s342 q342 => ?_)
                obtain ⟨rfl, eq342⟩ := q342
                obtain rfl := eq342.symm
                refine x_stk (st' := [.int (nI 0)]) rfl ?_
                refine x_ifN_ne (tgt := 23) dX8_added_11 (by decide) (by omega) (fun hv343 => ?_) (fun hv343 => ?_)
                · exact absurd hv343 (by decide)
                · refine x_aload_n dX8_added_14 rfl ?_
                  refine x_bipush (v := nI 45) dX8_added_15 (by decide) ?_
                  refine x_callV m_X8_isSign l_X8_212 (r_isSign_ft R40 hO40) rfl R40.2.1 (by omega) rfl rfl (Nat.le_of_ble_eq_true rfl) ⟨Nat.le_refl _, Nat.le_refl _⟩ dX8_added_17 (fun r344 s344 q344 => ?_)
                  obtain ⟨rfl, eq344⟩ := q344
                  obtain rfl := eq344.symm
                  refine x_stk (st' := [.int (nI 0)]) rfl ?_
                  refine x_ifN_eq (tgt := 66) dX8_added_20 (by decide) (by omega) (fun hv345 => ?_) (fun hv345 => ?_)
                  · refine x_iload_n dX8_added_66 rfl ?_
                    exact x_iret ⟨Nat.le_refl _, Nat.le_refl _⟩ rfl dX8_added_67 ⟨_, _, _, rfl, R40, ((hA.tr A39).tr A40), by rw [pLp, if_pos (show opPM (tkK L p) = true from opPM_iff.mpr (by omega)), hs40]; exact hO40⟩
                  · exact absurd hv345 (by decide)
              · exact absurd hv41 (by decide)
            · have hp40 : RPok a40 tw40 b L b40 op ∧ v40 = vE F c40 := by rw [hs40] at hq40; exact hq40
              obtain ⟨hO40, hv40e⟩ := hp40
              have hF40 := hF39.fr A40
              have hg40 := hG (tkN L p) (by omega) _ _ hs40
              obtain ⟨hy40, ⟨t2540, t2440, t2340, t240, t340⟩, t2740, t2840⟩ := id hO40
              obtain ⟨f040, hx401, hx402, hx403, hx404, hx405, hx406⟩ := id hy40
              have hk940 := tkK_lt (L := L) (p := b40)
              refine x_istore_n dX8_added_48 (by decide) rfl ?_
              refine x_lv (lv' := [some (.ref 1000), some (.int v), some (.int (nI 0)), some (.int v40)]) rfl ?_
              refine x_iload_n dX8_added_49 rfl ?_
              refine x_ifN_eq (tgt := 59) dX8_added_50 (by decide) (by omega) (fun hv42 => ?_) (fun hv42 => ?_)
              · refine x_iload_n dX8_added_59 rfl ?_
                refine x_iload_n dX8_added_60 rfl ?_
                refine x_isub dX8_added_61 ?_
                refine x_istore_n dX8_added_62 (by decide) rfl ?_
                refine x_lv (lv' := [some (.ref 1000), some (.int ((v - v40))), some (.int (nI 0)), some (.int v40)]) rfl ?_
                refine x_goto (tgt := 5) dX8_added_63 (by decide) ?_
                refine x_drop 2 (x_drop 3 ?_)
                rw [pLp, if_pos (show opPM (tkK L p) = true from opPM_iff.mpr (by omega)), hs40]
                exact ih b40 (s ++ c40 ++ [20000 + tkK L p]) ((v - v40)) a40 tw40 s40 R40 hO40 hF40 ((hA.tr A39).tr A40) (gd_jn hgs hg40.2.2 (by omega)) (by rw [vE_jn hgs.2 hg40.2.2.2 (by omega) (by omega), Nat.add_sub_cancel_left, (show tkK L p = 45 by omega), ← hve, ← hv40e]; exact rfl) (by omega) (by omega)
              · exact absurd hv42 (by decide)
          · exact absurd hv38 (by decide)
set_option maxHeartbeats 4000000 in
theorem e_added0 {σ0 σ : ZS} {a : Nat → Int32} {tw : Int64} {b : Nat → List Int32} {L : List Nat} {sb : Nat → PR} {op kd p : Nat} {F : List Int32} (hC : CE kd M_X8_term op L sb) (hG : ∀ p, p ≤ L.length → Good L p (sb p)) (hR : RM σ0 σ a tw b) (hO : RPok a tw b L p op) (hp : p ≤ L.length) (hF : FF a F) : Cn (kd + 3) M_X8_added 0 0 [.ref 1000] σ (fun r9 σ' => ∃ (v : Int32) (a' : Nat → Int32) (tw' : Int64), r9 = some (.int v) ∧ RM σ0 σ' a' tw' b ∧ FrA a a' ∧ RPr a' tw' b L op F v (pBin opPM L sb p)) := by
  obtain ⟨hy, ⟨t25, t24, t23, t2, t3⟩, t27, t28⟩ := id hO
  obtain ⟨f0, hx1, hx2, hx3, hx4, hx5, hx6⟩ := id hy
  have hk9 := tkK_lt (L := L) (p := p)
  have hlp := lexP_b hp
  have hnp := tkN_b hp
  refine Cn.intro (lv0 := [some (.ref 1000), none, none, none]) rfl (Nat.le_of_ble_eq_true rfl) rfl (fun d hd => ?_)
  refine x_aload_n dX8_added_0 rfl ?_
  refine x_callV m_X8_term l_X8_229 (hC _ _ _ _ _ F p hR hO (by omega) hF) rfl hR.2.1 (by omega) rfl rfl (Nat.le_of_ble_eq_true rfl) ⟨Nat.le_refl _, Nat.le_refl _⟩ dX8_added_1 (fun r1 s1 q1 => ?_)
  obtain ⟨v1, a1, tw1, rfl, R1, A1, hq1⟩ := q1
  refine x_stk (st' := [.int v1]) rfl ?_
  rcases hs1 : sb p with e1 | ⟨c1, b1⟩
  · have hO1 : RPft a1 e1 := by rw [hs1] at hq1; exact hq1
    obtain ⟨t281, t291⟩ := id hO1
    refine x_istore_n dX8_added_4 (by decide) rfl ?_
    refine x_lv (lv' := [some (.ref 1000), some (.int v1), none, none]) rfl ?_
    refine x_aload_n dX8_added_5 rfl ?_
    refine x_bipush (v := nI 43) dX8_added_6 (by decide) ?_
    refine x_callV m_X8_isSign l_X8_212 (r_isSign_ft R1 hO1) rfl R1.2.1 (by omega) rfl rfl (Nat.le_of_ble_eq_true rfl) ⟨Nat.le_refl _, Nat.le_refl _⟩ dX8_added_8 (fun r2 s2 q2 => ?_)
    obtain ⟨rfl, eq2⟩ := q2
    obtain rfl := eq2.symm
    refine x_stk (st' := [.int (nI 0)]) rfl ?_
    refine x_ifN_ne (tgt := 23) dX8_added_11 (by decide) (by omega) (fun hv3 => ?_) (fun hv3 => ?_)
    · exact absurd hv3 (by decide)
    · refine x_aload_n dX8_added_14 rfl ?_
      refine x_bipush (v := nI 45) dX8_added_15 (by decide) ?_
      refine x_callV m_X8_isSign l_X8_212 (r_isSign_ft R1 hO1) rfl R1.2.1 (by omega) rfl rfl (Nat.le_of_ble_eq_true rfl) ⟨Nat.le_refl _, Nat.le_refl _⟩ dX8_added_17 (fun r4 s4 q4 => ?_)
      obtain ⟨rfl, eq4⟩ := q4
      obtain rfl := eq4.symm
      refine x_stk (st' := [.int (nI 0)]) rfl ?_
      refine x_ifN_eq (tgt := 66) dX8_added_20 (by decide) (by omega) (fun hv5 => ?_) (fun hv5 => ?_)
      · refine x_iload_n dX8_added_66 rfl ?_
        exact x_iret ⟨Nat.le_refl _, Nat.le_refl _⟩ rfl dX8_added_67 ⟨_, _, _, rfl, R1, (FrA.rf.tr A1), by rw [pBin, hs1]; exact hO1⟩
      · exact absurd hv5 (by decide)
  · have hp1 : RPok a1 tw1 b L b1 op ∧ v1 = vE F c1 := by rw [hs1] at hq1; exact hq1
    obtain ⟨hO1, hv1e⟩ := hp1
    have hF1 := hF.fr A1
    have hg1 := hG p (by omega) _ _ hs1
    obtain ⟨hy1, ⟨t251, t241, t231, t21, t31⟩, t271, t281⟩ := id hO1
    obtain ⟨f01, hx11, hx12, hx13, hx14, hx15, hx16⟩ := id hy1
    have hk91 := tkK_lt (L := L) (p := b1)
    refine x_istore_n dX8_added_4 (by decide) rfl ?_
    refine x_lv (lv' := [some (.ref 1000), some (.int v1), none, none]) rfl ?_
    have hL := hx3
    rw [pBin, hs1]
    exact le_added hC hG hd 160 b1 c1 v1 a1 tw1 s1 R1 hO1 hF1 (FrA.rf.tr A1) hg1.2.2 hv1e (by omega) (by omega)
theorem e_added {L : List Nat} {sb : Nat → PR} {op kd : Nat} (hC : CE kd M_X8_term op L sb) (hG : ∀ p, p ≤ L.length → Good L p (sb p)) : CE (kd + 3) M_X8_added op L (pBin opPM L sb) := fun σ0 σ a tw b F p a1 a2 a3 a4 => e_added0 hC hG a1 a2 a3 a4
set_option maxHeartbeats 4000000 in
theorem le_both {σ0 : ZS} {a0 : Nat → Int32} {b : Nat → List Int32} {F : List Int32} {L : List Nat} {sb : Nat → PR} {op kd : Nat} (hC : CE kd M_X8_not op L sb) (hG : ∀ p, p ≤ L.length → Good L p (sb p)) {d : Nat} (hd : kd + 3 ≤ d) : ∀ (f p : Nat) (s : List Nat) (v : Int32) (a : Nat → Int32) (tw : Int64) (σ : ZS) (hR : RM σ0 σ a tw b) (hO : RPok a tw b L p op) (hF : FF a F) (hA : FrA a0 a) (hgs : gd s) (hve : v = vE F s), L.length ≤ p + f → p ≤ L.length → X M_X8_both d 0 0 (fun r9 σ' => ∃ (v' : Int32) (a' : Nat → Int32) (tw' : Int64), r9 = some (.int v') ∧ RM σ0 σ' a' tw' b ∧ FrA a0 a' ∧ RPr a' tw' b L op F v' (pLp op9 L sb f s p)) 0 0 5 [some (.ref 1000), some (.int v), none] [] σ := by
  intro f
  induction f with
  | zero =>
    intro p s v a tw σ hR hO hF hA hgs hve hfu hk
    obtain ⟨hy, ⟨t25, t24, t23, t2, t3⟩, t27, t28⟩ := id hO
    obtain ⟨f0, hx1, hx2, hx3, hx4, hx5, hx6⟩ := id hy
    have hk9 := tkK_lt (L := L) (p := p)
    have hlp := lexP_b hk
    have hnp := tkN_b hk
    have hpe := pend (L := L) (p := p) (by omega)
    refine x_aload_n dX8_both_5 rfl ?_
    refine x_bipush (v := nI 97) dX8_both_6 (by decide) ?_
    refine x_bipush (v := nI 110) dX8_both_8 (by decide) ?_
    refine x_bipush (v := nI 100) dX8_both_10 (by decide) ?_
    refine x_iconst (v := nI 0) dX8_both_12 (by decide) ?_
    refine x_iconst (v := nI 0) dX8_both_13 (by decide) ?_
    refine x_iconst (v := nI 0) dX8_both_14 (by decide) ?_
    refine x_iconst (v := nI 0) dX8_both_15 (by decide) ?_
    refine x_iconst (v := nI 0) dX8_both_16 (by decide) ?_
    refine x_callV m_X8_isWord l_X8_190 (r_isKey hR hO (by omega) (k := 4) (by omega)) rfl hR.2.1 (by omega) rfl rfl (Nat.le_of_ble_eq_true rfl) ⟨Nat.le_refl _, Nat.le_refl _⟩ dX8_both_17 (fun r1 s1 q1 => ?_)
    obtain ⟨rfl, eq1⟩ := q1
    obtain rfl := eq1.symm
    refine x_stk (st' := [.int (bI (decide (tkK L p = 5 + 4)))]) rfl ?_
    refine x_ifP_eq (P := tkK L p = 5 + 4) inferInstance (tgt := 49) dX8_both_20 (by decide) (fun hv2 => ?_) (fun hv2 => ?_)
    · refine x_iload_n dX8_both_49 rfl ?_
      exact x_iret ⟨Nat.le_refl _, Nat.le_refl _⟩ rfl dX8_both_50 ⟨v, _, _, rfl, hR, hA, hO, hve⟩
    · exact absurd hv2 (by omega)
  | succ f ih =>
    intro p s v a tw σ hR hO hF hA hgs hve hfu hk
    obtain ⟨hy, ⟨t25, t24, t23, t2, t3⟩, t27, t28⟩ := id hO
    obtain ⟨f0, hx1, hx2, hx3, hx4, hx5, hx6⟩ := id hy
    have hk9 := tkK_lt (L := L) (p := p)
    have hlp := lexP_b hk
    have hnp := tkN_b hk
    refine x_aload_n dX8_both_5 rfl ?_
    refine x_bipush (v := nI 97) dX8_both_6 (by decide) ?_
    refine x_bipush (v := nI 110) dX8_both_8 (by decide) ?_
    refine x_bipush (v := nI 100) dX8_both_10 (by decide) ?_
    refine x_iconst (v := nI 0) dX8_both_12 (by decide) ?_
    refine x_iconst (v := nI 0) dX8_both_13 (by decide) ?_
    refine x_iconst (v := nI 0) dX8_both_14 (by decide) ?_
    refine x_iconst (v := nI 0) dX8_both_15 (by decide) ?_
    refine x_iconst (v := nI 0) dX8_both_16 (by decide) ?_
    refine x_callV m_X8_isWord l_X8_190 (r_isKey hR hO (by omega) (k := 4) (by omega)) rfl hR.2.1 (by omega) rfl rfl (Nat.le_of_ble_eq_true rfl) ⟨Nat.le_refl _, Nat.le_refl _⟩ dX8_both_17 (fun r1 s1 q1 => ?_)
    obtain ⟨rfl, eq1⟩ := q1
    obtain rfl := eq1.symm
    refine x_stk (st' := [.int (bI (decide (tkK L p = 5 + 4)))]) rfl ?_
    refine x_ifP_eq (P := tkK L p = 5 + 4) inferInstance (tgt := 49) dX8_both_20 (by decide) (fun hv2 => ?_) (fun hv2 => ?_)
    · refine x_iload_n dX8_both_49 rfl ?_
      exact x_iret ⟨Nat.le_refl _, Nat.le_refl _⟩ rfl dX8_both_50 ⟨v, _, _, rfl, hR, hA, by rw [pLp, if_neg (show ¬ op9 (tkK L p) = true from fun e => by have := eq_of_beq e; omega)]; exact ⟨hO, hve⟩⟩
    · refine x_aload_n dX8_both_23 rfl ?_
      refine x_callV m_X8_next l_X8_187 (r_next hR hy (t23 (show rK L p ≠ 4 from fun q9 => by have := rK4 q9; omega)) (tkN_b (show p ≤ L.length by omega)).2.1) rfl hR.2.1 (by omega) rfl rfl (Nat.le_of_ble_eq_true rfl) ⟨Nat.le_refl _, Nat.le_refl _⟩ dX8_both_24 (fun r3 s3 q3 => ?_)
      obtain ⟨rfl, a3, tw3, R3, N3, K3⟩ := q3
      have A3 := N3.A
      have hO3 : RPok a3 tw3 b L (tkN L p) op := ⟨hy.fr A3, K3, (N3 27 (by omega)).trans t27, (N3 28 (by omega)).trans t28⟩
      have hF3 := hF.fr A3
      have hn3 := tkN_b (show p ≤ L.length by omega)
      have hl3 := lexP_b (show p ≤ L.length by omega)
      obtain ⟨hy3, ⟨t253, t243, t233, t23, t33⟩, t273, t283⟩ := id hO3
      obtain ⟨f03, hx31, hx32, hx33, hx34, hx35, hx36⟩ := id hy3
      refine x_stk (st' := []) rfl ?_
      refine x_aload_n dX8_both_27 rfl ?_
      refine x_callV m_X8_not l_X8_234 (hC _ _ _ _ _ F (tkN L p) R3 hO3 (by omega) hF3) rfl R3.2.1 (by omega) rfl rfl (Nat.le_of_ble_eq_true rfl) ⟨Nat.le_refl _, Nat.le_refl _⟩ dX8_both_28 (fun r4 s4 q4 => ?_)
      obtain ⟨v4, a4, tw4, rfl, R4, A4, hq4⟩ := q4
      refine x_stk (st' := [.int v4]) rfl ?_
      rcases hs4 : sb (tkN L p) with e4 | ⟨c4, b4⟩
      · have hO4 : RPft a4 e4 := by rw [hs4] at hq4; exact hq4
        obtain ⟨t284, t294⟩ := id hO4
        refine x_istore_n dX8_both_31 (by decide) rfl ?_
        refine x_lv (lv' := [some (.ref 1000), some (.int v), some (.int v4)]) rfl ?_
        refine x_iload_n dX8_both_32 rfl ?_
        refine x_ifT_eq (p := (v).toInt) (tgt := 44) rfl dX8_both_33 (by decide) (fun hv5 => ?_) (fun hv5 => ?_)
        · refine x_iconst (v := nI 0) dX8_both_44 (by decide) ?_
          refine x_istore_n dX8_both_45 (by decide) rfl ?_
          refine x_lv (lv' := [some (.ref 1000), some (.int (nI 0)), some (.int v4)]) rfl ?_
          refine x_goto (tgt := 5) dX8_both_46 (by decide) ?_
          refine x_aload_n dX8_both_5 rfl ?_
          refine x_bipush (v := nI 97) dX8_both_6 (by decide) ?_
          refine x_bipush (v := nI 110) dX8_both_8 (by decide) ?_
          refine x_bipush (v := nI 100) dX8_both_10 (by decide) ?_
          refine x_iconst (v := nI 0) dX8_both_12 (by decide) ?_
          refine x_iconst (v := nI 0) dX8_both_13 (by decide) ?_
          refine x_iconst (v := nI 0) dX8_both_14 (by decide) ?_
          refine x_iconst (v := nI 0) dX8_both_15 (by decide) ?_
          refine x_iconst (v := nI 0) dX8_both_16 (by decide) ?_
          refine x_callV m_X8_isWord l_X8_190 (r_isWord_ft R4 hO4) rfl R4.2.1 (by omega) rfl rfl (Nat.le_of_ble_eq_true rfl) ⟨Nat.le_refl _, Nat.le_refl _⟩ dX8_both_17 (fun r306 s306 q306 => ?_)
          obtain ⟨rfl, eq306⟩ := q306
          obtain rfl := eq306.symm
          refine x_stk (st' := [.int (nI 0)]) rfl ?_
          refine x_ifN_eq (tgt := 49) dX8_both_20 (by decide) (by omega) (fun hv307 => ?_) (fun hv307 => ?_)
          · refine x_iload_n dX8_both_49 rfl ?_
            exact x_iret ⟨Nat.le_refl _, Nat.le_refl _⟩ rfl dX8_both_50 ⟨_, _, _, rfl, R4, ((hA.tr A3).tr A4), by rw [pLp, if_pos (show op9 (tkK L p) = true from beq_iff_eq.mpr (by omega)), hs4]; exact hO4⟩
          · exact absurd hv307 (by decide)
        · refine x_iload_n dX8_both_36 rfl ?_
          refine x_ifT_eq (p := (v4).toInt) (tgt := 44) rfl dX8_both_37 (by decide) (fun hv6 => ?_) (fun hv6 => ?_)
          · refine x_iconst (v := nI 0) dX8_both_44 (by decide) ?_
            refine x_istore_n dX8_both_45 (by decide) rfl ?_
            refine x_lv (lv' := [some (.ref 1000), some (.int (nI 0)), some (.int v4)]) rfl ?_
            refine x_goto (tgt := 5) dX8_both_46 (by decide) ?_
            refine x_aload_n dX8_both_5 rfl ?_
            refine x_bipush (v := nI 97) dX8_both_6 (by decide) ?_
            refine x_bipush (v := nI 110) dX8_both_8 (by decide) ?_
            refine x_bipush (v := nI 100) dX8_both_10 (by decide) ?_
            refine x_iconst (v := nI 0) dX8_both_12 (by decide) ?_
            refine x_iconst (v := nI 0) dX8_both_13 (by decide) ?_
            refine x_iconst (v := nI 0) dX8_both_14 (by decide) ?_
            refine x_iconst (v := nI 0) dX8_both_15 (by decide) ?_
            refine x_iconst (v := nI 0) dX8_both_16 (by decide) ?_
            refine x_callV m_X8_isWord l_X8_190 (r_isWord_ft R4 hO4) rfl R4.2.1 (by omega) rfl rfl (Nat.le_of_ble_eq_true rfl) ⟨Nat.le_refl _, Nat.le_refl _⟩ dX8_both_17 (fun r307 s307 q307 => ?_)
            obtain ⟨rfl, eq307⟩ := q307
            obtain rfl := eq307.symm
            refine x_stk (st' := [.int (nI 0)]) rfl ?_
            refine x_ifN_eq (tgt := 49) dX8_both_20 (by decide) (by omega) (fun hv308 => ?_) (fun hv308 => ?_)
            · refine x_iload_n dX8_both_49 rfl ?_
              exact x_iret ⟨Nat.le_refl _, Nat.le_refl _⟩ rfl dX8_both_50 ⟨_, _, _, rfl, R4, ((hA.tr A3).tr A4), by rw [pLp, if_pos (show op9 (tkK L p) = true from beq_iff_eq.mpr (by omega)), hs4]; exact hO4⟩
            · exact absurd hv308 (by decide)
          · refine x_iconst (v := nI 1) dX8_both_40 (by decide) ?_
            refine x_goto (tgt := 45) dX8_both_41 (by decide) ?_
            refine x_istore_n dX8_both_45 (by decide) rfl ?_
            refine x_lv (lv' := [some (.ref 1000), some (.int (nI 1)), some (.int v4)]) rfl ?_
            refine x_goto (tgt := 5) dX8_both_46 (by decide) ?_
            refine x_aload_n dX8_both_5 rfl ?_
            refine x_bipush (v := nI 97) dX8_both_6 (by decide) ?_
            refine x_bipush (v := nI 110) dX8_both_8 (by decide) ?_
            refine x_bipush (v := nI 100) dX8_both_10 (by decide) ?_
            refine x_iconst (v := nI 0) dX8_both_12 (by decide) ?_
            refine x_iconst (v := nI 0) dX8_both_13 (by decide) ?_
            refine x_iconst (v := nI 0) dX8_both_14 (by decide) ?_
            refine x_iconst (v := nI 0) dX8_both_15 (by decide) ?_
            refine x_iconst (v := nI 0) dX8_both_16 (by decide) ?_
            refine x_callV m_X8_isWord l_X8_190 (r_isWord_ft R4 hO4) rfl R4.2.1 (by omega) rfl rfl (Nat.le_of_ble_eq_true rfl) ⟨Nat.le_refl _, Nat.le_refl _⟩ dX8_both_17 (fun r307 s307 q307 => ?_)
            obtain ⟨rfl, eq307⟩ := q307
            obtain rfl := eq307.symm
            refine x_stk (st' := [.int (nI 0)]) rfl ?_
            refine x_ifN_eq (tgt := 49) dX8_both_20 (by decide) (by omega) (fun hv308 => ?_) (fun hv308 => ?_)
            · refine x_iload_n dX8_both_49 rfl ?_
              exact x_iret ⟨Nat.le_refl _, Nat.le_refl _⟩ rfl dX8_both_50 ⟨_, _, _, rfl, R4, ((hA.tr A3).tr A4), by rw [pLp, if_pos (show op9 (tkK L p) = true from beq_iff_eq.mpr (by omega)), hs4]; exact hO4⟩
            · exact absurd hv308 (by decide)
      · have hp4 : RPok a4 tw4 b L b4 op ∧ v4 = vE F c4 := by rw [hs4] at hq4; exact hq4
        obtain ⟨hO4, hv4e⟩ := hp4
        have hF4 := hF3.fr A4
        have hg4 := hG (tkN L p) (by omega) _ _ hs4
        obtain ⟨hy4, ⟨t254, t244, t234, t24, t34⟩, t274, t284⟩ := id hO4
        obtain ⟨f04, hx41, hx42, hx43, hx44, hx45, hx46⟩ := id hy4
        have hk94 := tkK_lt (L := L) (p := b4)
        refine x_istore_n dX8_both_31 (by decide) rfl ?_
        refine x_lv (lv' := [some (.ref 1000), some (.int v), some (.int v4)]) rfl ?_
        refine x_iload_n dX8_both_32 rfl ?_
        refine x_ifT_eq (p := (v).toInt) (tgt := 44) rfl dX8_both_33 (by decide) (fun hv7 => ?_) (fun hv7 => ?_)
        · refine x_iconst (v := nI 0) dX8_both_44 (by decide) ?_
          refine x_istore_n dX8_both_45 (by decide) rfl ?_
          refine x_lv (lv' := [some (.ref 1000), some (.int (nI 0)), some (.int v4)]) rfl ?_
          refine x_goto (tgt := 5) dX8_both_46 (by decide) ?_
          refine x_drop 2 ?_
          rw [pLp, if_pos (show op9 (tkK L p) = true from beq_iff_eq.mpr (by omega)), hs4]
          exact ih b4 (s ++ c4 ++ [20000 + tkK L p]) (nI 0) a4 tw4 s4 R4 hO4 hF4 ((hA.tr A3).tr A4) (gd_jn hgs hg4.2.2 (by omega)) (by rw [vE_jn hgs.2 hg4.2.2.2 (by omega) (by omega), Nat.add_sub_cancel_left, (show tkK L p = 9 by omega), ← hve, ← hv4e]; exact (jn9_0 (Or.inl hv7)).symm) (by omega) (by omega)
        · refine x_iload_n dX8_both_36 rfl ?_
          refine x_ifT_eq (p := (v4).toInt) (tgt := 44) rfl dX8_both_37 (by decide) (fun hv8 => ?_) (fun hv8 => ?_)
          · refine x_iconst (v := nI 0) dX8_both_44 (by decide) ?_
            refine x_istore_n dX8_both_45 (by decide) rfl ?_
            refine x_lv (lv' := [some (.ref 1000), some (.int (nI 0)), some (.int v4)]) rfl ?_
            refine x_goto (tgt := 5) dX8_both_46 (by decide) ?_
            refine x_drop 2 ?_
            rw [pLp, if_pos (show op9 (tkK L p) = true from beq_iff_eq.mpr (by omega)), hs4]
            exact ih b4 (s ++ c4 ++ [20000 + tkK L p]) (nI 0) a4 tw4 s4 R4 hO4 hF4 ((hA.tr A3).tr A4) (gd_jn hgs hg4.2.2 (by omega)) (by rw [vE_jn hgs.2 hg4.2.2.2 (by omega) (by omega), Nat.add_sub_cancel_left, (show tkK L p = 9 by omega), ← hve, ← hv4e]; exact (jn9_0 (Or.inr hv8)).symm) (by omega) (by omega)
          · refine x_iconst (v := nI 1) dX8_both_40 (by decide) ?_
            refine x_goto (tgt := 45) dX8_both_41 (by decide) ?_
            refine x_istore_n dX8_both_45 (by decide) rfl ?_
            refine x_lv (lv' := [some (.ref 1000), some (.int (nI 1)), some (.int v4)]) rfl ?_
            refine x_goto (tgt := 5) dX8_both_46 (by decide) ?_
            refine x_drop 2 ?_
            rw [pLp, if_pos (show op9 (tkK L p) = true from beq_iff_eq.mpr (by omega)), hs4]
            exact ih b4 (s ++ c4 ++ [20000 + tkK L p]) (nI 1) a4 tw4 s4 R4 hO4 hF4 ((hA.tr A3).tr A4) (gd_jn hgs hg4.2.2 (by omega)) (by rw [vE_jn hgs.2 hg4.2.2.2 (by omega) (by omega), Nat.add_sub_cancel_left, (show tkK L p = 9 by omega), ← hve, ← hv4e]; exact (jn9_1 hv7 hv8).symm) (by omega) (by omega)
set_option maxHeartbeats 4000000 in
theorem e_both0 {σ0 σ : ZS} {a : Nat → Int32} {tw : Int64} {b : Nat → List Int32} {L : List Nat} {sb : Nat → PR} {op kd p : Nat} {F : List Int32} (hC : CE kd M_X8_not op L sb) (hG : ∀ p, p ≤ L.length → Good L p (sb p)) (hR : RM σ0 σ a tw b) (hO : RPok a tw b L p op) (hp : p ≤ L.length) (hF : FF a F) : Cn (kd + 3) M_X8_both 0 0 [.ref 1000] σ (fun r9 σ' => ∃ (v : Int32) (a' : Nat → Int32) (tw' : Int64), r9 = some (.int v) ∧ RM σ0 σ' a' tw' b ∧ FrA a a' ∧ RPr a' tw' b L op F v (pBin op9 L sb p)) := by
  obtain ⟨hy, ⟨t25, t24, t23, t2, t3⟩, t27, t28⟩ := id hO
  obtain ⟨f0, hx1, hx2, hx3, hx4, hx5, hx6⟩ := id hy
  have hk9 := tkK_lt (L := L) (p := p)
  have hlp := lexP_b hp
  have hnp := tkN_b hp
  refine Cn.intro (lv0 := [some (.ref 1000), none, none]) rfl (Nat.le_of_ble_eq_true rfl) rfl (fun d hd => ?_)
  refine x_aload_n dX8_both_0 rfl ?_
  refine x_callV m_X8_not l_X8_234 (hC _ _ _ _ _ F p hR hO (by omega) hF) rfl hR.2.1 (by omega) rfl rfl (Nat.le_of_ble_eq_true rfl) ⟨Nat.le_refl _, Nat.le_refl _⟩ dX8_both_1 (fun r1 s1 q1 => ?_)
  obtain ⟨v1, a1, tw1, rfl, R1, A1, hq1⟩ := q1
  refine x_stk (st' := [.int v1]) rfl ?_
  rcases hs1 : sb p with e1 | ⟨c1, b1⟩
  · have hO1 : RPft a1 e1 := by rw [hs1] at hq1; exact hq1
    obtain ⟨t281, t291⟩ := id hO1
    refine x_istore_n dX8_both_4 (by decide) rfl ?_
    refine x_lv (lv' := [some (.ref 1000), some (.int v1), none]) rfl ?_
    refine x_aload_n dX8_both_5 rfl ?_
    refine x_bipush (v := nI 97) dX8_both_6 (by decide) ?_
    refine x_bipush (v := nI 110) dX8_both_8 (by decide) ?_
    refine x_bipush (v := nI 100) dX8_both_10 (by decide) ?_
    refine x_iconst (v := nI 0) dX8_both_12 (by decide) ?_
    refine x_iconst (v := nI 0) dX8_both_13 (by decide) ?_
    refine x_iconst (v := nI 0) dX8_both_14 (by decide) ?_
    refine x_iconst (v := nI 0) dX8_both_15 (by decide) ?_
    refine x_iconst (v := nI 0) dX8_both_16 (by decide) ?_
    refine x_callV m_X8_isWord l_X8_190 (r_isWord_ft R1 hO1) rfl R1.2.1 (by omega) rfl rfl (Nat.le_of_ble_eq_true rfl) ⟨Nat.le_refl _, Nat.le_refl _⟩ dX8_both_17 (fun r2 s2 q2 => ?_)
    obtain ⟨rfl, eq2⟩ := q2
    obtain rfl := eq2.symm
    refine x_stk (st' := [.int (nI 0)]) rfl ?_
    refine x_ifN_eq (tgt := 49) dX8_both_20 (by decide) (by omega) (fun hv3 => ?_) (fun hv3 => ?_)
    · refine x_iload_n dX8_both_49 rfl ?_
      exact x_iret ⟨Nat.le_refl _, Nat.le_refl _⟩ rfl dX8_both_50 ⟨_, _, _, rfl, R1, (FrA.rf.tr A1), by rw [pBin, hs1]; exact hO1⟩
    · exact absurd hv3 (by decide)
  · have hp1 : RPok a1 tw1 b L b1 op ∧ v1 = vE F c1 := by rw [hs1] at hq1; exact hq1
    obtain ⟨hO1, hv1e⟩ := hp1
    have hF1 := hF.fr A1
    have hg1 := hG p (by omega) _ _ hs1
    obtain ⟨hy1, ⟨t251, t241, t231, t21, t31⟩, t271, t281⟩ := id hO1
    obtain ⟨f01, hx11, hx12, hx13, hx14, hx15, hx16⟩ := id hy1
    have hk91 := tkK_lt (L := L) (p := b1)
    refine x_istore_n dX8_both_4 (by decide) rfl ?_
    refine x_lv (lv' := [some (.ref 1000), some (.int v1), none]) rfl ?_
    have hL := hx3
    rw [pBin, hs1]
    exact le_both hC hG hd 160 b1 c1 v1 a1 tw1 s1 R1 hO1 hF1 (FrA.rf.tr A1) hg1.2.2 hv1e (by omega) (by omega)
theorem e_both {L : List Nat} {sb : Nat → PR} {op kd : Nat} (hC : CE kd M_X8_not op L sb) (hG : ∀ p, p ≤ L.length → Good L p (sb p)) : CE (kd + 3) M_X8_both op L (pBin op9 L sb) := fun σ0 σ a tw b F p a1 a2 a3 a4 => e_both0 hC hG a1 a2 a3 a4
set_option maxHeartbeats 4000000 in
theorem le_either {σ0 : ZS} {a0 : Nat → Int32} {b : Nat → List Int32} {F : List Int32} {L : List Nat} {sb : Nat → PR} {op kd : Nat} (hC : CE kd M_X8_both op L sb) (hG : ∀ p, p ≤ L.length → Good L p (sb p)) {d : Nat} (hd : kd + 3 ≤ d) : ∀ (f p : Nat) (s : List Nat) (v : Int32) (a : Nat → Int32) (tw : Int64) (σ : ZS) (hR : RM σ0 σ a tw b) (hO : RPok a tw b L p op) (hF : FF a F) (hA : FrA a0 a) (hgs : gd s) (hve : v = vE F s), L.length ≤ p + f → p ≤ L.length → X M_X8_either d 0 0 (fun r9 σ' => ∃ (v' : Int32) (a' : Nat → Int32) (tw' : Int64), r9 = some (.int v') ∧ RM σ0 σ' a' tw' b ∧ FrA a0 a' ∧ RPr a' tw' b L op F v' (pLp op8 L sb f s p)) 0 0 5 [some (.ref 1000), some (.int v), none] [] σ := by
  intro f
  induction f with
  | zero =>
    intro p s v a tw σ hR hO hF hA hgs hve hfu hk
    obtain ⟨hy, ⟨t25, t24, t23, t2, t3⟩, t27, t28⟩ := id hO
    obtain ⟨f0, hx1, hx2, hx3, hx4, hx5, hx6⟩ := id hy
    have hk9 := tkK_lt (L := L) (p := p)
    have hlp := lexP_b hk
    have hnp := tkN_b hk
    have hpe := pend (L := L) (p := p) (by omega)
    refine x_aload_n dX8_either_5 rfl ?_
    refine x_bipush (v := nI 111) dX8_either_6 (by decide) ?_
    refine x_bipush (v := nI 114) dX8_either_8 (by decide) ?_
    refine x_iconst (v := nI 0) dX8_either_10 (by decide) ?_
    refine x_iconst (v := nI 0) dX8_either_11 (by decide) ?_
    refine x_iconst (v := nI 0) dX8_either_12 (by decide) ?_
    refine x_iconst (v := nI 0) dX8_either_13 (by decide) ?_
    refine x_iconst (v := nI 0) dX8_either_14 (by decide) ?_
    refine x_iconst (v := nI 0) dX8_either_15 (by decide) ?_
    refine x_callV m_X8_isWord l_X8_190 (r_isKey hR hO (by omega) (k := 3) (by omega)) rfl hR.2.1 (by omega) rfl rfl (Nat.le_of_ble_eq_true rfl) ⟨Nat.le_refl _, Nat.le_refl _⟩ dX8_either_16 (fun r1 s1 q1 => ?_)
    obtain ⟨rfl, eq1⟩ := q1
    obtain rfl := eq1.symm
    refine x_stk (st' := [.int (bI (decide (tkK L p = 5 + 3)))]) rfl ?_
    refine x_ifP_eq (P := tkK L p = 5 + 3) inferInstance (tgt := 48) dX8_either_19 (by decide) (fun hv2 => ?_) (fun hv2 => ?_)
    · refine x_iload_n dX8_either_48 rfl ?_
      exact x_iret ⟨Nat.le_refl _, Nat.le_refl _⟩ rfl dX8_either_49 ⟨v, _, _, rfl, hR, hA, hO, hve⟩
    · exact absurd hv2 (by omega)
  | succ f ih =>
    intro p s v a tw σ hR hO hF hA hgs hve hfu hk
    obtain ⟨hy, ⟨t25, t24, t23, t2, t3⟩, t27, t28⟩ := id hO
    obtain ⟨f0, hx1, hx2, hx3, hx4, hx5, hx6⟩ := id hy
    have hk9 := tkK_lt (L := L) (p := p)
    have hlp := lexP_b hk
    have hnp := tkN_b hk
    refine x_aload_n dX8_either_5 rfl ?_
    refine x_bipush (v := nI 111) dX8_either_6 (by decide) ?_
    refine x_bipush (v := nI 114) dX8_either_8 (by decide) ?_
    refine x_iconst (v := nI 0) dX8_either_10 (by decide) ?_
    refine x_iconst (v := nI 0) dX8_either_11 (by decide) ?_
    refine x_iconst (v := nI 0) dX8_either_12 (by decide) ?_
    refine x_iconst (v := nI 0) dX8_either_13 (by decide) ?_
    refine x_iconst (v := nI 0) dX8_either_14 (by decide) ?_
    refine x_iconst (v := nI 0) dX8_either_15 (by decide) ?_
    refine x_callV m_X8_isWord l_X8_190 (r_isKey hR hO (by omega) (k := 3) (by omega)) rfl hR.2.1 (by omega) rfl rfl (Nat.le_of_ble_eq_true rfl) ⟨Nat.le_refl _, Nat.le_refl _⟩ dX8_either_16 (fun r1 s1 q1 => ?_)
    obtain ⟨rfl, eq1⟩ := q1
    obtain rfl := eq1.symm
    refine x_stk (st' := [.int (bI (decide (tkK L p = 5 + 3)))]) rfl ?_
    refine x_ifP_eq (P := tkK L p = 5 + 3) inferInstance (tgt := 48) dX8_either_19 (by decide) (fun hv2 => ?_) (fun hv2 => ?_)
    · refine x_iload_n dX8_either_48 rfl ?_
      exact x_iret ⟨Nat.le_refl _, Nat.le_refl _⟩ rfl dX8_either_49 ⟨v, _, _, rfl, hR, hA, by rw [pLp, if_neg (show ¬ op8 (tkK L p) = true from fun e => by have := eq_of_beq e; omega)]; exact ⟨hO, hve⟩⟩
    · refine x_aload_n dX8_either_22 rfl ?_
      refine x_callV m_X8_next l_X8_187 (r_next hR hy (t23 (show rK L p ≠ 4 from fun q9 => by have := rK4 q9; omega)) (tkN_b (show p ≤ L.length by omega)).2.1) rfl hR.2.1 (by omega) rfl rfl (Nat.le_of_ble_eq_true rfl) ⟨Nat.le_refl _, Nat.le_refl _⟩ dX8_either_23 (fun r3 s3 q3 => ?_)
      obtain ⟨rfl, a3, tw3, R3, N3, K3⟩ := q3
      have A3 := N3.A
      have hO3 : RPok a3 tw3 b L (tkN L p) op := ⟨hy.fr A3, K3, (N3 27 (by omega)).trans t27, (N3 28 (by omega)).trans t28⟩
      have hF3 := hF.fr A3
      have hn3 := tkN_b (show p ≤ L.length by omega)
      have hl3 := lexP_b (show p ≤ L.length by omega)
      obtain ⟨hy3, ⟨t253, t243, t233, t23, t33⟩, t273, t283⟩ := id hO3
      obtain ⟨f03, hx31, hx32, hx33, hx34, hx35, hx36⟩ := id hy3
      refine x_stk (st' := []) rfl ?_
      refine x_aload_n dX8_either_26 rfl ?_
      refine x_callV m_X8_both l_X8_242 (hC _ _ _ _ _ F (tkN L p) R3 hO3 (by omega) hF3) rfl R3.2.1 (by omega) rfl rfl (Nat.le_of_ble_eq_true rfl) ⟨Nat.le_refl _, Nat.le_refl _⟩ dX8_either_27 (fun r4 s4 q4 => ?_)
      obtain ⟨v4, a4, tw4, rfl, R4, A4, hq4⟩ := q4
      refine x_stk (st' := [.int v4]) rfl ?_
      rcases hs4 : sb (tkN L p) with e4 | ⟨c4, b4⟩
      · have hO4 : RPft a4 e4 := by rw [hs4] at hq4; exact hq4
        obtain ⟨t284, t294⟩ := id hO4
        refine x_istore_n dX8_either_30 (by decide) rfl ?_
        refine x_lv (lv' := [some (.ref 1000), some (.int v), some (.int v4)]) rfl ?_
        refine x_iload_n dX8_either_31 rfl ?_
        refine x_ifT_ne (p := (v).toInt) (tgt := 39) rfl dX8_either_32 (by decide) (fun hv5 => ?_) (fun hv5 => ?_)
        · refine x_iconst (v := nI 1) dX8_either_39 (by decide) ?_
          refine x_goto (tgt := 44) dX8_either_40 (by decide) ?_
          refine x_istore_n dX8_either_44 (by decide) rfl ?_
          refine x_lv (lv' := [some (.ref 1000), some (.int (nI 1)), some (.int v4)]) rfl ?_
          refine x_goto (tgt := 5) dX8_either_45 (by decide) ?_
          refine x_aload_n dX8_either_5 rfl ?_
          refine x_bipush (v := nI 111) dX8_either_6 (by decide) ?_
          refine x_bipush (v := nI 114) dX8_either_8 (by decide) ?_
          refine x_iconst (v := nI 0) dX8_either_10 (by decide) ?_
          refine x_iconst (v := nI 0) dX8_either_11 (by decide) ?_
          refine x_iconst (v := nI 0) dX8_either_12 (by decide) ?_
          refine x_iconst (v := nI 0) dX8_either_13 (by decide) ?_
          refine x_iconst (v := nI 0) dX8_either_14 (by decide) ?_
          refine x_iconst (v := nI 0) dX8_either_15 (by decide) ?_
          refine x_callV m_X8_isWord l_X8_190 (r_isWord_ft R4 hO4) rfl R4.2.1 (by omega) rfl rfl (Nat.le_of_ble_eq_true rfl) ⟨Nat.le_refl _, Nat.le_refl _⟩ dX8_either_16 (fun r306 s306 q306 => ?_)
          obtain ⟨rfl, eq306⟩ := q306
          obtain rfl := eq306.symm
          refine x_stk (st' := [.int (nI 0)]) rfl ?_
          refine x_ifN_eq (tgt := 48) dX8_either_19 (by decide) (by omega) (fun hv307 => ?_) (fun hv307 => ?_)
          · refine x_iload_n dX8_either_48 rfl ?_
            exact x_iret ⟨Nat.le_refl _, Nat.le_refl _⟩ rfl dX8_either_49 ⟨_, _, _, rfl, R4, ((hA.tr A3).tr A4), by rw [pLp, if_pos (show op8 (tkK L p) = true from beq_iff_eq.mpr (by omega)), hs4]; exact hO4⟩
          · exact absurd hv307 (by decide)
        · refine x_iload_n dX8_either_35 rfl ?_
          refine x_ifT_eq (p := (v4).toInt) (tgt := 43) rfl dX8_either_36 (by decide) (fun hv6 => ?_) (fun hv6 => ?_)
          · refine x_iconst (v := nI 0) dX8_either_43 (by decide) ?_
            refine x_istore_n dX8_either_44 (by decide) rfl ?_
            refine x_lv (lv' := [some (.ref 1000), some (.int (nI 0)), some (.int v4)]) rfl ?_
            refine x_goto (tgt := 5) dX8_either_45 (by decide) ?_
            refine x_aload_n dX8_either_5 rfl ?_
            refine x_bipush (v := nI 111) dX8_either_6 (by decide) ?_
            refine x_bipush (v := nI 114) dX8_either_8 (by decide) ?_
            refine x_iconst (v := nI 0) dX8_either_10 (by decide) ?_
            refine x_iconst (v := nI 0) dX8_either_11 (by decide) ?_
            refine x_iconst (v := nI 0) dX8_either_12 (by decide) ?_
            refine x_iconst (v := nI 0) dX8_either_13 (by decide) ?_
            refine x_iconst (v := nI 0) dX8_either_14 (by decide) ?_
            refine x_iconst (v := nI 0) dX8_either_15 (by decide) ?_
            refine x_callV m_X8_isWord l_X8_190 (r_isWord_ft R4 hO4) rfl R4.2.1 (by omega) rfl rfl (Nat.le_of_ble_eq_true rfl) ⟨Nat.le_refl _, Nat.le_refl _⟩ dX8_either_16 (fun r307 s307 q307 => ?_)
            obtain ⟨rfl, eq307⟩ := q307
            obtain rfl := eq307.symm
            refine x_stk (st' := [.int (nI 0)]) rfl ?_
            refine x_ifN_eq (tgt := 48) dX8_either_19 (by decide) (by omega) (fun hv308 => ?_) (fun hv308 => ?_)
            · refine x_iload_n dX8_either_48 rfl ?_
              exact x_iret ⟨Nat.le_refl _, Nat.le_refl _⟩ rfl dX8_either_49 ⟨_, _, _, rfl, R4, ((hA.tr A3).tr A4), by rw [pLp, if_pos (show op8 (tkK L p) = true from beq_iff_eq.mpr (by omega)), hs4]; exact hO4⟩
            · exact absurd hv308 (by decide)
          · refine x_iconst (v := nI 1) dX8_either_39 (by decide) ?_
            refine x_goto (tgt := 44) dX8_either_40 (by decide) ?_
            refine x_istore_n dX8_either_44 (by decide) rfl ?_
            refine x_lv (lv' := [some (.ref 1000), some (.int (nI 1)), some (.int v4)]) rfl ?_
            refine x_goto (tgt := 5) dX8_either_45 (by decide) ?_
            refine x_aload_n dX8_either_5 rfl ?_
            refine x_bipush (v := nI 111) dX8_either_6 (by decide) ?_
            refine x_bipush (v := nI 114) dX8_either_8 (by decide) ?_
            refine x_iconst (v := nI 0) dX8_either_10 (by decide) ?_
            refine x_iconst (v := nI 0) dX8_either_11 (by decide) ?_
            refine x_iconst (v := nI 0) dX8_either_12 (by decide) ?_
            refine x_iconst (v := nI 0) dX8_either_13 (by decide) ?_
            refine x_iconst (v := nI 0) dX8_either_14 (by decide) ?_
            refine x_iconst (v := nI 0) dX8_either_15 (by decide) ?_
            refine x_callV m_X8_isWord l_X8_190 (r_isWord_ft R4 hO4) rfl R4.2.1 (by omega) rfl rfl (Nat.le_of_ble_eq_true rfl) ⟨Nat.le_refl _, Nat.le_refl _⟩ dX8_either_16 (fun r307 s307 q307 => ?_)
            obtain ⟨rfl, eq307⟩ := q307
            obtain rfl := eq307.symm
            refine x_stk (st' := [.int (nI 0)]) rfl ?_
            refine x_ifN_eq (tgt := 48) dX8_either_19 (by decide) (by omega) (fun hv308 => ?_) (fun hv308 => ?_)
            · refine x_iload_n dX8_either_48 rfl ?_
              exact x_iret ⟨Nat.le_refl _, Nat.le_refl _⟩ rfl dX8_either_49 ⟨_, _, _, rfl, R4, ((hA.tr A3).tr A4), by rw [pLp, if_pos (show op8 (tkK L p) = true from beq_iff_eq.mpr (by omega)), hs4]; exact hO4⟩
            · exact absurd hv308 (by decide)
      · have hp4 : RPok a4 tw4 b L b4 op ∧ v4 = vE F c4 := by rw [hs4] at hq4; exact hq4
        obtain ⟨hO4, hv4e⟩ := hp4
        have hF4 := hF3.fr A4
        have hg4 := hG (tkN L p) (by omega) _ _ hs4
        obtain ⟨hy4, ⟨t254, t244, t234, t24, t34⟩, t274, t284⟩ := id hO4
        obtain ⟨f04, hx41, hx42, hx43, hx44, hx45, hx46⟩ := id hy4
        have hk94 := tkK_lt (L := L) (p := b4)
        refine x_istore_n dX8_either_30 (by decide) rfl ?_
        refine x_lv (lv' := [some (.ref 1000), some (.int v), some (.int v4)]) rfl ?_
        refine x_iload_n dX8_either_31 rfl ?_
        refine x_ifT_ne (p := (v).toInt) (tgt := 39) rfl dX8_either_32 (by decide) (fun hv7 => ?_) (fun hv7 => ?_)
        · refine x_iconst (v := nI 1) dX8_either_39 (by decide) ?_
          refine x_goto (tgt := 44) dX8_either_40 (by decide) ?_
          refine x_istore_n dX8_either_44 (by decide) rfl ?_
          refine x_lv (lv' := [some (.ref 1000), some (.int (nI 1)), some (.int v4)]) rfl ?_
          refine x_goto (tgt := 5) dX8_either_45 (by decide) ?_
          refine x_drop 2 ?_
          rw [pLp, if_pos (show op8 (tkK L p) = true from beq_iff_eq.mpr (by omega)), hs4]
          exact ih b4 (s ++ c4 ++ [20000 + tkK L p]) (nI 1) a4 tw4 s4 R4 hO4 hF4 ((hA.tr A3).tr A4) (gd_jn hgs hg4.2.2 (by omega)) (by rw [vE_jn hgs.2 hg4.2.2.2 (by omega) (by omega), Nat.add_sub_cancel_left, (show tkK L p = 8 by omega), ← hve, ← hv4e]; exact (jn8_1 (Or.inl hv7)).symm) (by omega) (by omega)
        · refine x_iload_n dX8_either_35 rfl ?_
          refine x_ifT_eq (p := (v4).toInt) (tgt := 43) rfl dX8_either_36 (by decide) (fun hv8 => ?_) (fun hv8 => ?_)
          · refine x_iconst (v := nI 0) dX8_either_43 (by decide) ?_
            refine x_istore_n dX8_either_44 (by decide) rfl ?_
            refine x_lv (lv' := [some (.ref 1000), some (.int (nI 0)), some (.int v4)]) rfl ?_
            refine x_goto (tgt := 5) dX8_either_45 (by decide) ?_
            refine x_drop 2 ?_
            rw [pLp, if_pos (show op8 (tkK L p) = true from beq_iff_eq.mpr (by omega)), hs4]
            exact ih b4 (s ++ c4 ++ [20000 + tkK L p]) (nI 0) a4 tw4 s4 R4 hO4 hF4 ((hA.tr A3).tr A4) (gd_jn hgs hg4.2.2 (by omega)) (by rw [vE_jn hgs.2 hg4.2.2.2 (by omega) (by omega), Nat.add_sub_cancel_left, (show tkK L p = 8 by omega), ← hve, ← hv4e]; exact (jn8_0 hv7 hv8).symm) (by omega) (by omega)
          · refine x_iconst (v := nI 1) dX8_either_39 (by decide) ?_
            refine x_goto (tgt := 44) dX8_either_40 (by decide) ?_
            refine x_istore_n dX8_either_44 (by decide) rfl ?_
            refine x_lv (lv' := [some (.ref 1000), some (.int (nI 1)), some (.int v4)]) rfl ?_
            refine x_goto (tgt := 5) dX8_either_45 (by decide) ?_
            refine x_drop 2 ?_
            rw [pLp, if_pos (show op8 (tkK L p) = true from beq_iff_eq.mpr (by omega)), hs4]
            exact ih b4 (s ++ c4 ++ [20000 + tkK L p]) (nI 1) a4 tw4 s4 R4 hO4 hF4 ((hA.tr A3).tr A4) (gd_jn hgs hg4.2.2 (by omega)) (by rw [vE_jn hgs.2 hg4.2.2.2 (by omega) (by omega), Nat.add_sub_cancel_left, (show tkK L p = 8 by omega), ← hve, ← hv4e]; exact (jn8_1 (Or.inr hv8)).symm) (by omega) (by omega)
set_option maxHeartbeats 4000000 in
theorem e_either0 {σ0 σ : ZS} {a : Nat → Int32} {tw : Int64} {b : Nat → List Int32} {L : List Nat} {sb : Nat → PR} {op kd p : Nat} {F : List Int32} (hC : CE kd M_X8_both op L sb) (hG : ∀ p, p ≤ L.length → Good L p (sb p)) (hR : RM σ0 σ a tw b) (hO : RPok a tw b L p op) (hp : p ≤ L.length) (hF : FF a F) : Cn (kd + 3) M_X8_either 0 0 [.ref 1000] σ (fun r9 σ' => ∃ (v : Int32) (a' : Nat → Int32) (tw' : Int64), r9 = some (.int v) ∧ RM σ0 σ' a' tw' b ∧ FrA a a' ∧ RPr a' tw' b L op F v (pBin op8 L sb p)) := by
  obtain ⟨hy, ⟨t25, t24, t23, t2, t3⟩, t27, t28⟩ := id hO
  obtain ⟨f0, hx1, hx2, hx3, hx4, hx5, hx6⟩ := id hy
  have hk9 := tkK_lt (L := L) (p := p)
  have hlp := lexP_b hp
  have hnp := tkN_b hp
  refine Cn.intro (lv0 := [some (.ref 1000), none, none]) rfl (Nat.le_of_ble_eq_true rfl) rfl (fun d hd => ?_)
  refine x_aload_n dX8_either_0 rfl ?_
  refine x_callV m_X8_both l_X8_242 (hC _ _ _ _ _ F p hR hO (by omega) hF) rfl hR.2.1 (by omega) rfl rfl (Nat.le_of_ble_eq_true rfl) ⟨Nat.le_refl _, Nat.le_refl _⟩ dX8_either_1 (fun r1 s1 q1 => ?_)
  obtain ⟨v1, a1, tw1, rfl, R1, A1, hq1⟩ := q1
  refine x_stk (st' := [.int v1]) rfl ?_
  rcases hs1 : sb p with e1 | ⟨c1, b1⟩
  · have hO1 : RPft a1 e1 := by rw [hs1] at hq1; exact hq1
    obtain ⟨t281, t291⟩ := id hO1
    refine x_istore_n dX8_either_4 (by decide) rfl ?_
    refine x_lv (lv' := [some (.ref 1000), some (.int v1), none]) rfl ?_
    refine x_aload_n dX8_either_5 rfl ?_
    refine x_bipush (v := nI 111) dX8_either_6 (by decide) ?_
    refine x_bipush (v := nI 114) dX8_either_8 (by decide) ?_
    refine x_iconst (v := nI 0) dX8_either_10 (by decide) ?_
    refine x_iconst (v := nI 0) dX8_either_11 (by decide) ?_
    refine x_iconst (v := nI 0) dX8_either_12 (by decide) ?_
    refine x_iconst (v := nI 0) dX8_either_13 (by decide) ?_
    refine x_iconst (v := nI 0) dX8_either_14 (by decide) ?_
    refine x_iconst (v := nI 0) dX8_either_15 (by decide) ?_
    refine x_callV m_X8_isWord l_X8_190 (r_isWord_ft R1 hO1) rfl R1.2.1 (by omega) rfl rfl (Nat.le_of_ble_eq_true rfl) ⟨Nat.le_refl _, Nat.le_refl _⟩ dX8_either_16 (fun r2 s2 q2 => ?_)
    obtain ⟨rfl, eq2⟩ := q2
    obtain rfl := eq2.symm
    refine x_stk (st' := [.int (nI 0)]) rfl ?_
    refine x_ifN_eq (tgt := 48) dX8_either_19 (by decide) (by omega) (fun hv3 => ?_) (fun hv3 => ?_)
    · refine x_iload_n dX8_either_48 rfl ?_
      exact x_iret ⟨Nat.le_refl _, Nat.le_refl _⟩ rfl dX8_either_49 ⟨_, _, _, rfl, R1, (FrA.rf.tr A1), by rw [pBin, hs1]; exact hO1⟩
    · exact absurd hv3 (by decide)
  · have hp1 : RPok a1 tw1 b L b1 op ∧ v1 = vE F c1 := by rw [hs1] at hq1; exact hq1
    obtain ⟨hO1, hv1e⟩ := hp1
    have hF1 := hF.fr A1
    have hg1 := hG p (by omega) _ _ hs1
    obtain ⟨hy1, ⟨t251, t241, t231, t21, t31⟩, t271, t281⟩ := id hO1
    obtain ⟨f01, hx11, hx12, hx13, hx14, hx15, hx16⟩ := id hy1
    have hk91 := tkK_lt (L := L) (p := b1)
    refine x_istore_n dX8_either_4 (by decide) rfl ?_
    refine x_lv (lv' := [some (.ref 1000), some (.int v1), none]) rfl ?_
    have hL := hx3
    rw [pBin, hs1]
    exact le_either hC hG hd 160 b1 c1 v1 a1 tw1 s1 R1 hO1 hF1 (FrA.rf.tr A1) hg1.2.2 hv1e (by omega) (by omega)
theorem e_either {L : List Nat} {sb : Nat → PR} {op kd : Nat} (hC : CE kd M_X8_both op L sb) (hG : ∀ p, p ≤ L.length → Good L p (sb p)) : CE (kd + 3) M_X8_either op L (pBin op8 L sb) := fun σ0 σ a tw b F p a1 a2 a3 a4 => e_either0 hC hG a1 a2 a3 a4
