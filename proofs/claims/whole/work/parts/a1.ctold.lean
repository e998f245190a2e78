/-! the class: told, count, feed, taken -/
theorem oI_m1 {x : Option Nat} (h : ∀ w, x = some w → w < 7) : (oI x).toInt = -1 ↔ x = none := by
  cases x with
  | none => exact ⟨fun _ => rfl, fun _ => by decide⟩
  | some w => exact ⟨fun q => absurd q (by rw [show (oI (some w)).toInt = ((w : Nat) : Int) from nI_toInt (by have := h w rfl; omega)]; omega), fun q => by cases q⟩
set_option maxHeartbeats 4000000 in
theorem c_one2 {σ : ZS} {tx ik : Int32} (k0 : zg σ 0 = some (.inr (.inr (6, [.ref 1, .ref 6, .ref 11, .ref 16, .ref 22, .ref 28, .ref 31, .int tx, .int ik])))) {rr dn ru n : Nat} {K N : List Nat} {W : List Int32} {D : List Nat} (h : Pa σ 1 (nI rr) (nI dn) (nI ru) n K N W D) {o : Nat} (ho : o < n) : Cn 3 M_X7_toldOfOne 0 0 [.ref 0, .int (nI o), .int (nI 2)] σ (fun r9 σ' => r9 = some (.int (toldV rr dn n K N W D o 2)) ∧ σ' = σ) := by
  obtain ⟨g0, g1, g2, g3, g4, hn7, hK7, hN7, hW7, hD49, hK5, hN9, hD999⟩ := id h
  refine Cn.intro (lv0 := [some (.ref 0), some (.int (nI o)), some (.int (nI 2))]) rfl (Nat.le_of_ble_eq_true rfl) rfl (fun d hd => ?_)
  refine x_iload_n dX7_toldOfOne_0 rfl ?_
  refine x_tableIn (tgt := 40) dX7_toldOfOne_1 (by decide) (by decide) rfl (by decide) ?_
  refine x_aload_n dX7_toldOfOne_40 rfl ?_
  refine x_get (v := .ref 1) f_X7_10 k0 rfl dX7_toldOfOne_41 ?_
  refine x_get (v := .ref 3) f_X7_86 g0 rfl dX7_toldOfOne_44 ?_
  refine x_iload_n dX7_toldOfOne_47 rfl ?_
  refine x_iald (n := o) g2 rfl (by simp only [List.length_map, List.length_set, *] <;> omega) dX7_toldOfOne_48 ?_
  refine x_topi (y := nI ((N.getD o 0))) gm_getD ?_
  exact x_iret ⟨Nat.le_refl _, Nat.le_refl _⟩ rfl dX7_toldOfOne_49 ⟨rfl, rfl⟩
set_option maxHeartbeats 4000000 in
theorem c_one3 {σ : ZS} {tx ik : Int32} (k0 : zg σ 0 = some (.inr (.inr (6, [.ref 1, .ref 6, .ref 11, .ref 16, .ref 22, .ref 28, .ref 31, .int tx, .int ik])))) {rr dn ru n : Nat} {K N : List Nat} {W : List Int32} {D : List Nat} (h : Pa σ 1 (nI rr) (nI dn) (nI ru) n K N W D) {o : Nat} (ho : o < n) : Cn 3 M_X7_toldOfOne 0 0 [.ref 0, .int (nI o), .int (nI 3)] σ (fun r9 σ' => r9 = some (.int (toldV rr dn n K N W D o 3)) ∧ σ' = σ) := by
  obtain ⟨g0, g1, g2, g3, g4, hn7, hK7, hN7, hW7, hD49, hK5, hN9, hD999⟩ := id h
  refine Cn.intro (lv0 := [some (.ref 0), some (.int (nI o)), some (.int (nI 3))]) rfl (Nat.le_of_ble_eq_true rfl) rfl (fun d hd => ?_)
  refine x_iload_n dX7_toldOfOne_0 rfl ?_
  refine x_tableIn (tgt := 50) dX7_toldOfOne_1 (by decide) (by decide) rfl (by decide) ?_
  refine x_aload_n dX7_toldOfOne_50 rfl ?_
  refine x_get (v := .ref 1) f_X7_10 k0 rfl dX7_toldOfOne_51 ?_
  refine x_get (v := .ref 4) f_X7_90 g0 rfl dX7_toldOfOne_54 ?_
  refine x_iload_n dX7_toldOfOne_57 rfl ?_
  refine x_iald (n := o) g3 rfl (by simp only [List.length_map, List.length_set, *] <;> omega) dX7_toldOfOne_58 ?_
  exact x_iret ⟨Nat.le_refl _, Nat.le_refl _⟩ rfl dX7_toldOfOne_59 ⟨rfl, rfl⟩
set_option maxHeartbeats 4000000 in
theorem c_one4 {σ : ZS} {tx ik : Int32} (k0 : zg σ 0 = some (.inr (.inr (6, [.ref 1, .ref 6, .ref 11, .ref 16, .ref 22, .ref 28, .ref 31, .int tx, .int ik])))) {rr dn ru n : Nat} {K N : List Nat} {W : List Int32} {D : List Nat} (h : Pa σ 1 (nI rr) (nI dn) (nI ru) n K N W D) {o : Nat} (ho : o < n) : Cn 3 M_X7_toldOfOne 0 0 [.ref 0, .int (nI o), .int (nI 4)] σ (fun r9 σ' => r9 = some (.int (toldV rr dn n K N W D o 4)) ∧ σ' = σ) := by
  obtain ⟨g0, g1, g2, g3, g4, hn7, hK7, hN7, hW7, hD49, hK5, hN9, hD999⟩ := id h
  refine Cn.intro (lv0 := [some (.ref 0), some (.int (nI o)), some (.int (nI 4))]) rfl (Nat.le_of_ble_eq_true rfl) rfl (fun d hd => ?_)
  refine x_iload_n dX7_toldOfOne_0 rfl ?_
  refine x_tableIn (tgt := 60) dX7_toldOfOne_1 (by decide) (by decide) rfl (by decide) ?_
  refine x_aload_n dX7_toldOfOne_60 rfl ?_
  refine x_get (v := .ref 1) f_X7_10 k0 rfl dX7_toldOfOne_61 ?_
  refine x_get (v := .ref 2) f_X7_118 g0 rfl dX7_toldOfOne_64 ?_
  refine x_iload_n dX7_toldOfOne_67 rfl ?_
  refine x_iald (n := o) g1 rfl (by simp only [List.length_map, List.length_set, *] <;> omega) dX7_toldOfOne_68 ?_
  refine x_topi (y := nI ((K.getD o 0))) gm_getD ?_
  exact x_iret ⟨Nat.le_refl _, Nat.le_refl _⟩ rfl dX7_toldOfOne_69 ⟨rfl, rfl⟩
set_option maxHeartbeats 4000000 in
theorem c_one5 {σ : ZS} {tx ik : Int32} (k0 : zg σ 0 = some (.inr (.inr (6, [.ref 1, .ref 6, .ref 11, .ref 16, .ref 22, .ref 28, .ref 31, .int tx, .int ik])))) {rr dn ru n : Nat} {K N : List Nat} {W : List Int32} {D : List Nat} (h : Pa σ 1 (nI rr) (nI dn) (nI ru) n K N W D) {o : Nat} (ho : o < n) : Cn 3 M_X7_toldOfOne 0 0 [.ref 0, .int (nI o), .int (nI 5)] σ (fun r9 σ' => r9 = some (.int (toldV rr dn n K N W D o 5)) ∧ σ' = σ) := by
  obtain ⟨g0, g1, g2, g3, g4, hn7, hK7, hN7, hW7, hD49, hK5, hN9, hD999⟩ := id h
  refine Cn.intro (lv0 := [some (.ref 0), some (.int (nI o)), some (.int (nI 5))]) rfl (Nat.le_of_ble_eq_true rfl) rfl (fun d hd => ?_)
  refine x_iload_n dX7_toldOfOne_0 rfl ?_
  refine x_tableIn (tgt := 70) dX7_toldOfOne_1 (by decide) (by decide) rfl (by decide) ?_
  refine x_aload_n dX7_toldOfOne_70 rfl ?_
  refine x_get (v := .ref 1) f_X7_10 k0 rfl dX7_toldOfOne_71 ?_
  refine x_iload_n dX7_toldOfOne_74 rfl ?_
  refine x_aload_n dX7_toldOfOne_75 rfl ?_
  refine x_get (v := .ref 1) f_X7_10 k0 rfl dX7_toldOfOne_76 ?_
  refine x_callV m_X2_everybody l_X7_121 (c_everybody h) rfl g0 (by omega) rfl rfl (Nat.le_of_ble_eq_true rfl) ⟨Nat.le_refl _, Nat.le_refl _⟩ dX7_toldOfOne_79 (fun r1 s1 q1 => ?_)
  obtain ⟨rfl, eq1⟩ := q1
  obtain rfl := eq1.symm
  refine x_stk (st' := [.int (nI ((2 ^ n - 1))), .int (nI o), .ref 1]) rfl ?_
  refine x_callV m_X2_creditor l_X7_125 (c_creditor h (by omega) (by have := Nat.pow_le_pow_right (n := 2) (by decide) hn7; omega)) rfl g0 (by omega) rfl rfl (Nat.le_of_ble_eq_true rfl) ⟨Nat.le_refl _, Nat.le_refl _⟩ dX7_toldOfOne_82 (fun r2 s2 q2 => ?_)
  obtain ⟨rfl, eq2⟩ := q2
  obtain rfl := eq2.symm
  refine x_stk (st' := [.int ((oI (cred D n o (2 ^ n - 1))))]) rfl ?_
  exact x_iret ⟨Nat.le_refl _, Nat.le_refl _⟩ rfl dX7_toldOfOne_85 ⟨rfl, rfl⟩
set_option maxHeartbeats 4000000 in
theorem c_one6 {σ : ZS} {tx ik : Int32} (k0 : zg σ 0 = some (.inr (.inr (6, [.ref 1, .ref 6, .ref 11, .ref 16, .ref 22, .ref 28, .ref 31, .int tx, .int ik])))) {rr dn ru n : Nat} {K N : List Nat} {W : List Int32} {D : List Nat} (h : Pa σ 1 (nI rr) (nI dn) (nI ru) n K N W D) {o : Nat} (ho : o < n) : Cn 3 M_X7_toldOfOne 0 0 [.ref 0, .int (nI o), .int (nI 6)] σ (fun r9 σ' => r9 = some (.int (toldV rr dn n K N W D o 6)) ∧ σ' = σ) := by
  obtain ⟨g0, g1, g2, g3, g4, hn7, hK7, hN7, hW7, hD49, hK5, hN9, hD999⟩ := id h
  refine Cn.intro (lv0 := [some (.ref 0), some (.int (nI o)), some (.int (nI 6))]) rfl (Nat.le_of_ble_eq_true rfl) rfl (fun d hd => ?_)
  refine x_iload_n dX7_toldOfOne_0 rfl ?_
  refine x_tableIn (tgt := 86) dX7_toldOfOne_1 (by decide) (by decide) rfl (by decide) ?_
  refine x_aload_n dX7_toldOfOne_86 rfl ?_
  refine x_get (v := .ref 1) f_X7_10 k0 rfl dX7_toldOfOne_87 ?_
  refine x_iload_n dX7_toldOfOne_90 rfl ?_
  refine x_aload_n dX7_toldOfOne_91 rfl ?_
  refine x_get (v := .ref 1) f_X7_10 k0 rfl dX7_toldOfOne_92 ?_
  refine x_callV m_X2_everybody l_X7_121 (c_everybody h) rfl g0 (by omega) rfl rfl (Nat.le_of_ble_eq_true rfl) ⟨Nat.le_refl _, Nat.le_refl _⟩ dX7_toldOfOne_95 (fun r1 s1 q1 => ?_)
  obtain ⟨rfl, eq1⟩ := q1
  obtain rfl := eq1.symm
  refine x_stk (st' := [.int (nI ((2 ^ n - 1))), .int (nI o), .ref 1]) rfl ?_
  refine x_callV m_X2_wish l_X7_128 (c_wish h (by omega) (by have := Nat.pow_le_pow_right (n := 2) (by decide) hn7; omega)) rfl g0 (by omega) rfl rfl (Nat.le_of_ble_eq_true rfl) ⟨Nat.le_refl _, Nat.le_refl _⟩ dX7_toldOfOne_98 (fun r2 s2 q2 => ?_)
  obtain ⟨rfl, eq2⟩ := q2
  obtain rfl := eq2.symm
  refine x_stk (st' := [.int ((oI (wishO K N D n o (2 ^ n - 1))))]) rfl ?_
  refine x_iconst (v := (-1)) dX7_toldOfOne_101 (by decide) ?_
  refine x_icmpT_ne (p := ((oI (wishO K N D n o (2 ^ n - 1)))).toInt) (q := (-1)) (tgt := 109) rfl (by decide) dX7_toldOfOne_102 (by decide) (fun hv3 => ?_) (fun hv3 => ?_)
  · refine x_iconst (v := nI 1) dX7_toldOfOne_109 (by decide) ?_
    exact x_iret ⟨Nat.le_refl _, Nat.le_refl _⟩ rfl dX7_toldOfOne_110 ⟨by rw [show toldV rr dn n K N W D o 6 = (if wishO K N D n o (2 ^ n - 1) = none then nI 0 else nI 1) from rfl, if_neg (fun q => hv3 ((oI_m1 (fun w hw => Nat.lt_of_lt_of_le (wishO_lt hw).1 hn7)).mpr q))], rfl⟩
  · refine x_iconst (v := nI 0) dX7_toldOfOne_105 (by decide) ?_
    refine x_goto (tgt := 110) dX7_toldOfOne_106 (by decide) ?_
    exact x_iret ⟨Nat.le_refl _, Nat.le_refl _⟩ rfl dX7_toldOfOne_110 ⟨by rw [show toldV rr dn n K N W D o 6 = (if wishO K N D n o (2 ^ n - 1) = none then nI 0 else nI 1) from rfl, if_pos ((oI_m1 (fun w hw => Nat.lt_of_lt_of_le (wishO_lt hw).1 hn7)).mp hv3)], rfl⟩
set_option maxHeartbeats 4000000 in
theorem c_one7 {σ : ZS} {tx ik : Int32} (k0 : zg σ 0 = some (.inr (.inr (6, [.ref 1, .ref 6, .ref 11, .ref 16, .ref 22, .ref 28, .ref 31, .int tx, .int ik])))) {rr dn ru n : Nat} {K N : List Nat} {W : List Int32} {D : List Nat} (h : Pa σ 1 (nI rr) (nI dn) (nI ru) n K N W D) {o : Nat} (ho : o < n) : Cn 3 M_X7_toldOfOne 0 0 [.ref 0, .int (nI o), .int (nI 7)] σ (fun r9 σ' => r9 = some (.int (toldV rr dn n K N W D o 7)) ∧ σ' = σ) := by
  obtain ⟨g0, g1, g2, g3, g4, hn7, hK7, hN7, hW7, hD49, hK5, hN9, hD999⟩ := id h
  refine Cn.intro (lv0 := [some (.ref 0), some (.int (nI o)), some (.int (nI 7))]) rfl (Nat.le_of_ble_eq_true rfl) rfl (fun d hd => ?_)
  refine x_iload_n dX7_toldOfOne_0 rfl ?_
  refine x_tableIn (tgt := 111) dX7_toldOfOne_1 (by decide) (by decide) rfl (by decide) ?_
  refine x_aload_n dX7_toldOfOne_111 rfl ?_
  refine x_get (v := .ref 1) f_X7_10 k0 rfl dX7_toldOfOne_112 ?_
  refine x_iload_n dX7_toldOfOne_115 rfl ?_
  refine x_callV m_X2_owesInAll l_X7_131 (c_owesInAll h (by omega)) rfl g0 (by omega) rfl rfl (Nat.le_of_ble_eq_true rfl) ⟨Nat.le_refl _, Nat.le_refl _⟩ dX7_toldOfOne_116 (fun r1 s1 q1 => ?_)
  obtain ⟨rfl, eq1⟩ := q1
  obtain rfl := eq1.symm
  refine x_stk (st' := [.int (nI ((rowS D o n)))]) rfl ?_
  exact x_iret ⟨Nat.le_refl _, Nat.le_refl _⟩ rfl dX7_toldOfOne_119 ⟨rfl, rfl⟩
set_option maxHeartbeats 4000000 in
theorem c_oneN {σ : ZS} {tx ik : Int32} (k0 : zg σ 0 = some (.inr (.inr (6, [.ref 1, .ref 6, .ref 11, .ref 16, .ref 22, .ref 28, .ref 31, .int tx, .int ik])))) {rr dn ru n : Nat} {K N : List Nat} {W : List Int32} {D : List Nat} (h : Pa σ 1 (nI rr) (nI dn) (nI ru) n K N W D) {o : Nat} (ho : o < n) {w : Nat} (hw : 10 ≤ w) (hw2 : w < 10 + n) : Cn 3 M_X7_toldOfOne 0 0 [.ref 0, .int (nI o), .int (nI w)] σ (fun r9 σ' => r9 = some (.int (toldV rr dn n K N W D o w)) ∧ σ' = σ) := by
  obtain ⟨g0, g1, g2, g3, g4, hn7, hK7, hN7, hW7, hD49, hK5, hN9, hD999⟩ := id h
  refine Cn.intro (lv0 := [some (.ref 0), some (.int (nI o)), some (.int (nI w))]) rfl (Nat.le_of_ble_eq_true rfl) rfl (fun d hd => ?_)
  refine x_iload_n dX7_toldOfOne_0 rfl ?_
  refine x_tableOut (tgt := 120) dX7_toldOfOne_1 (Or.inr (by rw [nI_toInt (by omega)]; omega)) (by decide) ?_
  refine x_iload_n dX7_toldOfOne_120 rfl ?_
  refine x_bipush (v := nI 10) dX7_toldOfOne_121 (by decide) ?_
  refine x_bipush (v := nI 16) dX7_toldOfOne_123 (by decide) ?_
  refine x_callS m_X7_isWithin l_X7_72 (c_within (p := ((w : Nat) : Int)) (q := ((10 : Nat) : Int)) (r := ((16 : Nat) : Int)) (nI_toInt (by omega)) (nI_toInt (by omega)) (nI_toInt (by omega))) (by omega) rfl rfl (Nat.le_of_ble_eq_true rfl) ⟨Nat.le_refl _, Nat.le_refl _⟩ dX7_toldOfOne_125 (fun r1 s1 q1 => ?_)
  obtain ⟨rfl, eq1⟩ := q1
  obtain rfl := eq1.symm
  refine x_stk (st' := [.int (bI (decide (((10 : Nat) : Int) ≤ ((w : Nat) : Int) ∧ ((w : Nat) : Int) ≤ ((16 : Nat) : Int))))]) rfl ?_
  refine x_ifP_eq (P := ((10 : Nat) : Int) ≤ ((w : Nat) : Int) ∧ ((w : Nat) : Int) ≤ ((16 : Nat) : Int)) inferInstance (tgt := 160) dX7_toldOfOne_128 (by decide) (fun hv2 => ?_) (fun hv2 => ?_)
  · exact absurd hv2 (by omega)
  · refine x_aload_n dX7_toldOfOne_131 rfl ?_
    refine x_get (v := .ref 1) f_X7_10 k0 rfl dX7_toldOfOne_132 ?_
    refine x_iload_n dX7_toldOfOne_135 rfl ?_
    refine x_bipush (v := nI 10) dX7_toldOfOne_136 (by decide) ?_
    refine x_isubN (by omega) dX7_toldOfOne_138 ?_
    refine x_callV m_X2_has l_X7_82 (c_hasP h (p := ((w - 10 : Nat) : Int)) (nI_toInt (by omega))) rfl g0 (by omega) rfl rfl (Nat.le_of_ble_eq_true rfl) ⟨Nat.le_refl _, Nat.le_refl _⟩ dX7_toldOfOne_139 (fun r3 s3 q3 => ?_)
    obtain ⟨rfl, eq3⟩ := q3
    obtain rfl := eq3.symm
    refine x_stk (st' := [.int (bI (decide (0 ≤ ((w - 10 : Nat) : Int) ∧ ((w - 10 : Nat) : Int) < (n : Int))))]) rfl ?_
    refine x_ifP_eq (P := 0 ≤ ((w - 10 : Nat) : Int) ∧ ((w - 10 : Nat) : Int) < (n : Int)) inferInstance (tgt := 160) dX7_toldOfOne_142 (by decide) (fun hv4 => ?_) (fun hv4 => ?_)
    · exact absurd hv4 (by omega)
    · refine x_aload_n dX7_toldOfOne_145 rfl ?_
      refine x_get (v := .ref 1) f_X7_10 k0 rfl dX7_toldOfOne_146 ?_
      refine x_iload_n dX7_toldOfOne_149 rfl ?_
      refine x_iload_n dX7_toldOfOne_150 rfl ?_
      refine x_bipush (v := nI 10) dX7_toldOfOne_151 (by decide) ?_
      refine x_isubN (by omega) dX7_toldOfOne_153 ?_
      refine x_callV m_X2_debt l_X7_108 (c_debt h (by omega) (by omega)) rfl g0 (by omega) rfl rfl (Nat.le_of_ble_eq_true rfl) ⟨Nat.le_refl _, Nat.le_refl _⟩ dX7_toldOfOne_154 (fun r5 s5 q5 => ?_)
      obtain ⟨rfl, eq5⟩ := q5
      obtain rfl := eq5.symm
      refine x_stk (st' := [.int (nI ((D.getD (o * 7 + (w - 10)) 0)))]) rfl ?_
      refine x_goto (tgt := 162) dX7_toldOfOne_157 (by decide) ?_
      exact x_iret ⟨Nat.le_refl _, Nat.le_refl _⟩ rfl dX7_toldOfOne_162 ⟨by rw [toldV, if_neg (by omega), if_neg (by omega), if_neg (by omega), if_neg (by omega), if_neg (by omega), if_neg (by omega), if_neg (by omega), if_neg (by omega)], rfl⟩
theorem subY10 {y : Int32} (h : 10 ≤ y.toInt ∧ y.toInt ≤ 16) : (y - nI 10).toInt = y.toInt - 10 := by
  rw [ni_of (x := y) (by omega), nI_toInt (by omega), pk_sub (by omega), nI_toInt (by omega)]
  omega
set_option maxHeartbeats 4000000 in
theorem c_one_b {σ : ZS} {tx ik : Int32} (k0 : zg σ 0 = some (.inr (.inr (6, [.ref 1, .ref 6, .ref 11, .ref 16, .ref 22, .ref 28, .ref 31, .int tx, .int ik])))) {rr dn ru n : Nat} {K N : List Nat} {W : List Int32} {D : List Nat} (h : Pa σ 1 (nI rr) (nI dn) (nI ru) n K N W D) {x y : Int32} (hb : ¬ (2 ≤ y.toInt ∧ y.toInt ≤ 7) ∧ ¬ (10 ≤ y.toInt ∧ y.toInt ≤ 16 ∧ y.toInt - 10 < (n : Int))) : Cn 3 M_X7_toldOfOne 0 0 [.ref 0, .int x, .int y] σ (fun r9 σ' => r9 = some (.int (-2)) ∧ σ' = σ) := by
  obtain ⟨g0, g1, g2, g3, g4, hn7, hK7, hN7, hW7, hD49, hK5, hN9, hD999⟩ := id h
  refine Cn.intro (lv0 := [some (.ref 0), some (.int x), some (.int y)]) rfl (Nat.le_of_ble_eq_true rfl) rfl (fun d hd => ?_)
  refine x_iload_n dX7_toldOfOne_0 rfl ?_
  refine x_tableOut (tgt := 120) dX7_toldOfOne_1 (by omega) (by decide) ?_
  refine x_iload_n dX7_toldOfOne_120 rfl ?_
  refine x_bipush (v := nI 10) dX7_toldOfOne_121 (by decide) ?_
  refine x_bipush (v := nI 16) dX7_toldOfOne_123 (by decide) ?_
  refine x_callS m_X7_isWithin l_X7_72 (c_within (p := (y).toInt) (q := ((10 : Nat) : Int)) (r := ((16 : Nat) : Int)) rfl (nI_toInt (by omega)) (nI_toInt (by omega))) (by omega) rfl rfl (Nat.le_of_ble_eq_true rfl) ⟨Nat.le_refl _, Nat.le_refl _⟩ dX7_toldOfOne_125 (fun r1 s1 q1 => ?_)
  obtain ⟨rfl, eq1⟩ := q1
  obtain rfl := eq1.symm
  refine x_stk (st' := [.int (bI (decide (((10 : Nat) : Int) ≤ (y).toInt ∧ (y).toInt ≤ ((16 : Nat) : Int))))]) rfl ?_
  refine x_ifP_eq (P := ((10 : Nat) : Int) ≤ (y).toInt ∧ (y).toInt ≤ ((16 : Nat) : Int)) inferInstance (tgt := 160) dX7_toldOfOne_128 (by decide) (fun hv2 => ?_) (fun hv2 => ?_)
  · refine x_bipush (v := (-2)) dX7_toldOfOne_160 (by decide) ?_
    exact x_iret ⟨Nat.le_refl _, Nat.le_refl _⟩ rfl dX7_toldOfOne_162 ⟨rfl, rfl⟩
  · refine x_aload_n dX7_toldOfOne_131 rfl ?_
    refine x_get (v := .ref 1) f_X7_10 k0 rfl dX7_toldOfOne_132 ?_
    refine x_iload_n dX7_toldOfOne_135 rfl ?_
    refine x_bipush (v := nI 10) dX7_toldOfOne_136 (by decide) ?_
    refine x_isub dX7_toldOfOne_138 ?_
    refine x_topi (y := (y - nI 10)) rfl ?_
    refine x_callV m_X2_has l_X7_82 (c_hasP h (p := y.toInt - 10) (subY10 (by omega))) rfl g0 (by omega) rfl rfl (Nat.le_of_ble_eq_true rfl) ⟨Nat.le_refl _, Nat.le_refl _⟩ dX7_toldOfOne_139 (fun r3 s3 q3 => ?_)
    obtain ⟨rfl, eq3⟩ := q3
    obtain rfl := eq3.symm
    refine x_stk (st' := [.int (bI (decide (0 ≤ y.toInt - 10 ∧ y.toInt - 10 < (n : Int))))]) rfl ?_
    refine x_ifP_eq (P := 0 ≤ y.toInt - 10 ∧ y.toInt - 10 < (n : Int)) inferInstance (tgt := 160) dX7_toldOfOne_142 (by decide) (fun hv4 => ?_) (fun hv4 => ?_)
    · refine x_bipush (v := (-2)) dX7_toldOfOne_160 (by decide) ?_
      exact x_iret ⟨Nat.le_refl _, Nat.le_refl _⟩ rfl dX7_toldOfOne_162 ⟨rfl, rfl⟩
    · exact absurd hv4 (by omega)
set_option maxHeartbeats 4000000 in
theorem c_told0 {σ : ZS} {tx ik : Int32} (k0 : zg σ 0 = some (.inr (.inr (6, [.ref 1, .ref 6, .ref 11, .ref 16, .ref 22, .ref 28, .ref 31, .int tx, .int ik])))) {rr dn ru n : Nat} {K N : List Nat} {W : List Int32} {D : List Nat} (h : Pa σ 1 (nI rr) (nI dn) (nI ru) n K N W D) {x : Int32} : Cn 4 M_X7_told 0 0 [.ref 0, .int x, .int (nI 0)] σ (fun r9 σ' => r9 = some (.int (nI rr)) ∧ σ' = σ) := by
  obtain ⟨g0, g1, g2, g3, g4, hn7, hK7, hN7, hW7, hD49, hK5, hN9, hD999⟩ := id h
  refine Cn.intro (lv0 := [some (.ref 0), some (.int x), some (.int (nI 0))]) rfl (Nat.le_of_ble_eq_true rfl) rfl (fun d hd => ?_)
  refine x_iload_n dX7_told_0 rfl ?_
  refine x_ifN_ne (tgt := 12) dX7_told_1 (by decide) (by omega) (fun hv1 => ?_) (fun hv1 => ?_)
  · exact absurd hv1 (by decide)
  · refine x_aload_n dX7_told_4 rfl ?_
    refine x_get (v := .ref 1) f_X7_10 k0 rfl dX7_told_5 ?_
    refine x_get (v := .int (nI rr)) f_X7_76 g0 rfl dX7_told_8 ?_
    exact x_iret ⟨Nat.le_refl _, Nat.le_refl _⟩ rfl dX7_told_11 ⟨rfl, rfl⟩
set_option maxHeartbeats 4000000 in
theorem c_told1 {σ : ZS} {tx ik : Int32} (k0 : zg σ 0 = some (.inr (.inr (6, [.ref 1, .ref 6, .ref 11, .ref 16, .ref 22, .ref 28, .ref 31, .int tx, .int ik])))) {rr dn ru n : Nat} {K N : List Nat} {W : List Int32} {D : List Nat} (h : Pa σ 1 (nI rr) (nI dn) (nI ru) n K N W D) {x : Int32} : Cn 4 M_X7_told 0 0 [.ref 0, .int x, .int (nI 1)] σ (fun r9 σ' => r9 = some (.int (nI dn)) ∧ σ' = σ) := by
  obtain ⟨g0, g1, g2, g3, g4, hn7, hK7, hN7, hW7, hD49, hK5, hN9, hD999⟩ := id h
  refine Cn.intro (lv0 := [some (.ref 0), some (.int x), some (.int (nI 1))]) rfl (Nat.le_of_ble_eq_true rfl) rfl (fun d hd => ?_)
  refine x_iload_n dX7_told_0 rfl ?_
  refine x_ifN_ne (tgt := 12) dX7_told_1 (by decide) (by omega) (fun hv1 => ?_) (fun hv1 => ?_)
  · refine x_iload_n dX7_told_12 rfl ?_
    refine x_iconst (v := nI 1) dX7_told_13 (by decide) ?_
    refine x_icmpN_ne (tgt := 25) dX7_told_14 (by decide) (by omega) (by omega) (fun hv2 => ?_) (fun hv2 => ?_)
    · exact absurd hv2 (by decide)
    · refine x_aload_n dX7_told_17 rfl ?_
      refine x_get (v := .ref 1) f_X7_10 k0 rfl dX7_told_18 ?_
      refine x_get (v := .int (nI dn)) f_X7_79 g0 rfl dX7_told_21 ?_
      exact x_iret ⟨Nat.le_refl _, Nat.le_refl _⟩ rfl dX7_told_24 ⟨rfl, rfl⟩
  · exact absurd hv1 (by decide)
set_option maxHeartbeats 4000000 in
theorem c_told2 {σ : ZS} {tx ik : Int32} (k0 : zg σ 0 = some (.inr (.inr (6, [.ref 1, .ref 6, .ref 11, .ref 16, .ref 22, .ref 28, .ref 31, .int tx, .int ik])))) {rr dn ru n : Nat} {K N : List Nat} {W : List Int32} {D : List Nat} (h : Pa σ 1 (nI rr) (nI dn) (nI ru) n K N W D) {o : Nat} (ho : o < n) : Cn 4 M_X7_told 0 0 [.ref 0, .int (nI o), .int (nI 2)] σ (fun r9 σ' => r9 = some (.int (toldV rr dn n K N W D o 2)) ∧ σ' = σ) := by
  obtain ⟨g0, g1, g2, g3, g4, hn7, hK7, hN7, hW7, hD49, hK5, hN9, hD999⟩ := id h
  refine Cn.intro (lv0 := [some (.ref 0), some (.int (nI o)), some (.int (nI 2))]) rfl (Nat.le_of_ble_eq_true rfl) rfl (fun d hd => ?_)
  refine x_iload_n dX7_told_0 rfl ?_
  refine x_ifN_ne (tgt := 12) dX7_told_1 (by decide) (by omega) (fun hv1 => ?_) (fun hv1 => ?_)
  · refine x_iload_n dX7_told_12 rfl ?_
    refine x_iconst (v := nI 1) dX7_told_13 (by decide) ?_
    refine x_icmpN_ne (tgt := 25) dX7_told_14 (by decide) (by omega) (by omega) (fun hv2 => ?_) (fun hv2 => ?_)
    · refine x_aload_n dX7_told_25 rfl ?_
      refine x_get (v := .ref 1) f_X7_10 k0 rfl dX7_told_26 ?_
      refine x_iload_n dX7_told_29 rfl ?_
      refine x_callV m_X2_has l_X7_82 (c_hasP h (p := ((o : Nat) : Int)) (nI_toInt (by omega))) rfl g0 (by omega) rfl rfl (Nat.le_of_ble_eq_true rfl) ⟨Nat.le_refl _, Nat.le_refl _⟩ dX7_told_30 (fun r3 s3 q3 => ?_)
      obtain ⟨rfl, eq3⟩ := q3
      obtain rfl := eq3.symm
      refine x_stk (st' := [.int (bI (decide (0 ≤ ((o : Nat) : Int) ∧ ((o : Nat) : Int) < (n : Int))))]) rfl ?_
      refine x_ifP_eq (P := 0 ≤ ((o : Nat) : Int) ∧ ((o : Nat) : Int) < (n : Int)) inferInstance (tgt := 45) dX7_told_33 (by decide) (fun hv4 => ?_) (fun hv4 => ?_)
      · exact absurd hv4 (by omega)
      · refine x_aload_n dX7_told_36 rfl ?_
        refine x_iload_n dX7_told_37 rfl ?_
        refine x_iload_n dX7_told_38 rfl ?_
        refine x_callV m_X7_toldOfOne l_X7_115 (c_one2 k0 h ho) rfl k0 (by omega) rfl rfl (Nat.le_of_ble_eq_true rfl) ⟨Nat.le_refl _, Nat.le_refl _⟩ dX7_told_39 (fun r5 s5 q5 => ?_)
        obtain ⟨rfl, eq5⟩ := q5
        obtain rfl := eq5.symm
        refine x_stk (st' := [.int ((toldV rr dn n K N W D o 2))]) rfl ?_
        refine x_goto (tgt := 47) dX7_told_42 (by decide) ?_
        exact x_iret ⟨Nat.le_refl _, Nat.le_refl _⟩ rfl dX7_told_47 ⟨rfl, rfl⟩
    · exact absurd hv2 (by decide)
  · exact absurd hv1 (by decide)
set_option maxHeartbeats 4000000 in
theorem c_told3 {σ : ZS} {tx ik : Int32} (k0 : zg σ 0 = some (.inr (.inr (6, [.ref 1, .ref 6, .ref 11, .ref 16, .ref 22, .ref 28, .ref 31, .int tx, .int ik])))) {rr dn ru n : Nat} {K N : List Nat} {W : List Int32} {D : List Nat} (h : Pa σ 1 (nI rr) (nI dn) (nI ru) n K N W D) {o : Nat} (ho : o < n) : Cn 4 M_X7_told 0 0 [.ref 0, .int (nI o), .int (nI 3)] σ (fun r9 σ' => r9 = some (.int (toldV rr dn n K N W D o 3)) ∧ σ' = σ) := by
  obtain ⟨g0, g1, g2, g3, g4, hn7, hK7, hN7, hW7, hD49, hK5, hN9, hD999⟩ := id h
  refine Cn.intro (lv0 := [some (.ref 0), some (.int (nI o)), some (.int (nI 3))]) rfl (Nat.le_of_ble_eq_true rfl) rfl (fun d hd => ?_)
  refine x_iload_n dX7_told_0 rfl ?_
  refine x_ifN_ne (tgt := 12) dX7_told_1 (by decide) (by omega) (fun hv1 => ?_) (fun hv1 => ?_)
  · refine x_iload_n dX7_told_12 rfl ?_
    refine x_iconst (v := nI 1) dX7_told_13 (by decide) ?_
    refine x_icmpN_ne (tgt := 25) dX7_told_14 (by decide) (by omega) (by omega) (fun hv2 => ?_) (fun hv2 => ?_)
    · refine x_aload_n dX7_told_25 rfl ?_
      refine x_get (v := .ref 1) f_X7_10 k0 rfl dX7_told_26 ?_
      refine x_iload_n dX7_told_29 rfl ?_
      refine x_callV m_X2_has l_X7_82 (c_hasP h (p := ((o : Nat) : Int)) (nI_toInt (by omega))) rfl g0 (by omega) rfl rfl (Nat.le_of_ble_eq_true rfl) ⟨Nat.le_refl _, Nat.le_refl _⟩ dX7_told_30 (fun r3 s3 q3 => ?_)
      obtain ⟨rfl, eq3⟩ := q3
      obtain rfl := eq3.symm
      refine x_stk (st' := [.int (bI (decide (0 ≤ ((o : Nat) : Int) ∧ ((o : Nat) : Int) < (n : Int))))]) rfl ?_
      refine x_ifP_eq (P := 0 ≤ ((o : Nat) : Int) ∧ ((o : Nat) : Int) < (n : Int)) inferInstance (tgt := 45) dX7_told_33 (by decide) (fun hv4 => ?_) (fun hv4 => ?_)
      · exact absurd hv4 (by omega)
      · refine x_aload_n dX7_told_36 rfl ?_
        refine x_iload_n dX7_told_37 rfl ?_
        refine x_iload_n dX7_told_38 rfl ?_
        refine x_callV m_X7_toldOfOne l_X7_115 (c_one3 k0 h ho) rfl k0 (by omega) rfl rfl (Nat.le_of_ble_eq_true rfl) ⟨Nat.le_refl _, Nat.le_refl _⟩ dX7_told_39 (fun r5 s5 q5 => ?_)
        obtain ⟨rfl, eq5⟩ := q5
        obtain rfl := eq5.symm
        refine x_stk (st' := [.int ((toldV rr dn n K N W D o 3))]) rfl ?_
        refine x_goto (tgt := 47) dX7_told_42 (by decide) ?_
        exact x_iret ⟨Nat.le_refl _, Nat.le_refl _⟩ rfl dX7_told_47 ⟨rfl, rfl⟩
    · exact absurd hv2 (by decide)
  · exact absurd hv1 (by decide)
set_option maxHeartbeats 4000000 in
theorem c_told4 {σ : ZS} {tx ik : Int32} (k0 : zg σ 0 = some (.inr (.inr (6, [.ref 1, .ref 6, .ref 11, .ref 16, .ref 22, .ref 28, .ref 31, .int tx, .int ik])))) {rr dn ru n : Nat} {K N : List Nat} {W : List Int32} {D : List Nat} (h : Pa σ 1 (nI rr) (nI dn) (nI ru) n K N W D) {o : Nat} (ho : o < n) : Cn 4 M_X7_told 0 0 [.ref 0, .int (nI o), .int (nI 4)] σ (fun r9 σ' => r9 = some (.int (toldV rr dn n K N W D o 4)) ∧ σ' = σ) := by
  obtain ⟨g0, g1, g2, g3, g4, hn7, hK7, hN7, hW7, hD49, hK5, hN9, hD999⟩ := id h
  refine Cn.intro (lv0 := [some (.ref 0), some (.int (nI o)), some (.int (nI 4))]) rfl (Nat.le_of_ble_eq_true rfl) rfl (fun d hd => ?_)
  refine x_iload_n dX7_told_0 rfl ?_
  refine x_ifN_ne (tgt := 12) dX7_told_1 (by decide) (by omega) (fun hv1 => ?_) (fun hv1 => ?_)
  · refine x_iload_n dX7_told_12 rfl ?_
    refine x_iconst (v := nI 1) dX7_told_13 (by decide) ?_
    refine x_icmpN_ne (tgt := 25) dX7_told_14 (by decide) (by omega) (by omega) (fun hv2 => ?_) (fun hv2 => ?_)
    · refine x_aload_n dX7_told_25 rfl ?_
      refine x_get (v := .ref 1) f_X7_10 k0 rfl dX7_told_26 ?_
      refine x_iload_n dX7_told_29 rfl ?_
      refine x_callV m_X2_has l_X7_82 (c_hasP h (p := ((o : Nat) : Int)) (nI_toInt (by omega))) rfl g0 (by omega) rfl rfl (Nat.le_of_ble_eq_true rfl) ⟨Nat.le_refl _, Nat.le_refl _⟩ dX7_told_30 (fun r3 s3 q3 => ?_)
      obtain ⟨rfl, eq3⟩ := q3
      obtain rfl := eq3.symm
      refine x_stk (st' := [.int (bI (decide (0 ≤ ((o : Nat) : Int) ∧ ((o : Nat) : Int) < (n : Int))))]) rfl ?_
      refine x_ifP_eq (P := 0 ≤ ((o : Nat) : Int) ∧ ((o : Nat) : Int) < (n : Int)) inferInstance (tgt := 45) dX7_told_33 (by decide) (fun hv4 => ?_) (fun hv4 => ?_)
      · exact absurd hv4 (by omega)
      · refine x_aload_n dX7_told_36 rfl ?_
        refine x_iload_n dX7_told_37 rfl ?_
        refine x_iload_n dX7_told_38 rfl ?_
        refine x_callV m_X7_toldOfOne l_X7_115 (c_one4 k0 h ho) rfl k0 (by omega) rfl rfl (Nat.le_of_ble_eq_true rfl) ⟨Nat.le_refl _, Nat.le_refl _⟩ dX7_told_39 (fun r5 s5 q5 => ?_)
        obtain ⟨rfl, eq5⟩ := q5
        obtain rfl := eq5.symm
        refine x_stk (st' := [.int ((toldV rr dn n K N W D o 4))]) rfl ?_
        refine x_goto (tgt := 47) dX7_told_42 (by decide) ?_
        exact x_iret ⟨Nat.le_refl _, Nat.le_refl _⟩ rfl dX7_told_47 ⟨rfl, rfl⟩
    · exact absurd hv2 (by decide)
  · exact absurd hv1 (by decide)
set_option maxHeartbeats 4000000 in
theorem c_told5 {σ : ZS} {tx ik : Int32} (k0 : zg σ 0 = some (.inr (.inr (6, [.ref 1, .ref 6, .ref 11, .ref 16, .ref 22, .ref 28, .ref 31, .int tx, .int ik])))) {rr dn ru n : Nat} {K N : List Nat} {W : List Int32} {D : List Nat} (h : Pa σ 1 (nI rr) (nI dn) (nI ru) n K N W D) {o : Nat} (ho : o < n) : Cn 4 M_X7_told 0 0 [.ref 0, .int (nI o), .int (nI 5)] σ (fun r9 σ' => r9 = some (.int (toldV rr dn n K N W D o 5)) ∧ σ' = σ) := by
  obtain ⟨g0, g1, g2, g3, g4, hn7, hK7, hN7, hW7, hD49, hK5, hN9, hD999⟩ := id h
  refine Cn.intro (lv0 := [some (.ref 0), some (.int (nI o)), some (.int (nI 5))]) rfl (Nat.le_of_ble_eq_true rfl) rfl (fun d hd => ?_)
  refine x_iload_n dX7_told_0 rfl ?_
  refine x_ifN_ne (tgt := 12) dX7_told_1 (by decide) (by omega) (fun hv1 => ?_) (fun hv1 => ?_)
  · refine x_iload_n dX7_told_12 rfl ?_
    refine x_iconst (v := nI 1) dX7_told_13 (by decide) ?_
    refine x_icmpN_ne (tgt := 25) dX7_told_14 (by decide) (by omega) (by omega) (fun hv2 => ?_) (fun hv2 => ?_)
    · refine x_aload_n dX7_told_25 rfl ?_
      refine x_get (v := .ref 1) f_X7_10 k0 rfl dX7_told_26 ?_
      refine x_iload_n dX7_told_29 rfl ?_
      refine x_callV m_X2_has l_X7_82 (c_hasP h (p := ((o : Nat) : Int)) (nI_toInt (by omega))) rfl g0 (by omega) rfl rfl (Nat.le_of_ble_eq_true rfl) ⟨Nat.le_refl _, Nat.le_refl _⟩ dX7_told_30 (fun r3 s3 q3 => ?_)
      obtain ⟨rfl, eq3⟩ := q3
      obtain rfl := eq3.symm
      refine x_stk (st' := [.int (bI (decide (0 ≤ ((o : Nat) : Int) ∧ ((o : Nat) : Int) < (n : Int))))]) rfl ?_
      refine x_ifP_eq (P := 0 ≤ ((o : Nat) : Int) ∧ ((o : Nat) : Int) < (n : Int)) inferInstance (tgt := 45) dX7_told_33 (by decide) (fun hv4 => ?_) (fun hv4 => ?_)
      · exact absurd hv4 (by omega)
      · refine x_aload_n dX7_told_36 rfl ?_
        refine x_iload_n dX7_told_37 rfl ?_
        refine x_iload_n dX7_told_38 rfl ?_
        refine x_callV m_X7_toldOfOne l_X7_115 (c_one5 k0 h ho) rfl k0 (by omega) rfl rfl (Nat.le_of_ble_eq_true rfl) ⟨Nat.le_refl _, Nat.le_refl _⟩ dX7_told_39 (fun r5 s5 q5 => ?_)
        obtain ⟨rfl, eq5⟩ := q5
        obtain rfl := eq5.symm
        refine x_stk (st' := [.int ((toldV rr dn n K N W D o 5))]) rfl ?_
        refine x_goto (tgt := 47) dX7_told_42 (by decide) ?_
        exact x_iret ⟨Nat.le_refl _, Nat.le_refl _⟩ rfl dX7_told_47 ⟨rfl, rfl⟩
    · exact absurd hv2 (by decide)
  · exact absurd hv1 (by decide)
set_option maxHeartbeats 4000000 in
theorem c_told6 {σ : ZS} {tx ik : Int32} (k0 : zg σ 0 = some (.inr (.inr (6, [.ref 1, .ref 6, .ref 11, .ref 16, .ref 22, .ref 28, .ref 31, .int tx, .int ik])))) {rr dn ru n : Nat} {K N : List Nat} {W : List Int32} {D : List Nat} (h : Pa σ 1 (nI rr) (nI dn) (nI ru) n K N W D) {o : Nat} (ho : o < n) : Cn 4 M_X7_told 0 0 [.ref 0, .int (nI o), .int (nI 6)] σ (fun r9 σ' => r9 = some (.int (toldV rr dn n K N W D o 6)) ∧ σ' = σ) := by
  obtain ⟨g0, g1, g2, g3, g4, hn7, hK7, hN7, hW7, hD49, hK5, hN9, hD999⟩ := id h
  refine Cn.intro (lv0 := [some (.ref 0), some (.int (nI o)), some (.int (nI 6))]) rfl (Nat.le_of_ble_eq_true rfl) rfl (fun d hd => ?_)
  refine x_iload_n dX7_told_0 rfl ?_
  refine x_ifN_ne (tgt := 12) dX7_told_1 (by decide) (by omega) (fun hv1 => ?_) (fun hv1 => ?_)
  · refine x_iload_n dX7_told_12 rfl ?_
    refine x_iconst (v := nI 1) dX7_told_13 (by decide) ?_
    refine x_icmpN_ne (tgt := 25) dX7_told_14 (by decide) (by omega) (by omega) (fun hv2 => ?_) (fun hv2 => ?_)
    · refine x_aload_n dX7_told_25 rfl ?_
      refine x_get (v := .ref 1) f_X7_10 k0 rfl dX7_told_26 ?_
      refine x_iload_n dX7_told_29 rfl ?_
      refine x_callV m_X2_has l_X7_82 (c_hasP h (p := ((o : Nat) : Int)) (nI_toInt (by omega))) rfl g0 (by omega) rfl rfl (Nat.le_of_ble_eq_true rfl) ⟨Nat.le_refl _, Nat.le_refl _⟩ dX7_told_30 (fun r3 s3 q3 => ?_)
      obtain ⟨rfl, eq3⟩ := q3
      obtain rfl := eq3.symm
      refine x_stk (st' := [.int (bI (decide (0 ≤ ((o : Nat) : Int) ∧ ((o : Nat) : Int) < (n : Int))))]) rfl ?_
      refine x_ifP_eq (P := 0 ≤ ((o : Nat) : Int) ∧ ((o : Nat) : Int) < (n : Int)) inferInstance (tgt := 45) dX7_told_33 (by decide) (fun hv4 => ?_) (fun hv4 => ?_)
      · exact absurd hv4 (by omega)
      · refine x_aload_n dX7_told_36 rfl ?_
        refine x_iload_n dX7_told_37 rfl ?_
        refine x_iload_n dX7_told_38 rfl ?_
        refine x_callV m_X7_toldOfOne l_X7_115 (c_one6 k0 h ho) rfl k0 (by omega) rfl rfl (Nat.le_of_ble_eq_true rfl) ⟨Nat.le_refl _, Nat.le_refl _⟩ dX7_told_39 (fun r5 s5 q5 => ?_)
        obtain ⟨rfl, eq5⟩ := q5
        obtain rfl := eq5.symm
        refine x_stk (st' := [.int ((toldV rr dn n K N W D o 6))]) rfl ?_
        refine x_goto (tgt := 47) dX7_told_42 (by decide) ?_
        exact x_iret ⟨Nat.le_refl _, Nat.le_refl _⟩ rfl dX7_told_47 ⟨rfl, rfl⟩
    · exact absurd hv2 (by decide)
  · exact absurd hv1 (by decide)
set_option maxHeartbeats 4000000 in
theorem c_told7 {σ : ZS} {tx ik : Int32} (k0 : zg σ 0 = some (.inr (.inr (6, [.ref 1, .ref 6, .ref 11, .ref 16, .ref 22, .ref 28, .ref 31, .int tx, .int ik])))) {rr dn ru n : Nat} {K N : List Nat} {W : List Int32} {D : List Nat} (h : Pa σ 1 (nI rr) (nI dn) (nI ru) n K N W D) {o : Nat} (ho : o < n) : Cn 4 M_X7_told 0 0 [.ref 0, .int (nI o), .int (nI 7)] σ (fun r9 σ' => r9 = some (.int (toldV rr dn n K N W D o 7)) ∧ σ' = σ) := by
  obtain ⟨g0, g1, g2, g3, g4, hn7, hK7, hN7, hW7, hD49, hK5, hN9, hD999⟩ := id h
  refine Cn.intro (lv0 := [some (.ref 0), some (.int (nI o)), some (.int (nI 7))]) rfl (Nat.le_of_ble_eq_true rfl) rfl (fun d hd => ?_)
  refine x_iload_n dX7_told_0 rfl ?_
  refine x_ifN_ne (tgt := 12) dX7_told_1 (by decide) (by omega) (fun hv1 => ?_) (fun hv1 => ?_)
  · refine x_iload_n dX7_told_12 rfl ?_
    refine x_iconst (v := nI 1) dX7_told_13 (by decide) ?_
    refine x_icmpN_ne (tgt := 25) dX7_told_14 (by decide) (by omega) (by omega) (fun hv2 => ?_) (fun hv2 => ?_)
    · refine x_aload_n dX7_told_25 rfl ?_
      refine x_get (v := .ref 1) f_X7_10 k0 rfl dX7_told_26 ?_
      refine x_iload_n dX7_told_29 rfl ?_
      refine x_callV m_X2_has l_X7_82 (c_hasP h (p := ((o : Nat) : Int)) (nI_toInt (by omega))) rfl g0 (by omega) rfl rfl (Nat.le_of_ble_eq_true rfl) ⟨Nat.le_refl _, Nat.le_refl _⟩ dX7_told_30 (fun r3 s3 q3 => ?_)
      obtain ⟨rfl, eq3⟩ := q3
      obtain rfl := eq3.symm
      refine x_stk (st' := [.int (bI (decide (0 ≤ ((o : Nat) : Int) ∧ ((o : Nat) : Int) < (n : Int))))]) rfl ?_
      refine x_ifP_eq (P := 0 ≤ ((o : Nat) : Int) ∧ ((o : Nat) : Int) < (n : Int)) inferInstance (tgt := 45) dX7_told_33 (by decide) (fun hv4 => ?_) (fun hv4 => ?_)
      · exact absurd hv4 (by omega)
      · refine x_aload_n dX7_told_36 rfl ?_
        refine x_iload_n dX7_told_37 rfl ?_
        refine x_iload_n dX7_told_38 rfl ?_
        refine x_callV m_X7_toldOfOne l_X7_115 (c_one7 k0 h ho) rfl k0 (by omega) rfl rfl (Nat.le_of_ble_eq_true rfl) ⟨Nat.le_refl _, Nat.le_refl _⟩ dX7_told_39 (fun r5 s5 q5 => ?_)
        obtain ⟨rfl, eq5⟩ := q5
        obtain rfl := eq5.symm
        refine x_stk (st' := [.int ((toldV rr dn n K N W D o 7))]) rfl ?_
        refine x_goto (tgt := 47) dX7_told_42 (by decide) ?_
        exact x_iret ⟨Nat.le_refl _, Nat.le_refl _⟩ rfl dX7_told_47 ⟨rfl, rfl⟩
    · exact absurd hv2 (by decide)
  · exact absurd hv1 (by decide)
set_option maxHeartbeats 4000000 in
theorem c_toldN {σ : ZS} {tx ik : Int32} (k0 : zg σ 0 = some (.inr (.inr (6, [.ref 1, .ref 6, .ref 11, .ref 16, .ref 22, .ref 28, .ref 31, .int tx, .int ik])))) {rr dn ru n : Nat} {K N : List Nat} {W : List Int32} {D : List Nat} (h : Pa σ 1 (nI rr) (nI dn) (nI ru) n K N W D) {o : Nat} (ho : o < n) {w : Nat} (hw : 10 ≤ w) (hw2 : w < 10 + n) : Cn 4 M_X7_told 0 0 [.ref 0, .int (nI o), .int (nI w)] σ (fun r9 σ' => r9 = some (.int (toldV rr dn n K N W D o w)) ∧ σ' = σ) := by
  obtain ⟨g0, g1, g2, g3, g4, hn7, hK7, hN7, hW7, hD49, hK5, hN9, hD999⟩ := id h
  refine Cn.intro (lv0 := [some (.ref 0), some (.int (nI o)), some (.int (nI w))]) rfl (Nat.le_of_ble_eq_true rfl) rfl (fun d hd => ?_)
  refine x_iload_n dX7_told_0 rfl ?_
  refine x_ifN_ne (tgt := 12) dX7_told_1 (by decide) (by omega) (fun hv1 => ?_) (fun hv1 => ?_)
  · refine x_iload_n dX7_told_12 rfl ?_
    refine x_iconst (v := nI 1) dX7_told_13 (by decide) ?_
    refine x_icmpN_ne (tgt := 25) dX7_told_14 (by decide) (by omega) (by omega) (fun hv2 => ?_) (fun hv2 => ?_)
    · refine x_aload_n dX7_told_25 rfl ?_
      refine x_get (v := .ref 1) f_X7_10 k0 rfl dX7_told_26 ?_
      refine x_iload_n dX7_told_29 rfl ?_
      refine x_callV m_X2_has l_X7_82 (c_hasP h (p := ((o : Nat) : Int)) (nI_toInt (by omega))) rfl g0 (by omega) rfl rfl (Nat.le_of_ble_eq_true rfl) ⟨Nat.le_refl _, Nat.le_refl _⟩ dX7_told_30 (fun r3 s3 q3 => ?_)
      obtain ⟨rfl, eq3⟩ := q3
      obtain rfl := eq3.symm
      refine x_stk (st' := [.int (bI (decide (0 ≤ ((o : Nat) : Int) ∧ ((o : Nat) : Int) < (n : Int))))]) rfl ?_
      refine x_ifP_eq (P := 0 ≤ ((o : Nat) : Int) ∧ ((o : Nat) : Int) < (n : Int)) inferInstance (tgt := 45) dX7_told_33 (by decide) (fun hv4 => ?_) (fun hv4 => ?_)
      · exact absurd hv4 (by omega)
      · refine x_aload_n dX7_told_36 rfl ?_
        refine x_iload_n dX7_told_37 rfl ?_
        refine x_iload_n dX7_told_38 rfl ?_
        refine x_callV m_X7_toldOfOne l_X7_115 (c_oneN k0 h ho hw hw2) rfl k0 (by omega) rfl rfl (Nat.le_of_ble_eq_true rfl) ⟨Nat.le_refl _, Nat.le_refl _⟩ dX7_told_39 (fun r5 s5 q5 => ?_)
        obtain ⟨rfl, eq5⟩ := q5
        obtain rfl := eq5.symm
        refine x_stk (st' := [.int ((toldV rr dn n K N W D o w))]) rfl ?_
        refine x_goto (tgt := 47) dX7_told_42 (by decide) ?_
        exact x_iret ⟨Nat.le_refl _, Nat.le_refl _⟩ rfl dX7_told_47 ⟨rfl, rfl⟩
    · exact absurd hv2 (by omega)
  · exact absurd hv1 (by omega)
set_option maxHeartbeats 4000000 in
theorem c_told_b {σ : ZS} {tx ik : Int32} (k0 : zg σ 0 = some (.inr (.inr (6, [.ref 1, .ref 6, .ref 11, .ref 16, .ref 22, .ref 28, .ref 31, .int tx, .int ik])))) {rr dn ru n : Nat} {K N : List Nat} {W : List Int32} {D : List Nat} (h : Pa σ 1 (nI rr) (nI dn) (nI ru) n K N W D) {x y : Int32} (hb : (¬ (0 ≤ y.toInt ∧ y.toInt ≤ 7) ∧ ¬ (10 ≤ y.toInt ∧ y.toInt ≤ 16 ∧ y.toInt - 10 < (n : Int))) ∨ (1 < y.toInt ∧ ¬ (0 ≤ x.toInt ∧ x.toInt < (n : Int)))) : Cn 4 M_X7_told 0 0 [.ref 0, .int x, .int y] σ (fun r9 σ' => r9 = some (.int (-2)) ∧ σ' = σ) := by
  obtain ⟨g0, g1, g2, g3, g4, hn7, hK7, hN7, hW7, hD49, hK5, hN9, hD999⟩ := id h
  refine Cn.intro (lv0 := [some (.ref 0), some (.int x), some (.int y)]) rfl (Nat.le_of_ble_eq_true rfl) rfl (fun d hd => ?_)
  refine x_iload_n dX7_told_0 rfl ?_
  refine x_ifT_ne (p := (y).toInt) (tgt := 12) rfl dX7_told_1 (by decide) (fun hv1 => ?_) (fun hv1 => ?_)
  · refine x_iload_n dX7_told_12 rfl ?_
    refine x_iconst (v := nI 1) dX7_told_13 (by decide) ?_
    refine x_icmpT_ne (p := (y).toInt) (q := ((1 : Nat) : Int)) (tgt := 25) rfl (nI_toInt (by omega)) dX7_told_14 (by decide) (fun hv2 => ?_) (fun hv2 => ?_)
    · refine x_aload_n dX7_told_25 rfl ?_
      refine x_get (v := .ref 1) f_X7_10 k0 rfl dX7_told_26 ?_
      refine x_iload_n dX7_told_29 rfl ?_
      refine x_callV m_X2_has l_X7_82 (c_hasP h (p := (x).toInt) rfl) rfl g0 (by omega) rfl rfl (Nat.le_of_ble_eq_true rfl) ⟨Nat.le_refl _, Nat.le_refl _⟩ dX7_told_30 (fun r3 s3 q3 => ?_)
      obtain ⟨rfl, eq3⟩ := q3
      obtain rfl := eq3.symm
      refine x_stk (st' := [.int (bI (decide (0 ≤ (x).toInt ∧ (x).toInt < (n : Int))))]) rfl ?_
      refine x_ifP_eq (P := 0 ≤ (x).toInt ∧ (x).toInt < (n : Int)) inferInstance (tgt := 45) dX7_told_33 (by decide) (fun hv4 => ?_) (fun hv4 => ?_)
      · refine x_bipush (v := (-2)) dX7_told_45 (by decide) ?_
        exact x_iret ⟨Nat.le_refl _, Nat.le_refl _⟩ rfl dX7_told_47 ⟨rfl, rfl⟩
      · refine x_aload_n dX7_told_36 rfl ?_
        refine x_iload_n dX7_told_37 rfl ?_
        refine x_iload_n dX7_told_38 rfl ?_
        refine x_callV m_X7_toldOfOne l_X7_115 (c_one_b k0 h (by omega)) rfl k0 (by omega) rfl rfl (Nat.le_of_ble_eq_true rfl) ⟨Nat.le_refl _, Nat.le_refl _⟩ dX7_told_39 (fun r5 s5 q5 => ?_)
        obtain ⟨rfl, eq5⟩ := q5
        obtain rfl := eq5.symm
        refine x_stk (st' := [.int ((-2))]) rfl ?_
        refine x_goto (tgt := 47) dX7_told_42 (by decide) ?_
        exact x_iret ⟨Nat.le_refl _, Nat.le_refl _⟩ rfl dX7_told_47 ⟨rfl, rfl⟩
    · exact absurd hv2 (by omega)
  · exact absurd hv1 (by omega)
set_option maxHeartbeats 4000000 in
theorem c_countN {σ : ZS} {m : Nat} {ik : Int32} (k0 : zg σ 0 = some (.inr (.inr (6, [.ref 1, .ref 6, .ref 11, .ref 16, .ref 22, .ref 28, .ref 31, .int (nI m), .int ik])))) {rr dn ru n : Nat} {K N : List Nat} {W : List Int32} {D : List Nat} (h : Pa σ 1 (nI rr) (nI dn) (nI ru) n K N W D) {tc : Nat} {ap tk tp tv fa sc lf jf : Int32} {Tp St : List Int32} (hr : Rd σ (nI tc) ap tk tp tv fa sc lf jf Tp St) {w : Nat} (hw : w ≤ 6) : Cn 3 M_X7_count 0 0 [.ref 0, .int (nI w)] σ (fun r9 σ' => r9 = some (.int (cntV n dn m tc ru D ((w : Nat) : Int))) ∧ σ' = σ) := by
  obtain ⟨g0, g1, g2, g3, g4, hn7, hK7, hN7, hW7, hD49, hK5, hN9, hD999⟩ := id h
  obtain ⟨d0, d1, d2, lt1, lt2⟩ := id hr
  refine Cn.intro (lv0 := [some (.ref 0), some (.int (nI w))]) rfl (Nat.le_of_ble_eq_true rfl) rfl (fun d hd => ?_)
  refine x_iload_n dX7_count_0 rfl ?_
  rcases (show w = 0 ∨ w = 1 ∨ w = 2 ∨ w = 3 ∨ w = 4 ∨ w = 5 ∨ w = 6 by omega) with rfl | rfl | rfl | rfl | rfl | rfl | rfl
  · refine x_tableIn (tgt := 44) dX7_count_1 (by decide) (by decide) rfl (by decide) ?_
    refine x_aload_n dX7_count_44 rfl ?_
    refine x_get (v := .ref 1) f_X7_10 k0 rfl dX7_count_45 ?_
    refine x_get (v := .int (nI n)) f_X7_98 g0 rfl dX7_count_48 ?_
    exact x_iret ⟨Nat.le_refl _, Nat.le_refl _⟩ rfl dX7_count_51 ⟨rfl, rfl⟩
  · refine x_tableIn (tgt := 52) dX7_count_1 (by decide) (by decide) rfl (by decide) ?_
    refine x_aload_n dX7_count_52 rfl ?_
    refine x_get (v := .ref 1) f_X7_10 k0 rfl dX7_count_53 ?_
    refine x_callV m_X2_owed l_X7_176 (c_owed h) rfl g0 (by omega) rfl rfl (Nat.le_of_ble_eq_true rfl) ⟨Nat.le_refl _, Nat.le_refl _⟩ dX7_count_56 (fun r1 s1 q1 => ?_)
    obtain ⟨rfl, eq1⟩ := q1
    obtain rfl := eq1.symm
    refine x_stk (st' := [.int (nI ((allS D n n)))]) rfl ?_
    exact x_iret ⟨Nat.le_refl _, Nat.le_refl _⟩ rfl dX7_count_59 ⟨rfl, rfl⟩
  · refine x_tableIn (tgt := 60) dX7_count_1 (by decide) (by decide) rfl (by decide) ?_
    refine x_aload_n dX7_count_60 rfl ?_
    refine x_get (v := .ref 1) f_X7_10 k0 rfl dX7_count_61 ?_
    refine x_callV m_X2_ruined l_X7_245 (c_ruined h) rfl g0 (by omega) rfl rfl (Nat.le_of_ble_eq_true rfl) ⟨Nat.le_refl _, Nat.le_refl _⟩ dX7_count_64 (fun r2 s2 q2 => ?_)
    obtain ⟨rfl, eq2⟩ := q2
    obtain rfl := eq2.symm
    refine x_stk (st' := [.int (nI ((ruinS D n n)))]) rfl ?_
    exact x_iret ⟨Nat.le_refl _, Nat.le_refl _⟩ rfl dX7_count_67 ⟨rfl, rfl⟩
  · refine x_tableIn (tgt := 68) dX7_count_1 (by decide) (by decide) rfl (by decide) ?_
    refine x_aload_n dX7_count_68 rfl ?_
    refine x_get (v := .ref 1) f_X7_10 k0 rfl dX7_count_69 ?_
    refine x_get (v := .int (nI dn)) f_X7_79 g0 rfl dX7_count_72 ?_
    exact x_iret ⟨Nat.le_refl _, Nat.le_refl _⟩ rfl dX7_count_75 ⟨rfl, rfl⟩
  · refine x_tableIn (tgt := 76) dX7_count_1 (by decide) (by decide) rfl (by decide) ?_
    refine x_aload_n dX7_count_76 rfl ?_
    refine x_get (v := .int (nI m)) f_X7_49 k0 rfl dX7_count_77 ?_
    exact x_iret ⟨Nat.le_refl _, Nat.le_refl _⟩ rfl dX7_count_80 ⟨rfl, rfl⟩
  · refine x_tableIn (tgt := 81) dX7_count_1 (by decide) (by decide) rfl (by decide) ?_
    refine x_aload_n dX7_count_81 rfl ?_
    refine x_get (v := .ref 28) f_X7_39 k0 rfl dX7_count_82 ?_
    refine x_get (v := .int (nI tc)) f_X7_137 d0 rfl dX7_count_85 ?_
    exact x_iret ⟨Nat.le_refl _, Nat.le_refl _⟩ rfl dX7_count_88 ⟨rfl, rfl⟩
  · refine x_tableIn (tgt := 89) dX7_count_1 (by decide) (by decide) rfl (by decide) ?_
    refine x_aload_n dX7_count_89 rfl ?_
    refine x_get (v := .ref 1) f_X7_10 k0 rfl dX7_count_90 ?_
    refine x_get (v := .int (nI ru)) f_X7_151 g0 rfl dX7_count_93 ?_
    exact x_iret ⟨Nat.le_refl _, Nat.le_refl _⟩ rfl dX7_count_96 ⟨rfl, rfl⟩
set_option maxHeartbeats 4000000 in
theorem c_count_b {σ : ZS} {m : Nat} {ik : Int32} (k0 : zg σ 0 = some (.inr (.inr (6, [.ref 1, .ref 6, .ref 11, .ref 16, .ref 22, .ref 28, .ref 31, .int (nI m), .int ik])))) {rr dn ru n : Nat} {K N : List Nat} {W : List Int32} {D : List Nat} (h : Pa σ 1 (nI rr) (nI dn) (nI ru) n K N W D) {tc : Nat} {ap tk tp tv fa sc lf jf : Int32} {Tp St : List Int32} (hr : Rd σ (nI tc) ap tk tp tv fa sc lf jf Tp St) {w : Int32} (hw : ¬ (0 ≤ w.toInt ∧ w.toInt ≤ 6)) : Cn 3 M_X7_count 0 0 [.ref 0, .int w] σ (fun r9 σ' => r9 = some (.int (cntV n dn m tc ru D w.toInt)) ∧ σ' = σ) := by
  obtain ⟨g0, g1, g2, g3, g4, hn7, hK7, hN7, hW7, hD49, hK5, hN9, hD999⟩ := id h
  obtain ⟨d0, d1, d2, lt1, lt2⟩ := id hr
  refine Cn.intro (lv0 := [some (.ref 0), some (.int w)]) rfl (Nat.le_of_ble_eq_true rfl) rfl (fun d hd => ?_)
  refine x_iload_n dX7_count_0 rfl ?_
  refine x_tableOut (tgt := 97) dX7_count_1 (by omega) (by decide) ?_
  refine x_bipush (v := (-2)) dX7_count_97 (by decide) ?_
  exact x_iret ⟨Nat.le_refl _, Nat.le_refl _⟩ rfl dX7_count_99 ⟨by rw [cntV, if_neg (by omega), if_neg (by omega), if_neg (by omega), if_neg (by omega), if_neg (by omega), if_neg (by omega), if_neg (by omega)], rfl⟩
set_option maxHeartbeats 4000000 in
theorem c_take {σ : ZS} {tc : Nat} {ap tk tp tv fa sc lf jf : Int32} {Tp St : List Int32} (hr : Rd σ (nI tc) ap tk tp tv fa sc lf jf Tp St) (ht : tc < 160) {v : Nat} : Cn 0 M_X3_take 0 0 [.ref 28, .int (nI v)] σ (fun r9 σ' => r9 = some (.int (nI 1)) ∧ Rd σ' (nI (tc + 1)) ap tk tp tv fa sc lf jf (Tp.set tc (nI v)) St ∧ Fr (fun i => i = 28 ∨ i = 29) σ σ') := by
  obtain ⟨d0, d1, d2, lt1, lt2⟩ := id hr
  refine Cn.intro (lv0 := [some (.ref 28), some (.int (nI v))]) rfl (Nat.le_of_ble_eq_true rfl) rfl (fun d hd => ?_)
  refine x_aload_n dX3_take_0 rfl ?_
  refine x_get (v := .int (nI tc)) f_X3_15 d0 rfl dX3_take_1 ?_
  refine x_sipush (v := nI 160) dX3_take_4 (by decide) ?_
  refine x_icmpN_lt (tgt := 12) dX3_take_7 (by decide) (by omega) (by omega) (fun hv1 => ?_) (fun hv1 => ?_)
  · refine x_aload_n dX3_take_12 rfl ?_
    refine x_get (v := .ref 29) f_X3_11 d0 rfl dX3_take_13 ?_
    refine x_aload_n dX3_take_16 rfl ?_
    refine x_get (v := .int (nI tc)) f_X3_15 d0 rfl dX3_take_17 ?_
    refine x_iload_n dX3_take_20 rfl ?_
    refine x_iastK (n := tc) d1 rfl (by omega) dX3_take_21 (fun sw2 gw2 Fw2 => ?_)
    refine x_aload_n dX3_take_22 rfl ?_
    refine x_dup dX3_take_23 rfl ?_
    refine x_get (v := .int (nI tc)) f_X3_15 (Fw2.at (by omega) d0) rfl dX3_take_24 ?_
    refine x_iconst (v := nI 1) dX3_take_27 (by decide) ?_
    refine x_iaddN dX3_take_28 ?_
    refine x_putK f_X3_15 (Fw2.at (by omega) d0) (Nat.le_of_ble_eq_true rfl) (fun c => ⟨rfl, rfl⟩) dX3_take_29 (fun sw3 gw3 Fw3 => ?_)
    refine x_iconst (v := nI 1) dX3_take_32 (by decide) ?_
    exact x_zret ⟨Nat.le_refl _, Nat.le_refl _⟩ rfl (by decide) dX3_take_33 ⟨rfl, ⟨gw3, (Fw3.at (by omega) gw2), (Fw3.at (by omega) (Fw2.at (by omega) d2)), by rw [List.length_set]; exact lt1, lt2⟩, ((Fr.rf.tr (Fw2.mono (fun i hi => by omega))).tr (Fw3.mono (fun i hi => by omega)))⟩
  · exact absurd hv1 (by omega)
set_option maxHeartbeats 4000000 in
theorem c_take_f {σ : ZS} {tc : Nat} {ap tk tp tv fa sc lf jf : Int32} {Tp St : List Int32} (hr : Rd σ (nI tc) ap tk tp tv fa sc lf jf Tp St) (ht : tc = 160) {v : Int32} : Cn 0 M_X3_take 0 0 [.ref 28, .int v] σ (fun r9 σ' => r9 = some (.int (nI 0)) ∧ σ' = σ) := by
  obtain ⟨d0, d1, d2, lt1, lt2⟩ := id hr
  refine Cn.intro (lv0 := [some (.ref 28), some (.int v)]) rfl (Nat.le_of_ble_eq_true rfl) rfl (fun d hd => ?_)
  refine x_aload_n dX3_take_0 rfl ?_
  refine x_get (v := .int (nI tc)) f_X3_15 d0 rfl dX3_take_1 ?_
  refine x_sipush (v := nI 160) dX3_take_4 (by decide) ?_
  refine x_icmpN_lt (tgt := 12) dX3_take_7 (by decide) (by omega) (by omega) (fun hv1 => ?_) (fun hv1 => ?_)
  · exact absurd hv1 (by omega)
  · refine x_iconst (v := nI 0) dX3_take_10 (by decide) ?_
    exact x_zret ⟨Nat.le_refl _, Nat.le_refl _⟩ rfl (by decide) dX3_take_11 ⟨rfl, rfl⟩
set_option maxHeartbeats 4000000 in
theorem c_feed {σ : ZS} {tx ik : Int32} (k0 : zg σ 0 = some (.inr (.inr (6, [.ref 1, .ref 6, .ref 11, .ref 16, .ref 22, .ref 28, .ref 31, .int tx, .int ik])))) {tc : Nat} {ap tk tp tv fa sc lf jf : Int32} {Tp St : List Int32} (hr : Rd σ (nI tc) ap tk tp tv fa sc lf jf Tp St) (ht : tc < 160) {v : Nat} (hv : v ≤ 255) : Cn 1 M_X7_feed 0 0 [.ref 0, .int (nI v)] σ (fun r9 σ' => r9 = some (.int (nI (tc + 1))) ∧ Rd σ' (nI (tc + 1)) ap tk tp tv fa sc lf jf (Tp.set tc (nI v)) St ∧ Fr (fun i => i = 28 ∨ i = 29) σ σ') := by
  obtain ⟨d0, d1, d2, lt1, lt2⟩ := id hr
  refine Cn.intro (lv0 := [some (.ref 0), some (.int (nI v))]) rfl (Nat.le_of_ble_eq_true rfl) rfl (fun d hd => ?_)
  refine x_iload_n dX7_feed_0 rfl ?_
  refine x_iconst (v := nI 0) dX7_feed_1 (by decide) ?_
  refine x_sipush (v := nI 255) dX7_feed_2 (by decide) ?_
  refine x_callS m_X7_isWithin l_X7_72 (c_within (p := ((v : Nat) : Int)) (q := ((0 : Nat) : Int)) (r := ((255 : Nat) : Int)) (nI_toInt (by omega)) (nI_toInt (by omega)) (nI_toInt (by omega))) (by omega) rfl rfl (Nat.le_of_ble_eq_true rfl) ⟨Nat.le_refl _, Nat.le_refl _⟩ dX7_feed_5 (fun r1 s1 q1 => ?_)
  obtain ⟨rfl, eq1⟩ := q1
  obtain rfl := eq1.symm
  refine x_stk (st' := [.int (bI (decide (((0 : Nat) : Int) ≤ ((v : Nat) : Int) ∧ ((v : Nat) : Int) ≤ ((255 : Nat) : Int))))]) rfl ?_
  refine x_ifP_ne (P := ((0 : Nat) : Int) ≤ ((v : Nat) : Int) ∧ ((v : Nat) : Int) ≤ ((255 : Nat) : Int)) inferInstance (tgt := 14) dX7_feed_8 (by decide) (fun hv2 => ?_) (fun hv2 => ?_)
  · refine x_aload_n dX7_feed_14 rfl ?_
    refine x_get (v := .ref 28) f_X7_39 k0 rfl dX7_feed_15 ?_
    refine x_iload_n dX7_feed_18 rfl ?_
    refine x_callV m_X3_take l_X7_134 (c_take hr ht) rfl d0 (by omega) rfl rfl (Nat.le_of_ble_eq_true rfl) ⟨Nat.le_refl _, Nat.le_refl _⟩ dX7_feed_19 (fun r3 s3 q3 => ?_)
    obtain ⟨rfl, P3, F3⟩ := q3
    refine x_stk (st' := [.int (nI 1)]) rfl ?_
    refine x_ifN_eq (tgt := 35) dX7_feed_22 (by decide) (by omega) (fun hv4 => ?_) (fun hv4 => ?_)
    · exact absurd hv4 (by decide)
    · refine x_aload_n dX7_feed_25 rfl ?_
      refine x_get (v := .ref 28) f_X7_39 (F3.at (by omega) k0) rfl dX7_feed_26 ?_
      refine x_get (v := .int (nI (tc + 1))) f_X7_137 P3.1 rfl dX7_feed_29 ?_
      refine x_goto (tgt := 37) dX7_feed_32 (by decide) ?_
      exact x_iret ⟨Nat.le_refl _, Nat.le_refl _⟩ rfl dX7_feed_37 ⟨rfl, P3, (Fr.rf.tr (F3.mono (fun i hi => by omega)))⟩
  · exact absurd hv2 (by omega)
set_option maxHeartbeats 4000000 in
theorem c_feed_f {σ : ZS} {tx ik : Int32} (k0 : zg σ 0 = some (.inr (.inr (6, [.ref 1, .ref 6, .ref 11, .ref 16, .ref 22, .ref 28, .ref 31, .int tx, .int ik])))) {tc : Nat} {ap tk tp tv fa sc lf jf : Int32} {Tp St : List Int32} (hr : Rd σ (nI tc) ap tk tp tv fa sc lf jf Tp St) (ht : tc = 160) {v : Int32} (hv : 0 ≤ v.toInt ∧ v.toInt ≤ 255) : Cn 1 M_X7_feed 0 0 [.ref 0, .int v] σ (fun r9 σ' => r9 = some (.int (-4)) ∧ σ' = σ) := by
  obtain ⟨d0, d1, d2, lt1, lt2⟩ := id hr
  refine Cn.intro (lv0 := [some (.ref 0), some (.int v)]) rfl (Nat.le_of_ble_eq_true rfl) rfl (fun d hd => ?_)
  refine x_iload_n dX7_feed_0 rfl ?_
  refine x_iconst (v := nI 0) dX7_feed_1 (by decide) ?_
  refine x_sipush (v := nI 255) dX7_feed_2 (by decide) ?_
  refine x_callS m_X7_isWithin l_X7_72 (c_within (p := (v).toInt) (q := ((0 : Nat) : Int)) (r := ((255 : Nat) : Int)) rfl (nI_toInt (by omega)) (nI_toInt (by omega))) (by omega) rfl rfl (Nat.le_of_ble_eq_true rfl) ⟨Nat.le_refl _, Nat.le_refl _⟩ dX7_feed_5 (fun r1 s1 q1 => ?_)
  obtain ⟨rfl, eq1⟩ := q1
  obtain rfl := eq1.symm
  refine x_stk (st' := [.int (bI (decide (((0 : Nat) : Int) ≤ (v).toInt ∧ (v).toInt ≤ ((255 : Nat) : Int))))]) rfl ?_
  refine x_ifP_ne (P := ((0 : Nat) : Int) ≤ (v).toInt ∧ (v).toInt ≤ ((255 : Nat) : Int)) inferInstance (tgt := 14) dX7_feed_8 (by decide) (fun hv2 => ?_) (fun hv2 => ?_)
  · refine x_aload_n dX7_feed_14 rfl ?_
    refine x_get (v := .ref 28) f_X7_39 k0 rfl dX7_feed_15 ?_
    refine x_iload_n dX7_feed_18 rfl ?_
    refine x_callV m_X3_take l_X7_134 (c_take_f hr ht) rfl d0 (by omega) rfl rfl (Nat.le_of_ble_eq_true rfl) ⟨Nat.le_refl _, Nat.le_refl _⟩ dX7_feed_19 (fun r3 s3 q3 => ?_)
    obtain ⟨rfl, eq3⟩ := q3
    obtain rfl := eq3.symm
    refine x_stk (st' := [.int (nI 0)]) rfl ?_
    refine x_ifN_eq (tgt := 35) dX7_feed_22 (by decide) (by omega) (fun hv4 => ?_) (fun hv4 => ?_)
    · refine x_bipush (v := (-4)) dX7_feed_35 (by decide) ?_
      exact x_iret ⟨Nat.le_refl _, Nat.le_refl _⟩ rfl dX7_feed_37 ⟨rfl, rfl⟩
    · exact absurd hv4 (by decide)
  · exact absurd hv2 (by omega)
set_option maxHeartbeats 4000000 in
theorem c_feed_b {σ : ZS} {tx ik : Int32} (k0 : zg σ 0 = some (.inr (.inr (6, [.ref 1, .ref 6, .ref 11, .ref 16, .ref 22, .ref 28, .ref 31, .int tx, .int ik])))) {tc : Nat} {ap tk tp tv fa sc lf jf : Int32} {Tp St : List Int32} (hr : Rd σ (nI tc) ap tk tp tv fa sc lf jf Tp St) {v : Int32} (hv : ¬ (0 ≤ v.toInt ∧ v.toInt ≤ 255)) : Cn 1 M_X7_feed 0 0 [.ref 0, .int v] σ (fun r9 σ' => r9 = some (.int (-2)) ∧ σ' = σ) := by
  obtain ⟨d0, d1, d2, lt1, lt2⟩ := id hr
  refine Cn.intro (lv0 := [some (.ref 0), some (.int v)]) rfl (Nat.le_of_ble_eq_true rfl) rfl (fun d hd => ?_)
  refine x_iload_n dX7_feed_0 rfl ?_
  refine x_iconst (v := nI 0) dX7_feed_1 (by decide) ?_
  refine x_sipush (v := nI 255) dX7_feed_2 (by decide) ?_
  refine x_callS m_X7_isWithin l_X7_72 (c_within (p := (v).toInt) (q := ((0 : Nat) : Int)) (r := ((255 : Nat) : Int)) rfl (nI_toInt (by omega)) (nI_toInt (by omega))) (by omega) rfl rfl (Nat.le_of_ble_eq_true rfl) ⟨Nat.le_refl _, Nat.le_refl _⟩ dX7_feed_5 (fun r1 s1 q1 => ?_)
  obtain ⟨rfl, eq1⟩ := q1
  obtain rfl := eq1.symm
  refine x_stk (st' := [.int (bI (decide (((0 : Nat) : Int) ≤ (v).toInt ∧ (v).toInt ≤ ((255 : Nat) : Int))))]) rfl ?_
  refine x_ifP_ne (P := ((0 : Nat) : Int) ≤ (v).toInt ∧ (v).toInt ≤ ((255 : Nat) : Int)) inferInstance (tgt := 14) dX7_feed_8 (by decide) (fun hv2 => ?_) (fun hv2 => ?_)
  · exact absurd hv2 (by omega)
  · refine x_bipush (v := (-2)) dX7_feed_11 (by decide) ?_
    exact x_iret ⟨Nat.le_refl _, Nat.le_refl _⟩ rfl dX7_feed_13 ⟨rfl, rfl⟩
set_option maxHeartbeats 4000000 in
theorem c_under {σ : ZS} {x k : Nat} (hx : x ≤ 5) (hk : k ≤ 5) : Cn 2 M_X0_isUnder 0 0 [.int (nI x), .int (nI k)] σ (fun r9 σ' => r9 = some (.int (bI (undB x k))) ∧ σ' = σ) := by
  refine Cn.intro (lv0 := [some (.int (nI x)), some (.int (nI k)), none, none]) rfl (Nat.le_of_ble_eq_true rfl) rfl (fun d hd => ?_)
  rcases (show x = 0 ∨ x = 1 ∨ x = 2 ∨ x = 3 ∨ x = 4 ∨ x = 5 by omega) with rfl | rfl | rfl | rfl | rfl | rfl
  · refine x_iload_n dX0_isUnder_0 rfl ?_
    refine x_istore_n dX0_isUnder_1 (by decide) rfl ?_
    refine x_lv (lv' := [some (.int (nI 0)), some (.int (nI k)), some (.int (nI 0)), none]) rfl ?_
    refine x_iconst (v := nI 0) dX0_isUnder_2 (by decide) ?_
    refine x_istore_n dX0_isUnder_3 (by decide) rfl ?_
    refine x_lv (lv' := [some (.int (nI 0)), some (.int (nI k)), some (.int (nI 0)), some (.int (nI 0))]) rfl ?_
    refine x_iload_n dX0_isUnder_4 rfl ?_
    refine x_bipush (v := nI 6) dX0_isUnder_5 (by decide) ?_
    refine x_icmpN_ge (tgt := 36) dX0_isUnder_7 (by decide) (by omega) (by omega) (fun hv1 => ?_) (fun hv1 => ?_)
    · exact absurd hv1 (by omega)
    · refine x_iload_n dX0_isUnder_10 rfl ?_
      refine x_callS m_X0_isKind l_X0_15 (c_kindP (p := ((0 : Nat) : Int)) (nI_toInt (by omega))) (by omega) rfl rfl (Nat.le_of_ble_eq_true rfl) ⟨Nat.le_refl _, Nat.le_refl _⟩ dX0_isUnder_11 (fun r2 s2 q2 => ?_)
      obtain ⟨rfl, eq2⟩ := q2
      obtain rfl := eq2.symm
      refine x_stk (st' := [.int (bI (decide (0 ≤ ((0 : Nat) : Int) ∧ ((0 : Nat) : Int) ≤ 5)))]) rfl ?_
      refine x_ifP_eq (P := 0 ≤ ((0 : Nat) : Int) ∧ ((0 : Nat) : Int) ≤ 5) inferInstance (tgt := 36) dX0_isUnder_14 (by decide) (fun hv3 => ?_) (fun hv3 => ?_)
      · exact absurd hv3 (by omega)
      · refine x_iload_n dX0_isUnder_17 rfl ?_
        refine x_iload_n dX0_isUnder_18 rfl ?_
        refine x_icmpN_ne (tgt := 24) dX0_isUnder_19 (by decide) (by omega) (by omega) (fun hv4 => ?_) (fun hv4 => ?_)
        · refine x_above g_X0_19 dX0_isUnder_24 ?_
          refine x_iload_n dX0_isUnder_27 rfl ?_
          refine x_aboveLd rfl (by omega) dX0_isUnder_28 ?_
          refine x_topi (y := (-1)) (by decide) ?_
          refine x_istore_n dX0_isUnder_29 (by decide) rfl ?_
          refine x_lv (lv' := [some (.int (nI 0)), some (.int (nI k)), some (.int ((-1))), some (.int (nI 0))]) rfl ?_
          refine x_iincN dX0_isUnder_30 rfl (by decide) rfl ?_
          refine x_lv (lv' := [some (.int (nI 0)), some (.int (nI k)), some (.int ((-1))), some (.int (nI (0 + 1)))]) rfl ?_
          refine x_goto (tgt := 4) dX0_isUnder_33 (by decide) ?_
          refine x_iload_n dX0_isUnder_4 rfl ?_
          refine x_bipush (v := nI 6) dX0_isUnder_5 (by decide) ?_
          refine x_icmpN_ge (tgt := 36) dX0_isUnder_7 (by decide) (by omega) (by omega) (fun hv5 => ?_) (fun hv5 => ?_)
          · exact absurd hv5 (by omega)
          · refine x_iload_n dX0_isUnder_10 rfl ?_
            refine x_callS m_X0_isKind l_X0_15 (c_kindP (p := (-1)) (by decide)) (by omega) rfl rfl (Nat.le_of_ble_eq_true rfl) ⟨Nat.le_refl _, Nat.le_refl _⟩ dX0_isUnder_11 (fun r6 s6 q6 => ?_)
            obtain ⟨rfl, eq6⟩ := q6
            obtain rfl := eq6.symm
            refine x_stk (st' := [.int (bI (decide (0 ≤ (-1) ∧ (-1) ≤ 5)))]) rfl ?_
            refine x_ifP_eq (P := 0 ≤ (-1) ∧ (-1) ≤ 5) inferInstance (tgt := 36) dX0_isUnder_14 (by decide) (fun hv7 => ?_) (fun hv7 => ?_)
            · refine x_iconst (v := nI 0) dX0_isUnder_36 (by decide) ?_
              exact x_zret ⟨Nat.le_refl _, Nat.le_refl _⟩ rfl (by decide) dX0_isUnder_37 ⟨by rw [show undB 0 k = false from decide_eq_false (by omega)]; rfl, rfl⟩
            · exact absurd hv7 (by omega)
        · refine x_iconst (v := nI 1) dX0_isUnder_22 (by decide) ?_
          exact x_zret ⟨Nat.le_refl _, Nat.le_refl _⟩ rfl (by decide) dX0_isUnder_23 ⟨by rw [show undB 0 k = true from decide_eq_true (by omega)]; rfl, rfl⟩
  · refine x_iload_n dX0_isUnder_0 rfl ?_
    refine x_istore_n dX0_isUnder_1 (by decide) rfl ?_
    refine x_lv (lv' := [some (.int (nI 1)), some (.int (nI k)), some (.int (nI 1)), none]) rfl ?_
    refine x_iconst (v := nI 0) dX0_isUnder_2 (by decide) ?_
    refine x_istore_n dX0_isUnder_3 (by decide) rfl ?_
    refine x_lv (lv' := [some (.int (nI 1)), some (.int (nI k)), some (.int (nI 1)), some (.int (nI 0))]) rfl ?_
    refine x_iload_n dX0_isUnder_4 rfl ?_
    refine x_bipush (v := nI 6) dX0_isUnder_5 (by decide) ?_
    refine x_icmpN_ge (tgt := 36) dX0_isUnder_7 (by decide) (by omega) (by omega) (fun hv8 => ?_) (fun hv8 => ?_)
    · exact absurd hv8 (by omega)
    · refine x_iload_n dX0_isUnder_10 rfl ?_
      refine x_callS m_X0_isKind l_X0_15 (c_kindP (p := ((1 : Nat) : Int)) (nI_toInt (by omega))) (by omega) rfl rfl (Nat.le_of_ble_eq_true rfl) ⟨Nat.le_refl _, Nat.le_refl _⟩ dX0_isUnder_11 (fun r9 s9 q9 => ?_)
      obtain ⟨rfl, eq9⟩ := q9
      obtain rfl := eq9.symm
      refine x_stk (st' := [.int (bI (decide (0 ≤ ((1 : Nat) : Int) ∧ ((1 : Nat) : Int) ≤ 5)))]) rfl ?_
      refine x_ifP_eq (P := 0 ≤ ((1 : Nat) : Int) ∧ ((1 : Nat) : Int) ≤ 5) inferInstance (tgt := 36) dX0_isUnder_14 (by decide) (fun hv10 => ?_) (fun hv10 => ?_)
      · exact absurd hv10 (by omega)
      · refine x_iload_n dX0_isUnder_17 rfl ?_
        refine x_iload_n dX0_isUnder_18 rfl ?_
        refine x_icmpN_ne (tgt := 24) dX0_isUnder_19 (by decide) (by omega) (by omega) (fun hv11 => ?_) (fun hv11 => ?_)
        · refine x_above g_X0_19 dX0_isUnder_24 ?_
          refine x_iload_n dX0_isUnder_27 rfl ?_
          refine x_aboveLd rfl (by omega) dX0_isUnder_28 ?_
          refine x_topi (y := nI 0) (by decide) ?_
          refine x_istore_n dX0_isUnder_29 (by decide) rfl ?_
          refine x_lv (lv' := [some (.int (nI 1)), some (.int (nI k)), some (.int (nI 0)), some (.int (nI 0))]) rfl ?_
          refine x_iincN dX0_isUnder_30 rfl (by decide) rfl ?_
          refine x_lv (lv' := [some (.int (nI 1)), some (.int (nI k)), some (.int (nI 0)), some (.int (nI (0 + 1)))]) rfl ?_
          refine x_goto (tgt := 4) dX0_isUnder_33 (by decide) ?_
          refine x_iload_n dX0_isUnder_4 rfl ?_
          refine x_bipush (v := nI 6) dX0_isUnder_5 (by decide) ?_
          refine x_icmpN_ge (tgt := 36) dX0_isUnder_7 (by decide) (by omega) (by omega) (fun hv12 => ?_) (fun hv12 => ?_)
          · exact absurd hv12 (by omega)
          · refine x_iload_n dX0_isUnder_10 rfl ?_
            refine x_callS m_X0_isKind l_X0_15 (c_kindP (p := ((0 : Nat) : Int)) (nI_toInt (by omega))) (by omega) rfl rfl (Nat.le_of_ble_eq_true rfl) ⟨Nat.le_refl _, Nat.le_refl _⟩ dX0_isUnder_11 (fun r13 s13 q13 => ?_)
            obtain ⟨rfl, eq13⟩ := q13
            obtain rfl := eq13.symm
            refine x_stk (st' := [.int (bI (decide (0 ≤ ((0 : Nat) : Int) ∧ ((0 : Nat) : Int) ≤ 5)))]) rfl ?_
            refine x_ifP_eq (P := 0 ≤ ((0 : Nat) : Int) ∧ ((0 : Nat) : Int) ≤ 5) inferInstance (tgt := 36) dX0_isUnder_14 (by decide) (fun hv14 => ?_) (fun hv14 => ?_)
            · exact absurd hv14 (by omega)
            · refine x_iload_n dX0_isUnder_17 rfl ?_
              refine x_iload_n dX0_isUnder_18 rfl ?_
              refine x_icmpN_ne (tgt := 24) dX0_isUnder_19 (by decide) (by omega) (by omega) (fun hv15 => ?_) (fun hv15 => ?_)
              · refine x_above g_X0_19 dX0_isUnder_24 ?_
                refine x_iload_n dX0_isUnder_27 rfl ?_
                refine x_aboveLd rfl (by omega) dX0_isUnder_28 ?_
                refine x_topi (y := (-1)) (by decide) ?_
                refine x_istore_n dX0_isUnder_29 (by decide) rfl ?_
                refine x_lv (lv' := [some (.int (nI 1)), some (.int (nI k)), some (.int ((-1))), some (.int (nI (0 + 1)))]) rfl ?_
                refine x_iincN dX0_isUnder_30 rfl (by decide) rfl ?_
                refine x_lv (lv' := [some (.int (nI 1)), some (.int (nI k)), some (.int ((-1))), some (.int (nI ((0 + 1) + 1)))]) rfl ?_
                refine x_goto (tgt := 4) dX0_isUnder_33 (by decide) ?_
                refine x_iload_n dX0_isUnder_4 rfl ?_
                refine x_bipush (v := nI 6) dX0_isUnder_5 (by decide) ?_
                refine x_icmpN_ge (tgt := 36) dX0_isUnder_7 (by decide) (by omega) (by omega) (fun hv16 => ?_) (fun hv16 => ?_)
                · exact absurd hv16 (by omega)
                · refine x_iload_n dX0_isUnder_10 rfl ?_
                  refine x_callS m_X0_isKind l_X0_15 (c_kindP (p := (-1)) (by decide)) (by omega) rfl rfl (Nat.le_of_ble_eq_true rfl) ⟨Nat.le_refl _, Nat.le_refl _⟩ dX0_isUnder_11 (fun r17 s17 q17 => ?_)
                  obtain ⟨rfl, eq17⟩ := q17
                  obtain rfl := eq17.symm
                  refine x_stk (st' := [.int (bI (decide (0 ≤ (-1) ∧ (-1) ≤ 5)))]) rfl ?_
                  refine x_ifP_eq (P := 0 ≤ (-1) ∧ (-1) ≤ 5) inferInstance (tgt := 36) dX0_isUnder_14 (by decide) (fun hv18 => ?_) (fun hv18 => ?_)
                  · refine x_iconst (v := nI 0) dX0_isUnder_36 (by decide) ?_
                    exact x_zret ⟨Nat.le_refl _, Nat.le_refl _⟩ rfl (by decide) dX0_isUnder_37 ⟨by rw [show undB 1 k = false from decide_eq_false (by omega)]; rfl, rfl⟩
                  · exact absurd hv18 (by omega)
              · refine x_iconst (v := nI 1) dX0_isUnder_22 (by decide) ?_
                exact x_zret ⟨Nat.le_refl _, Nat.le_refl _⟩ rfl (by decide) dX0_isUnder_23 ⟨by rw [show undB 1 k = true from decide_eq_true (by omega)]; rfl, rfl⟩
        · refine x_iconst (v := nI 1) dX0_isUnder_22 (by decide) ?_
          exact x_zret ⟨Nat.le_refl _, Nat.le_refl _⟩ rfl (by decide) dX0_isUnder_23 ⟨by rw [show undB 1 k = true from decide_eq_true (by omega)]; rfl, rfl⟩
  · refine x_iload_n dX0_isUnder_0 rfl ?_
    refine x_istore_n dX0_isUnder_1 (by decide) rfl ?_
    refine x_lv (lv' := [some (.int (nI 2)), some (.int (nI k)), some (.int (nI 2)), none]) rfl ?_
    refine x_iconst (v := nI 0) dX0_isUnder_2 (by decide) ?_
    refine x_istore_n dX0_isUnder_3 (by decide) rfl ?_
    refine x_lv (lv' := [some (.int (nI 2)), some (.int (nI k)), some (.int (nI 2)), some (.int (nI 0))]) rfl ?_
    refine x_iload_n dX0_isUnder_4 rfl ?_
    refine x_bipush (v := nI 6) dX0_isUnder_5 (by decide) ?_
    refine x_icmpN_ge (tgt := 36) dX0_isUnder_7 (by decide) (by omega) (by omega) (fun hv19 => ?_) (fun hv19 => ?_)
    · exact absurd hv19 (by omega)
    · refine x_iload_n dX0_isUnder_10 rfl ?_
      refine x_callS m_X0_isKind l_X0_15 (c_kindP (p := ((2 : Nat) : Int)) (nI_toInt (by omega))) (by omega) rfl rfl (Nat.le_of_ble_eq_true rfl) ⟨Nat.le_refl _, Nat.le_refl _⟩ dX0_isUnder_11 (fun r20 s20 q20 => ?_)
      obtain ⟨rfl, eq20⟩ := q20
      obtain rfl := eq20.symm
      refine x_stk (st' := [.int (bI (decide (0 ≤ ((2 : Nat) : Int) ∧ ((2 : Nat) : Int) ≤ 5)))]) rfl ?_
      refine x_ifP_eq (P := 0 ≤ ((2 : Nat) : Int) ∧ ((2 : Nat) : Int) ≤ 5) inferInstance (tgt := 36) dX0_isUnder_14 (by decide) (fun hv21 => ?_) (fun hv21 => ?_)
      · exact absurd hv21 (by omega)
      · refine x_iload_n dX0_isUnder_17 rfl ?_
        refine x_iload_n dX0_isUnder_18 rfl ?_
        refine x_icmpN_ne (tgt := 24) dX0_isUnder_19 (by decide) (by omega) (by omega) (fun hv22 => ?_) (fun hv22 => ?_)
        · refine x_above g_X0_19 dX0_isUnder_24 ?_
          refine x_iload_n dX0_isUnder_27 rfl ?_
          refine x_aboveLd rfl (by omega) dX0_isUnder_28 ?_
          refine x_topi (y := nI 0) (by decide) ?_
          refine x_istore_n dX0_isUnder_29 (by decide) rfl ?_
          refine x_lv (lv' := [some (.int (nI 2)), some (.int (nI k)), some (.int (nI 0)), some (.int (nI 0))]) rfl ?_
          refine x_iincN dX0_isUnder_30 rfl (by decide) rfl ?_
          refine x_lv (lv' := [some (.int (nI 2)), some (.int (nI k)), some (.int (nI 0)), some (.int (nI (0 + 1)))]) rfl ?_
          refine x_goto (tgt := 4) dX0_isUnder_33 (by decide) ?_
          refine x_iload_n dX0_isUnder_4 rfl ?_
          refine x_bipush (v := nI 6) dX0_isUnder_5 (by decide) ?_
          refine x_icmpN_ge (tgt := 36) dX0_isUnder_7 (by decide) (by omega) (by omega) (fun hv23 => ?_) (fun hv23 => ?_)
          · exact absurd hv23 (by omega)
          · refine x_iload_n dX0_isUnder_10 rfl ?_
            refine x_callS m_X0_isKind l_X0_15 (c_kindP (p := ((0 : Nat) : Int)) (nI_toInt (by omega))) (by omega) rfl rfl (Nat.le_of_ble_eq_true rfl) ⟨Nat.le_refl _, Nat.le_refl _⟩ dX0_isUnder_11 (fun r24 s24 q24 => ?_)
            obtain ⟨rfl, eq24⟩ := q24
            obtain rfl := eq24.symm
            refine x_stk (st' := [.int (bI (decide (0 ≤ ((0 : Nat) : Int) ∧ ((0 : Nat) : Int) ≤ 5)))]) rfl ?_
            refine x_ifP_eq (P := 0 ≤ ((0 : Nat) : Int) ∧ ((0 : Nat) : Int) ≤ 5) inferInstance (tgt := 36) dX0_isUnder_14 (by decide) (fun hv25 => ?_) (fun hv25 => ?_)
            · exact absurd hv25 (by omega)
            · refine x_iload_n dX0_isUnder_17 rfl ?_
              refine x_iload_n dX0_isUnder_18 rfl ?_
              refine x_icmpN_ne (tgt := 24) dX0_isUnder_19 (by decide) (by omega) (by omega) (fun hv26 => ?_) (fun hv26 => ?_)
              · refine x_above g_X0_19 dX0_isUnder_24 ?_
                refine x_iload_n dX0_isUnder_27 rfl ?_
                refine x_aboveLd rfl (by omega) dX0_isUnder_28 ?_
                refine x_topi (y := (-1)) (by decide) ?_
                refine x_istore_n dX0_isUnder_29 (by decide) rfl ?_
                refine x_lv (lv' := [some (.int (nI 2)), some (.int (nI k)), some (.int ((-1))), some (.int (nI (0 + 1)))]) rfl ?_
                refine x_iincN dX0_isUnder_30 rfl (by decide) rfl ?_
                refine x_lv (lv' := [some (.int (nI 2)), some (.int (nI k)), some (.int ((-1))), some (.int (nI ((0 + 1) + 1)))]) rfl ?_
                refine x_goto (tgt := 4) dX0_isUnder_33 (by decide) ?_
                refine x_iload_n dX0_isUnder_4 rfl ?_
                refine x_bipush (v := nI 6) dX0_isUnder_5 (by decide) ?_
                refine x_icmpN_ge (tgt := 36) dX0_isUnder_7 (by decide) (by omega) (by omega) (fun hv27 => ?_) (fun hv27 => ?_)
                · exact absurd hv27 (by omega)
                · refine x_iload_n dX0_isUnder_10 rfl ?_
                  refine x_callS m_X0_isKind l_X0_15 (c_kindP (p := (-1)) (by decide)) (by omega) rfl rfl (Nat.le_of_ble_eq_true rfl) ⟨Nat.le_refl _, Nat.le_refl _⟩ dX0_isUnder_11 (fun r28 s28 q28 => ?_)
                  obtain ⟨rfl, eq28⟩ := q28
                  obtain rfl := eq28.symm
                  refine x_stk (st' := [.int (bI (decide (0 ≤ (-1) ∧ (-1) ≤ 5)))]) rfl ?_
                  refine x_ifP_eq (P := 0 ≤ (-1) ∧ (-1) ≤ 5) inferInstance (tgt := 36) dX0_isUnder_14 (by decide) (fun hv29 => ?_) (fun hv29 => ?_)
                  · refine x_iconst (v := nI 0) dX0_isUnder_36 (by decide) ?_
                    exact x_zret ⟨Nat.le_refl _, Nat.le_refl _⟩ rfl (by decide) dX0_isUnder_37 ⟨by rw [show undB 2 k = false from decide_eq_false (by omega)]; rfl, rfl⟩
                  · exact absurd hv29 (by omega)
              · refine x_iconst (v := nI 1) dX0_isUnder_22 (by decide) ?_
                exact x_zret ⟨Nat.le_refl _, Nat.le_refl _⟩ rfl (by decide) dX0_isUnder_23 ⟨by rw [show undB 2 k = true from decide_eq_true (by omega)]; rfl, rfl⟩
        · refine x_iconst (v := nI 1) dX0_isUnder_22 (by decide) ?_
          exact x_zret ⟨Nat.le_refl _, Nat.le_refl _⟩ rfl (by decide) dX0_isUnder_23 ⟨by rw [show undB 2 k = true from decide_eq_true (by omega)]; rfl, rfl⟩
  · refine x_iload_n dX0_isUnder_0 rfl ?_
    refine x_istore_n dX0_isUnder_1 (by decide) rfl ?_
    refine x_lv (lv' := [some (.int (nI 3)), some (.int (nI k)), some (.int (nI 3)), none]) rfl ?_
    refine x_iconst (v := nI 0) dX0_isUnder_2 (by decide) ?_
    refine x_istore_n dX0_isUnder_3 (by decide) rfl ?_
    refine x_lv (lv' := [some (.int (nI 3)), some (.int (nI k)), some (.int (nI 3)), some (.int (nI 0))]) rfl ?_
    refine x_iload_n dX0_isUnder_4 rfl ?_
    refine x_bipush (v := nI 6) dX0_isUnder_5 (by decide) ?_
    refine x_icmpN_ge (tgt := 36) dX0_isUnder_7 (by decide) (by omega) (by omega) (fun hv30 => ?_) (fun hv30 => ?_)
    · exact absurd hv30 (by omega)
    · refine x_iload_n dX0_isUnder_10 rfl ?_
      refine x_callS m_X0_isKind l_X0_15 (c_kindP (p := ((3 : Nat) : Int)) (nI_toInt (by omega))) (by omega) rfl rfl (Nat.le_of_ble_eq_true rfl) ⟨Nat.le_refl _, Nat.le_refl _⟩ dX0_isUnder_11 (fun r31 s31 q31 => ?_)
      obtain ⟨rfl, eq31⟩ := q31
      obtain rfl := eq31.symm
      refine x_stk (st' := [.int (bI (decide (0 ≤ ((3 : Nat) : Int) ∧ ((3 : Nat) : Int) ≤ 5)))]) rfl ?_
      refine x_ifP_eq (P := 0 ≤ ((3 : Nat) : Int) ∧ ((3 : Nat) : Int) ≤ 5) inferInstance (tgt := 36) dX0_isUnder_14 (by decide) (fun hv32 => ?_) (fun hv32 => ?_)
      · exact absurd hv32 (by omega)
      · refine x_iload_n dX0_isUnder_17 rfl ?_
        refine x_iload_n dX0_isUnder_18 rfl ?_
        refine x_icmpN_ne (tgt := 24) dX0_isUnder_19 (by decide) (by omega) (by omega) (fun hv33 => ?_) (fun hv33 => ?_)
        · refine x_above g_X0_19 dX0_isUnder_24 ?_
          refine x_iload_n dX0_isUnder_27 rfl ?_
          refine x_aboveLd rfl (by omega) dX0_isUnder_28 ?_
          refine x_topi (y := nI 1) (by decide) ?_
          refine x_istore_n dX0_isUnder_29 (by decide) rfl ?_
          refine x_lv (lv' := [some (.int (nI 3)), some (.int (nI k)), some (.int (nI 1)), some (.int (nI 0))]) rfl ?_
          refine x_iincN dX0_isUnder_30 rfl (by decide) rfl ?_
          refine x_lv (lv' := [some (.int (nI 3)), some (.int (nI k)), some (.int (nI 1)), some (.int (nI (0 + 1)))]) rfl ?_
          refine x_goto (tgt := 4) dX0_isUnder_33 (by decide) ?_
          refine x_iload_n dX0_isUnder_4 rfl ?_
          refine x_bipush (v := nI 6) dX0_isUnder_5 (by decide) ?_
          refine x_icmpN_ge (tgt := 36) dX0_isUnder_7 (by decide) (by omega) (by omega) (fun hv34 => ?_) (fun hv34 => ?_)
          · exact absurd hv34 (by omega)
          · refine x_iload_n dX0_isUnder_10 rfl ?_
            refine x_callS m_X0_isKind l_X0_15 (c_kindP (p := ((1 : Nat) : Int)) (nI_toInt (by omega))) (by omega) rfl rfl (Nat.le_of_ble_eq_true rfl) ⟨Nat.le_refl _, Nat.le_refl _⟩ dX0_isUnder_11 (fun r35 s35 q35 => ?_)
            obtain ⟨rfl, eq35⟩ := q35
            obtain rfl := eq35.symm
            refine x_stk (st' := [.int (bI (decide (0 ≤ ((1 : Nat) : Int) ∧ ((1 : Nat) : Int) ≤ 5)))]) rfl ?_
            refine x_ifP_eq (P := 0 ≤ ((1 : Nat) : Int) ∧ ((1 : Nat) : Int) ≤ 5) inferInstance (tgt := 36) dX0_isUnder_14 (by decide) (fun hv36 => ?_) (fun hv36 => ?_)
            · exact absurd hv36 (by omega)
            · refine x_iload_n dX0_isUnder_17 rfl ?_
              refine x_iload_n dX0_isUnder_18 rfl ?_
              refine x_icmpN_ne (tgt := 24) dX0_isUnder_19 (by decide) (by omega) (by omega) (fun hv37 => ?_) (fun hv37 => ?_)
              · refine x_above g_X0_19 dX0_isUnder_24 ?_
                refine x_iload_n dX0_isUnder_27 rfl ?_
                refine x_aboveLd rfl (by omega) dX0_isUnder_28 ?_
                refine x_topi (y := nI 0) (by decide) ?_
                refine x_istore_n dX0_isUnder_29 (by decide) rfl ?_
                refine x_lv (lv' := [some (.int (nI 3)), some (.int (nI k)), some (.int (nI 0)), some (.int (nI (0 + 1)))]) rfl ?_
                refine x_iincN dX0_isUnder_30 rfl (by decide) rfl ?_
                refine x_lv (lv' := [some (.int (nI 3)), some (.int (nI k)), some (.int (nI 0)), some (.int (nI ((0 + 1) + 1)))]) rfl ?_
                refine x_goto (tgt := 4) dX0_isUnder_33 (by decide) ?_
                refine x_iload_n dX0_isUnder_4 rfl ?_
                refine x_bipush (v := nI 6) dX0_isUnder_5 (by decide) ?_
                refine x_icmpN_ge (tgt := 36) dX0_isUnder_7 (by decide) (by omega) (by omega) (fun hv38 => ?_) (fun hv38 => ?_)
                · exact absurd hv38 (by omega)
                · refine x_iload_n dX0_isUnder_10 rfl ?_
                  refine x_callS m_X0_isKind l_X0_15 (c_kindP (p := ((0 : Nat) : Int)) (nI_toInt (by omega))) (by omega) rfl rfl (Nat.le_of_ble_eq_true rfl) ⟨Nat.le_refl _, Nat.le_refl _⟩ dX0_isUnder_11 (fun r39 s39 q39 => ?_)
                  obtain ⟨rfl, eq39⟩ := q39
                  obtain rfl := eq39.symm
                  refine x_stk (st' := [.int (bI (decide (0 ≤ ((0 : Nat) : Int) ∧ ((0 : Nat) : Int) ≤ 5)))]) rfl ?_
                  refine x_ifP_eq (P := 0 ≤ ((0 : Nat) : Int) ∧ ((0 : Nat) : Int) ≤ 5) inferInstance (tgt := 36) dX0_isUnder_14 (by decide) (fun hv40 => ?_) (fun hv40 => ?_)
                  · exact absurd hv40 (by omega)
                  · refine x_iload_n dX0_isUnder_17 rfl ?_
                    refine x_iload_n dX0_isUnder_18 rfl ?_
                    refine x_icmpN_ne (tgt := 24) dX0_isUnder_19 (by decide) (by omega) (by omega) (fun hv41 => ?_) (fun hv41 => ?_)
                    · refine x_above g_X0_19 dX0_isUnder_24 ?_
                      refine x_iload_n dX0_isUnder_27 rfl ?_
                      refine x_aboveLd rfl (by omega) dX0_isUnder_28 ?_
                      refine x_topi (y := (-1)) (by decide) ?_
                      refine x_istore_n dX0_isUnder_29 (by decide) rfl ?_
                      refine x_lv (lv' := [some (.int (nI 3)), some (.int (nI k)), some (.int ((-1))), some (.int (nI ((0 + 1) + 1)))]) rfl ?_
                      refine x_iincN dX0_isUnder_30 rfl (by decide) rfl ?_
                      refine x_lv (lv' := [some (.int (nI 3)), some (.int (nI k)), some (.int ((-1))), some (.int (nI (((0 + 1) + 1) + 1)))]) rfl ?_
                      refine x_goto (tgt := 4) dX0_isUnder_33 (by decide) ?_
                      refine x_iload_n dX0_isUnder_4 rfl ?_
                      refine x_bipush (v := nI 6) dX0_isUnder_5 (by decide) ?_
                      refine x_icmpN_ge (tgt := 36) dX0_isUnder_7 (by decide) (by omega) (by omega) (fun hv42 => ?_) (fun hv42 => ?_)
                      · exact absurd hv42 (by omega)
                      · refine x_iload_n dX0_isUnder_10 rfl ?_
                        refine x_callS m_X0_isKind l_X0_15 (c_kindP (p := (-1)) (by decide)) (by omega) rfl rfl (Nat.le_of_ble_eq_true rfl) ⟨Nat.le_refl _, Nat.le_refl _⟩ dX0_isUnder_11 (fun r43 s43 q43 => ?_)
                        obtain ⟨rfl, eq43⟩ := q43
                        obtain rfl := eq43.symm
                        refine x_stk (st' := [.int (bI (decide (0 ≤ (-1) ∧ (-1) ≤ 5)))]) rfl ?_
                        refine x_ifP_eq (P := 0 ≤ (-1) ∧ (-1) ≤ 5) inferInstance (tgt := 36) dX0_isUnder_14 (by decide) (fun hv44 => ?_) (fun hv44 => ?_)
                        · refine x_iconst (v := nI 0) dX0_isUnder_36 (by decide) ?_
                          exact x_zret ⟨Nat.le_refl _, Nat.le_refl _⟩ rfl (by decide) dX0_isUnder_37 ⟨by rw [show undB 3 k = false from decide_eq_false (by omega)]; rfl, rfl⟩
                        · exact absurd hv44 (by omega)
                    · refine x_iconst (v := nI 1) dX0_isUnder_22 (by decide) ?_
                      exact x_zret ⟨Nat.le_refl _, Nat.le_refl _⟩ rfl (by decide) dX0_isUnder_23 ⟨by rw [show undB 3 k = true from decide_eq_true (by omega)]; rfl, rfl⟩
              · refine x_iconst (v := nI 1) dX0_isUnder_22 (by decide) ?_
                exact x_zret ⟨Nat.le_refl _, Nat.le_refl _⟩ rfl (by decide) dX0_isUnder_23 ⟨by rw [show undB 3 k = true from decide_eq_true (by omega)]; rfl, rfl⟩
        · refine x_iconst (v := nI 1) dX0_isUnder_22 (by decide) ?_
          exact x_zret ⟨Nat.le_refl _, Nat.le_refl _⟩ rfl (by decide) dX0_isUnder_23 ⟨by rw [show undB 3 k = true from decide_eq_true (by omega)]; rfl, rfl⟩
  · refine x_iload_n dX0_isUnder_0 rfl ?_
    refine x_istore_n dX0_isUnder_1 (by decide) rfl ?_
    refine x_lv (lv' := [some (.int (nI 4)), some (.int (nI k)), some (.int (nI 4)), none]) rfl ?_
    refine x_iconst (v := nI 0) dX0_isUnder_2 (by decide) ?_
    refine x_istore_n dX0_isUnder_3 (by decide) rfl ?_
    refine x_lv (lv' := [some (.int (nI 4)), some (.int (nI k)), some (.int (nI 4)), some (.int (nI 0))]) rfl ?_
    refine x_iload_n dX0_isUnder_4 rfl ?_
    refine x_bipush (v := nI 6) dX0_isUnder_5 (by decide) ?_
    refine x_icmpN_ge (tgt := 36) dX0_isUnder_7 (by decide) (by omega) (by omega) (fun hv45 => ?_) (fun hv45 => ?_)
    · exact absurd hv45 (by omega)
    · refine x_iload_n dX0_isUnder_10 rfl ?_
      refine x_callS m_X0_isKind l_X0_15 (c_kindP (p := ((4 : Nat) : Int)) (nI_toInt (by omega))) (by omega) rfl rfl (Nat.le_of_ble_eq_true rfl) ⟨Nat.le_refl _, Nat.le_refl _⟩ dX0_isUnder_11 (fun r46 s46 q46 => ?_)
      obtain ⟨rfl, eq46⟩ := q46
      obtain rfl := eq46.symm
      refine x_stk (st' := [.int (bI (decide (0 ≤ ((4 : Nat) : Int) ∧ ((4 : Nat) : Int) ≤ 5)))]) rfl ?_
      refine x_ifP_eq (P := 0 ≤ ((4 : Nat) : Int) ∧ ((4 : Nat) : Int) ≤ 5) inferInstance (tgt := 36) dX0_isUnder_14 (by decide) (fun hv47 => ?_) (fun hv47 => ?_)
      · exact absurd hv47 (by omega)
      · refine x_iload_n dX0_isUnder_17 rfl ?_
        refine x_iload_n dX0_isUnder_18 rfl ?_
        refine x_icmpN_ne (tgt := 24) dX0_isUnder_19 (by decide) (by omega) (by omega) (fun hv48 => ?_) (fun hv48 => ?_)
        · refine x_above g_X0_19 dX0_isUnder_24 ?_
          refine x_iload_n dX0_isUnder_27 rfl ?_
          refine x_aboveLd rfl (by omega) dX0_isUnder_28 ?_
          refine x_topi (y := nI 2) (by decide) ?_
          refine x_istore_n dX0_isUnder_29 (by decide) rfl ?_
          refine x_lv (lv' := [some (.int (nI 4)), some (.int (nI k)), some (.int (nI 2)), some (.int (nI 0))]) rfl ?_
          refine x_iincN dX0_isUnder_30 rfl (by decide) rfl ?_
          refine x_lv (lv' := [some (.int (nI 4)), some (.int (nI k)), some (.int (nI 2)), some (.int (nI (0 + 1)))]) rfl ?_
          refine x_goto (tgt := 4) dX0_isUnder_33 (by decide) ?_
          refine x_iload_n dX0_isUnder_4 rfl ?_
          refine x_bipush (v := nI 6) dX0_isUnder_5 (by decide) ?_
          refine x_icmpN_ge (tgt := 36) dX0_isUnder_7 (by decide) (by omega) (by omega) (fun hv49 => ?_) (fun hv49 => ?_)
          · exact absurd hv49 (by omega)
          · refine x_iload_n dX0_isUnder_10 rfl ?_
            refine x_callS m_X0_isKind l_X0_15 (c_kindP (p := ((2 : Nat) : Int)) (nI_toInt (by omega))) (by omega) rfl rfl (Nat.le_of_ble_eq_true rfl) ⟨Nat.le_refl _, Nat.le_refl _⟩ dX0_isUnder_11 (fun r50 s50 q50 => ?_)
            obtain ⟨rfl, eq50⟩ := q50
            obtain rfl := eq50.symm
            refine x_stk (st' := [.int (bI (decide (0 ≤ ((2 : Nat) : Int) ∧ ((2 : Nat) : Int) ≤ 5)))]) rfl ?_
            refine x_ifP_eq (P := 0 ≤ ((2 : Nat) : Int) ∧ ((2 : Nat) : Int) ≤ 5) inferInstance (tgt := 36) dX0_isUnder_14 (by decide) (fun hv51 => ?_) (fun hv51 => ?_)
            · exact absurd hv51 (by omega)
            · refine x_iload_n dX0_isUnder_17 rfl ?_
              refine x_iload_n dX0_isUnder_18 rfl ?_
              refine x_icmpN_ne (tgt := 24) dX0_isUnder_19 (by decide) (by omega) (by omega) (fun hv52 => ?_) (fun hv52 => ?_)
              · refine x_above g_X0_19 dX0_isUnder_24 ?_
                refine x_iload_n dX0_isUnder_27 rfl ?_
                refine x_aboveLd rfl (by omega) dX0_isUnder_28 ?_
                refine x_topi (y := nI 0) (by decide) ?_
                refine x_istore_n dX0_isUnder_29 (by decide) rfl ?_
                refine x_lv (lv' := [some (.int (nI 4)), some (.int (nI k)), some (.int (nI 0)), some (.int (nI (0 + 1)))]) rfl ?_
                refine x_iincN dX0_isUnder_30 rfl (by decide) rfl ?_
                refine x_lv (lv' := [some (.int (nI 4)), some (.int (nI k)), some (.int (nI 0)), some (.int (nI ((0 + 1) + 1)))]) rfl ?_
                refine x_goto (tgt := 4) dX0_isUnder_33 (by decide) ?_
                refine x_iload_n dX0_isUnder_4 rfl ?_
                refine x_bipush (v := nI 6) dX0_isUnder_5 (by decide) ?_
                refine x_icmpN_ge (tgt := 36) dX0_isUnder_7 (by decide) (by omega) (by omega) (fun hv53 => ?_) (fun hv53 => ?_)
                · exact absurd hv53 (by omega)
                · refine x_iload_n dX0_isUnder_10 rfl ?_
                  refine x_callS m_X0_isKind l_X0_15 (c_kindP (p := ((0 : Nat) : Int)) (nI_toInt (by omega))) (by omega) rfl rfl (Nat.le_of_ble_eq_true rfl) ⟨Nat.le_refl _, Nat.le_refl _⟩ dX0_isUnder_11 (fun r54 s54 q54 => ?_)
                  obtain ⟨rfl, eq54⟩ := q54
                  obtain rfl := eq54.symm
                  refine x_stk (st' := [.int (bI (decide (0 ≤ ((0 : Nat) : Int) ∧ ((0 : Nat) : Int) ≤ 5)))]) rfl ?_
                  refine x_ifP_eq (P := 0 ≤ ((0 : Nat) : Int) ∧ ((0 : Nat) : Int) ≤ 5) inferInstance (tgt := 36) dX0_isUnder_14 (by decide) (fun hv55 => ?_) (fun hv55 => ?_)
                  · exact absurd hv55 (by omega)
                  · refine x_iload_n dX0_isUnder_17 rfl ?_
                    refine x_iload_n dX0_isUnder_18 rfl ?_
                    refine x_icmpN_ne (tgt := 24) dX0_isUnder_19 (by decide) (by omega) (by omega) (fun hv56 => ?_) (fun hv56 => ?_)
                    · refine x_above g_X0_19 dX0_isUnder_24 ?_
                      refine x_iload_n dX0_isUnder_27 rfl ?_
                      refine x_aboveLd rfl (by omega) dX0_isUnder_28 ?_
                      refine x_topi (y := (-1)) (by decide) ?_
                      refine x_istore_n dX0_isUnder_29 (by decide) rfl ?_
                      refine x_lv (lv' := [some (.int (nI 4)), some (.int (nI k)), some (.int ((-1))), some (.int (nI ((0 + 1) + 1)))]) rfl ?_
                      refine x_iincN dX0_isUnder_30 rfl (by decide) rfl ?_
                      refine x_lv (lv' := [some (.int (nI 4)), some (.int (nI k)), some (.int ((-1))), some (.int (nI (((0 + 1) + 1) + 1)))]) rfl ?_
                      refine x_goto (tgt := 4) dX0_isUnder_33 (by decide) ?_
                      refine x_iload_n dX0_isUnder_4 rfl ?_
                      refine x_bipush (v := nI 6) dX0_isUnder_5 (by decide) ?_
                      refine x_icmpN_ge (tgt := 36) dX0_isUnder_7 (by decide) (by omega) (by omega) (fun hv57 => ?_) (fun hv57 => ?_)
                      · exact absurd hv57 (by omega)
                      · refine x_iload_n dX0_isUnder_10 rfl ?_
                        refine x_callS m_X0_isKind l_X0_15 (c_kindP (p := (-1)) (by decide)) (by omega) rfl rfl (Nat.le_of_ble_eq_true rfl) ⟨Nat.le_refl _, Nat.le_refl _⟩ dX0_isUnder_11 (fun r58 s58 q58 => ?_)
                        obtain ⟨rfl, eq58⟩ := q58
                        obtain rfl := eq58.symm
                        refine x_stk (st' := [.int (bI (decide (0 ≤ (-1) ∧ (-1) ≤ 5)))]) rfl ?_
                        refine x_ifP_eq (P := 0 ≤ (-1) ∧ (-1) ≤ 5) inferInstance (tgt := 36) dX0_isUnder_14 (by decide) (fun hv59 => ?_) (fun hv59 => ?_)
                        · refine x_iconst (v := nI 0) dX0_isUnder_36 (by decide) ?_
                          exact x_zret ⟨Nat.le_refl _, Nat.le_refl _⟩ rfl (by decide) dX0_isUnder_37 ⟨by rw [show undB 4 k = false from decide_eq_false (by omega)]; rfl, rfl⟩
                        · exact absurd hv59 (by omega)
                    · refine x_iconst (v := nI 1) dX0_isUnder_22 (by decide) ?_
                      exact x_zret ⟨Nat.le_refl _, Nat.le_refl _⟩ rfl (by decide) dX0_isUnder_23 ⟨by rw [show undB 4 k = true from decide_eq_true (by omega)]; rfl, rfl⟩
              · refine x_iconst (v := nI 1) dX0_isUnder_22 (by decide) ?_
                exact x_zret ⟨Nat.le_refl _, Nat.le_refl _⟩ rfl (by decide) dX0_isUnder_23 ⟨by rw [show undB 4 k = true from decide_eq_true (by omega)]; rfl, rfl⟩
        · refine x_iconst (v := nI 1) dX0_isUnder_22 (by decide) ?_
          exact x_zret ⟨Nat.le_refl _, Nat.le_refl _⟩ rfl (by decide) dX0_isUnder_23 ⟨by rw [show undB 4 k = true from decide_eq_true (by omega)]; rfl, rfl⟩
  · refine x_iload_n dX0_isUnder_0 rfl ?_
    refine x_istore_n dX0_isUnder_1 (by decide) rfl ?_
    refine x_lv (lv' := [some (.int (nI 5)), some (.int (nI k)), some (.int (nI 5)), none]) rfl ?_
    refine x_iconst (v := nI 0) dX0_isUnder_2 (by decide) ?_
    refine x_istore_n dX0_isUnder_3 (by decide) rfl ?_
    refine x_lv (lv' := [some (.int (nI 5)), some (.int (nI k)), some (.int (nI 5)), some (.int (nI 0))]) rfl ?_
    refine x_iload_n dX0_isUnder_4 rfl ?_
    refine x_bipush (v := nI 6) dX0_isUnder_5 (by decide) ?_
    refine x_icmpN_ge (tgt := 36) dX0_isUnder_7 (by decide) (by omega) (by omega) (fun hv60 => ?_) (fun hv60 => ?_)
    · exact absurd hv60 (by omega)
    · refine x_iload_n dX0_isUnder_10 rfl ?_
      refine x_callS m_X0_isKind l_X0_15 (c_kindP (p := ((5 : Nat) : Int)) (nI_toInt (by omega))) (by omega) rfl rfl (Nat.le_of_ble_eq_true rfl) ⟨Nat.le_refl _, Nat.le_refl _⟩ dX0_isUnder_11 (fun r61 s61 q61 => ?_)
      obtain ⟨rfl, eq61⟩ := q61
      obtain rfl := eq61.symm
      refine x_stk (st' := [.int (bI (decide (0 ≤ ((5 : Nat) : Int) ∧ ((5 : Nat) : Int) ≤ 5)))]) rfl ?_
      refine x_ifP_eq (P := 0 ≤ ((5 : Nat) : Int) ∧ ((5 : Nat) : Int) ≤ 5) inferInstance (tgt := 36) dX0_isUnder_14 (by decide) (fun hv62 => ?_) (fun hv62 => ?_)
      · exact absurd hv62 (by omega)
      · refine x_iload_n dX0_isUnder_17 rfl ?_
        refine x_iload_n dX0_isUnder_18 rfl ?_
        refine x_icmpN_ne (tgt := 24) dX0_isUnder_19 (by decide) (by omega) (by omega) (fun hv63 => ?_) (fun hv63 => ?_)
        · refine x_above g_X0_19 dX0_isUnder_24 ?_
          refine x_iload_n dX0_isUnder_27 rfl ?_
          refine x_aboveLd rfl (by omega) dX0_isUnder_28 ?_
          refine x_topi (y := nI 0) (by decide) ?_
          refine x_istore_n dX0_isUnder_29 (by decide) rfl ?_
          refine x_lv (lv' := [some (.int (nI 5)), some (.int (nI k)), some (.int (nI 0)), some (.int (nI 0))]) rfl ?_
          refine x_iincN dX0_isUnder_30 rfl (by decide) rfl ?_
          refine x_lv (lv' := [some (.int (nI 5)), some (.int (nI k)), some (.int (nI 0)), some (.int (nI (0 + 1)))]) rfl ?_
          refine x_goto (tgt := 4) dX0_isUnder_33 (by decide) ?_
          refine x_iload_n dX0_isUnder_4 rfl ?_
          refine x_bipush (v := nI 6) dX0_isUnder_5 (by decide) ?_
          refine x_icmpN_ge (tgt := 36) dX0_isUnder_7 (by decide) (by omega) (by omega) (fun hv64 => ?_) (fun hv64 => ?_)
          · exact absurd hv64 (by omega)
          · refine x_iload_n dX0_isUnder_10 rfl ?_
            refine x_callS m_X0_isKind l_X0_15 (c_kindP (p := ((0 : Nat) : Int)) (nI_toInt (by omega))) (by omega) rfl rfl (Nat.le_of_ble_eq_true rfl) ⟨Nat.le_refl _, Nat.le_refl _⟩ dX0_isUnder_11 (fun r65 s65 q65 => ?_)
            obtain ⟨rfl, eq65⟩ := q65
            obtain rfl := eq65.symm
            refine x_stk (st' := [.int (bI (decide (0 ≤ ((0 : Nat) : Int) ∧ ((0 : Nat) : Int) ≤ 5)))]) rfl ?_
            refine x_ifP_eq (P := 0 ≤ ((0 : Nat) : Int) ∧ ((0 : Nat) : Int) ≤ 5) inferInstance (tgt := 36) dX0_isUnder_14 (by decide) (fun hv66 => ?_) (fun hv66 => ?_)
            · exact absurd hv66 (by omega)
            · refine x_iload_n dX0_isUnder_17 rfl ?_
              refine x_iload_n dX0_isUnder_18 rfl ?_
              refine x_icmpN_ne (tgt := 24) dX0_isUnder_19 (by decide) (by omega) (by omega) (fun hv67 => ?_) (fun hv67 => ?_)
              · refine x_above g_X0_19 dX0_isUnder_24 ?_
                refine x_iload_n dX0_isUnder_27 rfl ?_
                refine x_aboveLd rfl (by omega) dX0_isUnder_28 ?_
                refine x_topi (y := (-1)) (by decide) ?_
                refine x_istore_n dX0_isUnder_29 (by decide) rfl ?_
                refine x_lv (lv' := [some (.int (nI 5)), some (.int (nI k)), some (.int ((-1))), some (.int (nI (0 + 1)))]) rfl ?_
                refine x_iincN dX0_isUnder_30 rfl (by decide) rfl ?_
                refine x_lv (lv' := [some (.int (nI 5)), some (.int (nI k)), some (.int ((-1))), some (.int (nI ((0 + 1) + 1)))]) rfl ?_
                refine x_goto (tgt := 4) dX0_isUnder_33 (by decide) ?_
                refine x_iload_n dX0_isUnder_4 rfl ?_
                refine x_bipush (v := nI 6) dX0_isUnder_5 (by decide) ?_
                refine x_icmpN_ge (tgt := 36) dX0_isUnder_7 (by decide) (by omega) (by omega) (fun hv68 => ?_) (fun hv68 => ?_)
                · exact absurd hv68 (by omega)
                · refine x_iload_n dX0_isUnder_10 rfl ?_
                  refine x_callS m_X0_isKind l_X0_15 (c_kindP (p := (-1)) (by decide)) (by omega) rfl rfl (Nat.le_of_ble_eq_true rfl) ⟨Nat.le_refl _, Nat.le_refl _⟩ dX0_isUnder_11 (fun r69 s69 q69 => ?_)
                  obtain ⟨rfl, eq69⟩ := q69
                  obtain rfl := eq69.symm
                  refine x_stk (st' := [.int (bI (decide (0 ≤ (-1) ∧ (-1) ≤ 5)))]) rfl ?_
                  refine x_ifP_eq (P := 0 ≤ (-1) ∧ (-1) ≤ 5) inferInstance (tgt := 36) dX0_isUnder_14 (by decide) (fun hv70 => ?_) (fun hv70 => ?_)
                  · refine x_iconst (v := nI 0) dX0_isUnder_36 (by decide) ?_
                    exact x_zret ⟨Nat.le_refl _, Nat.le_refl _⟩ rfl (by decide) dX0_isUnder_37 ⟨by rw [show undB 5 k = false from decide_eq_false (by omega)]; rfl, rfl⟩
                  · exact absurd hv70 (by omega)
              · refine x_iconst (v := nI 1) dX0_isUnder_22 (by decide) ?_
                exact x_zret ⟨Nat.le_refl _, Nat.le_refl _⟩ rfl (by decide) dX0_isUnder_23 ⟨by rw [show undB 5 k = true from decide_eq_true (by omega)]; rfl, rfl⟩
        · refine x_iconst (v := nI 1) dX0_isUnder_22 (by decide) ?_
          exact x_zret ⟨Nat.le_refl _, Nat.le_refl _⟩ rfl (by decide) dX0_isUnder_23 ⟨by rw [show undB 5 k = true from decide_eq_true (by omega)]; rfl, rfl⟩
set_option maxHeartbeats 4000000 in
theorem c_taken {σ : ZS} {tx ik : Int32} (k0 : zg σ 0 = some (.inr (.inr (6, [.ref 1, .ref 6, .ref 11, .ref 16, .ref 22, .ref 28, .ref 31, .int tx, .int ik])))) {rr dn ru n : Nat} {K N : List Nat} {W : List Int32} {D : List Nat} (h : Pa σ 1 (nI rr) (nI dn) (nI ru) n K N W D) {g k : Nat} (hg : g < n) (hk : k ≤ 5) : Cn 3 M_X7_taken 0 0 [.ref 0, .int (nI g), .int (nI k)] σ (fun r9 σ' => r9 = some (.int (takV N (K.getD g 0) k g)) ∧ σ' = σ) := by
  obtain ⟨g0, g1, g2, g3, g4, hn7, hK7, hN7, hW7, hD49, hK5, hN9, hD999⟩ := id h
  refine Cn.intro (lv0 := [some (.ref 0), some (.int (nI g)), some (.int (nI k))]) rfl (Nat.le_of_ble_eq_true rfl) rfl (fun d hd => ?_)
  refine x_iload_n dX7_taken_0 rfl ?_
  refine x_callS m_X0_isKind l_X7_93 (c_kindP (p := ((k : Nat) : Int)) (nI_toInt (by omega))) (by omega) rfl rfl (Nat.le_of_ble_eq_true rfl) ⟨Nat.le_refl _, Nat.le_refl _⟩ dX7_taken_1 (fun r1 s1 q1 => ?_)
  obtain ⟨rfl, eq1⟩ := q1
  obtain rfl := eq1.symm
  refine x_stk (st' := [.int (bI (decide (0 ≤ ((k : Nat) : Int) ∧ ((k : Nat) : Int) ≤ 5)))]) rfl ?_
  refine x_ifP_ne (P := 0 ≤ ((k : Nat) : Int) ∧ ((k : Nat) : Int) ≤ 5) inferInstance (tgt := 10) dX7_taken_4 (by decide) (fun hv2 => ?_) (fun hv2 => ?_)
  · refine x_aload_n dX7_taken_10 rfl ?_
    refine x_get (v := .ref 1) f_X7_10 k0 rfl dX7_taken_11 ?_
    refine x_iload_n dX7_taken_14 rfl ?_
    refine x_callV m_X2_has l_X7_82 (c_hasP h (p := ((g : Nat) : Int)) (nI_toInt (by omega))) rfl g0 (by omega) rfl rfl (Nat.le_of_ble_eq_true rfl) ⟨Nat.le_refl _, Nat.le_refl _⟩ dX7_taken_15 (fun r3 s3 q3 => ?_)
    obtain ⟨rfl, eq3⟩ := q3
    obtain rfl := eq3.symm
    refine x_stk (st' := [.int (bI (decide (0 ≤ ((g : Nat) : Int) ∧ ((g : Nat) : Int) < (n : Int))))]) rfl ?_
    refine x_ifP_ne (P := 0 ≤ ((g : Nat) : Int) ∧ ((g : Nat) : Int) < (n : Int)) inferInstance (tgt := 24) dX7_taken_18 (by decide) (fun hv4 => ?_) (fun hv4 => ?_)
    · refine x_aload_n dX7_taken_24 rfl ?_
      refine x_get (v := .ref 1) f_X7_10 k0 rfl dX7_taken_25 ?_
      refine x_get (v := .ref 2) f_X7_118 g0 rfl dX7_taken_28 ?_
      refine x_iload_n dX7_taken_31 rfl ?_
      refine x_iald (n := g) g1 rfl (by simp only [List.length_map, List.length_set, *] <;> omega) dX7_taken_32 ?_
      refine x_topi (y := nI ((K.getD g 0))) gm_getD ?_
      refine x_iload_n dX7_taken_33 rfl ?_
      refine x_callS m_X0_isUnder l_X7_313 (c_under (hK5 g) hk) (by omega) rfl rfl (Nat.le_of_ble_eq_true rfl) ⟨Nat.le_refl _, Nat.le_refl _⟩ dX7_taken_34 (fun r5 s5 q5 => ?_)
      obtain ⟨rfl, eq5⟩ := q5
      obtain rfl := eq5.symm
      refine x_stk (st' := [.int (bI ((undB (K.getD g 0) k)))]) rfl ?_
      refine x_ifB_eq (tgt := 52) dX7_taken_37 (by decide) (fun hv6 => ?_) (fun hv6 => ?_)
      · refine x_bipush (v := (-13)) dX7_taken_52 (by decide) ?_
        exact x_iret ⟨Nat.le_refl _, Nat.le_refl _⟩ rfl dX7_taken_54 ⟨by rw [takV, if_neg (by rw [hv6]; decide)], rfl⟩
      · refine x_aload_n dX7_taken_40 rfl ?_
        refine x_get (v := .ref 1) f_X7_10 k0 rfl dX7_taken_41 ?_
        refine x_get (v := .ref 3) f_X7_86 g0 rfl dX7_taken_44 ?_
        refine x_iload_n dX7_taken_47 rfl ?_
        refine x_iald (n := g) g2 rfl (by simp only [List.length_map, List.length_set, *] <;> omega) dX7_taken_48 ?_
        refine x_topi (y := nI ((N.getD g 0))) gm_getD ?_
        refine x_goto (tgt := 54) dX7_taken_49 (by decide) ?_
        exact x_iret ⟨Nat.le_refl _, Nat.le_refl _⟩ rfl dX7_taken_54 ⟨by rw [takV, if_pos hv6], rfl⟩
    · exact absurd hv4 (by omega)
  · exact absurd hv2 (by omega)
set_option maxHeartbeats 4000000 in
theorem c_taken_b1 {σ : ZS} {tx ik : Int32} (k0 : zg σ 0 = some (.inr (.inr (6, [.ref 1, .ref 6, .ref 11, .ref 16, .ref 22, .ref 28, .ref 31, .int tx, .int ik])))) {rr dn ru n : Nat} {K N : List Nat} {W : List Int32} {D : List Nat} (h : Pa σ 1 (nI rr) (nI dn) (nI ru) n K N W D) {x y : Int32} (hy : ¬ (0 ≤ y.toInt ∧ y.toInt ≤ 5)) : Cn 2 M_X7_taken 0 0 [.ref 0, .int x, .int y] σ (fun r9 σ' => r9 = some (.int (-2)) ∧ σ' = σ) := by
  obtain ⟨g0, g1, g2, g3, g4, hn7, hK7, hN7, hW7, hD49, hK5, hN9, hD999⟩ := id h
  refine Cn.intro (lv0 := [some (.ref 0), some (.int x), some (.int y)]) rfl (Nat.le_of_ble_eq_true rfl) rfl (fun d hd => ?_)
  refine x_iload_n dX7_taken_0 rfl ?_
  refine x_callS m_X0_isKind l_X7_93 (c_kindP (p := (y).toInt) rfl) (by omega) rfl rfl (Nat.le_of_ble_eq_true rfl) ⟨Nat.le_refl _, Nat.le_refl _⟩ dX7_taken_1 (fun r1 s1 q1 => ?_)
  obtain ⟨rfl, eq1⟩ := q1
  obtain rfl := eq1.symm
  refine x_stk (st' := [.int (bI (decide (0 ≤ (y).toInt ∧ (y).toInt ≤ 5)))]) rfl ?_
  refine x_ifP_ne (P := 0 ≤ (y).toInt ∧ (y).toInt ≤ 5) inferInstance (tgt := 10) dX7_taken_4 (by decide) (fun hv2 => ?_) (fun hv2 => ?_)
  · exact absurd hv2 (by omega)
  · refine x_bipush (v := (-2)) dX7_taken_7 (by decide) ?_
    exact x_iret ⟨Nat.le_refl _, Nat.le_refl _⟩ rfl dX7_taken_9 ⟨rfl, rfl⟩
set_option maxHeartbeats 4000000 in
theorem c_taken_b2 {σ : ZS} {tx ik : Int32} (k0 : zg σ 0 = some (.inr (.inr (6, [.ref 1, .ref 6, .ref 11, .ref 16, .ref 22, .ref 28, .ref 31, .int tx, .int ik])))) {rr dn ru n : Nat} {K N : List Nat} {W : List Int32} {D : List Nat} (h : Pa σ 1 (nI rr) (nI dn) (nI ru) n K N W D) {x y : Int32} (hy : 0 ≤ y.toInt ∧ y.toInt ≤ 5) (hx : ¬ (0 ≤ x.toInt ∧ x.toInt < (n : Int))) : Cn 2 M_X7_taken 0 0 [.ref 0, .int x, .int y] σ (fun r9 σ' => r9 = some (.int (-11)) ∧ σ' = σ) := by
  obtain ⟨g0, g1, g2, g3, g4, hn7, hK7, hN7, hW7, hD49, hK5, hN9, hD999⟩ := id h
  refine Cn.intro (lv0 := [some (.ref 0), some (.int x), some (.int y)]) rfl (Nat.le_of_ble_eq_true rfl) rfl (fun d hd => ?_)
  refine x_iload_n dX7_taken_0 rfl ?_
  refine x_callS m_X0_isKind l_X7_93 (c_kindP (p := (y).toInt) rfl) (by omega) rfl rfl (Nat.le_of_ble_eq_true rfl) ⟨Nat.le_refl _, Nat.le_refl _⟩ dX7_taken_1 (fun r1 s1 q1 => ?_)
  obtain ⟨rfl, eq1⟩ := q1
  obtain rfl := eq1.symm
  refine x_stk (st' := [.int (bI (decide (0 ≤ (y).toInt ∧ (y).toInt ≤ 5)))]) rfl ?_
  refine x_ifP_ne (P := 0 ≤ (y).toInt ∧ (y).toInt ≤ 5) inferInstance (tgt := 10) dX7_taken_4 (by decide) (fun hv2 => ?_) (fun hv2 => ?_)
  · refine x_aload_n dX7_taken_10 rfl ?_
    refine x_get (v := .ref 1) f_X7_10 k0 rfl dX7_taken_11 ?_
    refine x_iload_n dX7_taken_14 rfl ?_
    refine x_callV m_X2_has l_X7_82 (c_hasP h (p := (x).toInt) rfl) rfl g0 (by omega) rfl rfl (Nat.le_of_ble_eq_true rfl) ⟨Nat.le_refl _, Nat.le_refl _⟩ dX7_taken_15 (fun r3 s3 q3 => ?_)
    obtain ⟨rfl, eq3⟩ := q3
    obtain rfl := eq3.symm
    refine x_stk (st' := [.int (bI (decide (0 ≤ (x).toInt ∧ (x).toInt < (n : Int))))]) rfl ?_
    refine x_ifP_ne (P := 0 ≤ (x).toInt ∧ (x).toInt < (n : Int)) inferInstance (tgt := 24) dX7_taken_18 (by decide) (fun hv4 => ?_) (fun hv4 => ?_)
    · exact absurd hv4 (by omega)
    · refine x_bipush (v := (-11)) dX7_taken_21 (by decide) ?_
      exact x_iret ⟨Nat.le_refl _, Nat.le_refl _⟩ rfl dX7_taken_23 ⟨rfl, rfl⟩
  · exact absurd hv2 (by omega)
