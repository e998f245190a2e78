def FF (a : Nat → Int32) (F : List Int32) : Prop := ∀ j, j < 6 → a (15 + j) = F.getD j 0
theorem FF.fr {a a' : Nat → Int32} {F : List Int32} (h : FF a F) (hA : FrA a a') : FF a' F := fun j hj => (hA _ (by omega)).trans (h j hj)
def RPr (a : Nat → Int32) (tw : Int64) (b : Nat → List Int32) (L : List Nat) (op : Nat) (F : List Int32) (v : Int32) (res : PR) : Prop := match res with
  | .inl f => RPft a f
  | .inr q => RPok a tw b L q.2 op ∧ v = vE F q.1
/-- an evaluating method's contract where nothing has failed -/
def CE (kd : Nat) (M : MD) (op : Nat) (L : List Nat) (P : Nat → PR) : Prop := ∀ (σ0 σ : ZS) (a : Nat → Int32) (tw : Int64) (b : Nat → List Int32) (F : List Int32) (p : Nat), RM σ0 σ a tw b → RPok a tw b L p op → p ≤ L.length → FF a F → Cn kd M 0 0 [Value.ref 1000] σ (fun r9 σ' => ∃ (v : Int32) (a' : Nat → Int32) (tw' : Int64), r9 = some (.int v) ∧ RM σ0 σ' a' tw' b ∧ FrA a a' ∧ RPr a' tw' b L op F v (P p))
theorem CE.le {kd kd' : Nat} {M : MD} {op : Nat} {L : List Nat} {P : Nat → PR} (h : CE kd M op L P) (hk : kd ≤ kd') : CE kd' M op L P := fun σ0 σ a tw b F p a1 a2 a3 a4 d hd => h σ0 σ a tw b F p a1 a2 a3 a4 d (Nat.le_trans hk hd)
theorem jn42 (a b : Int32) : joinE 42 a b = a * b := rfl
theorem jn43 (a b : Int32) : joinE 43 a b = a + b := rfl
theorem jn45 (a b : Int32) : joinE 45 a b = a - b := rfl
theorem pend {L : List Nat} {p : Nat} (h : L.length ≤ p) : tkK L p = 0 := by
  have : lexP L p = p := skip_e h
  rw [tkK, this, if_pos h]
theorem r_isKey {σ0 σ : ZS} {a : Nat → Int32} {tw : Int64} {b : Nat → List Int32} {L : List Nat} {p op k : Nat} (hR : RM σ0 σ a tw b) (hO : RPok a tw b L p op) (hp : p ≤ L.length) (hk : k < 6) : Cn 2 M_X8_isWord 0 0 [.ref 1000, .int (nI (chr k 0)), .int (nI (chr k 1)), .int (nI (chr k 2)), .int (nI (chr k 3)), .int (nI (chr k 4)), .int (nI (chr k 5)), .int (nI (chr k 6)), .int (nI (chr k 7))] σ (fun r9 σ' => r9 = some (.int (bI (decide (tkK L p = 5 + k)))) ∧ σ' = σ) := by
  refine (r_isWord hR hO hp (show k < 12 by omega)).mono (fun r9 σ' hq => ⟨hq.1.trans ?_, hq.2⟩)
  congr 3
  rw [decide_eq_decide]
  constructor
  · rintro ⟨h1, h2⟩
    rw [(tk_word h1).2.2.1, h2, wIx_self k (by omega), wK, if_pos hk]
  · intro h
    have h1 : rK L p = 1 := by
      unfold rK
      unfold tkK at h
      by_cases e : L.length ≤ lexP L p
      · rw [if_pos e] at h; omega
      · rw [if_neg e] at h ⊢
        by_cases e2 : isLt (L.getD (lexP L p) 0) = true
        · rw [if_pos e2]
        · rw [if_neg e2] at h
          by_cases e3 : isDg (L.getD (lexP L p) 0) = true
          · rw [if_pos e3] at h
            split at h <;> omega
          · rw [if_neg e3] at h
            by_cases e4 : isSg (L.getD (lexP L p) 0) = true
            · rw [if_pos e4] at h
              have := of_decide_eq_true e4
              omega
            · rw [if_neg e4] at h; omega
    refine ⟨h1, ?_⟩
    rw [(tk_word h1).2.2.1] at h
    cases hw : wIx (wordAt L (lexP L p)) 12 with
    | none => rw [hw, wK] at h; omega
    | some j =>
      rw [hw, wK] at h
      have hj := wIx_lt hw
      by_cases hj6 : j < 6
      · rw [if_pos hj6] at h
        rw [show k = j by omega]
        exact hj.2.symm
      · rw [if_neg hj6] at h; omega
theorem r_isName {σ0 σ : ZS} {a : Nat → Int32} {tw : Int64} {b : Nat → List Int32} {L : List Nat} {p op k : Nat} (hR : RM σ0 σ a tw b) (hO : RPok a tw b L p op) (hp : p ≤ L.length) (hk : k < 6) : Cn 2 M_X8_isWord 0 0 [.ref 1000, .int (nI (chr (k + 6) 0)), .int (nI (chr (k + 6) 1)), .int (nI (chr (k + 6) 2)), .int (nI (chr (k + 6) 3)), .int (nI (chr (k + 6) 4)), .int (nI (chr (k + 6) 5)), .int (nI (chr (k + 6) 6)), .int (nI (chr (k + 6) 7))] σ (fun r9 σ' => r9 = some (.int (bI (decide (tkK L p = 3 ∧ tkV L p = k)))) ∧ σ' = σ) := by
  refine (r_isWord hR hO hp (show k + 6 < 12 by omega)).mono (fun r9 σ' hq => ⟨hq.1.trans ?_, hq.2⟩)
  congr 3
  rw [decide_eq_decide]
  constructor
  · rintro ⟨h1, h2⟩
    rw [(tk_word h1).2.2.1, (tk_word h1).2.2.2.1, h2, wIx_self (k + 6) (by omega), wK, wV, if_neg (by omega)]
    exact ⟨rfl, by omega⟩
  · rintro ⟨h, hv⟩
    have h1 : rK L p = 1 := by
      unfold rK
      unfold tkK at h
      by_cases e : L.length ≤ lexP L p
      · rw [if_pos e] at h; omega
      · rw [if_neg e] at h ⊢
        by_cases e2 : isLt (L.getD (lexP L p) 0) = true
        · rw [if_pos e2]
        · rw [if_neg e2] at h
          by_cases e3 : isDg (L.getD (lexP L p) 0) = true
          · rw [if_pos e3] at h
            split at h <;> omega
          · rw [if_neg e3] at h
            by_cases e4 : isSg (L.getD (lexP L p) 0) = true
            · rw [if_pos e4] at h
              have := of_decide_eq_true e4
              omega
            · rw [if_neg e4] at h; omega
    refine ⟨h1, ?_⟩
    rw [(tk_word h1).2.2.1] at h
    rw [(tk_word h1).2.2.2.1] at hv
    cases hw : wIx (wordAt L (lexP L p)) 12 with
    | none => rw [hw, wK] at h; omega
    | some j =>
      rw [hw, wK] at h
      rw [hw, wV] at hv
      have hj := wIx_lt hw
      by_cases hj6 : j < 6
      · rw [if_pos hj6] at h; omega
      · rw [show k + 6 = j by omega]
        exact hj.2.symm
set_option maxHeartbeats 4000000 in
theorem r_atom_ft {σ0 σ : ZS} {a : Nat → Int32} {tw : Int64} {b : Nat → List Int32} {f : Nat} (hR : RM σ0 σ a tw b) (hO : RPft a f) : Cn 1 M_X8_atom 0 0 [.ref 1000] σ (fun r9 σ' => ∃ v : Int32, r9 = some (.int v) ∧ σ' = σ) := by
  obtain ⟨t28, t29⟩ := id hO
  refine Cn.intro (lv0 := [some (.ref 1000), none]) rfl (Nat.le_of_ble_eq_true rfl) rfl (fun d hd => ?_)
  refine x_iconst (v := nI 0) dX8_atom_0 (by decide) ?_
  refine x_istore_n dX8_atom_1 (by decide) rfl ?_
  refine x_lv (lv' := [some (.ref 1000), some (.int (nI 0))]) rfl ?_
  refine x_aload_n dX8_atom_2 rfl ?_
  refine x_bipush (v := nI 45) dX8_atom_3 (by decide) ?_
  refine x_callV m_X8_isSign l_X8_212 (r_isSign_ft hR hO) rfl hR.2.1 (by omega) rfl rfl (Nat.le_of_ble_eq_true rfl) ⟨Nat.le_refl _, Nat.le_refl _⟩ dX8_atom_5 (fun r1 s1 q1 => ?_)
  obtain ⟨rfl, eq1⟩ := q1
  obtain rfl := eq1.symm
  refine x_stk (st' := [.int (nI 0)]) rfl ?_
  refine x_ifN_eq (tgt := 37) dX8_atom_8 (by decide) (by omega) (fun hv2 => ?_) (fun hv2 => ?_)
  · refine x_aload_n dX8_atom_37 rfl ?_
    refine x_bipush (v := nI 40) dX8_atom_38 (by decide) ?_
    refine x_callV m_X8_isSign l_X8_212 (r_isSign_ft hR hO) rfl hR.2.1 (by omega) rfl rfl (Nat.le_of_ble_eq_true rfl) ⟨Nat.le_refl _, Nat.le_refl _⟩ dX8_atom_40 (fun r3 s3 q3 => ?_)
    obtain ⟨rfl, eq3⟩ := q3
    obtain rfl := eq3.symm
    refine x_stk (st' := [.int (nI 0)]) rfl ?_
    refine x_ifN_eq (tgt := 95) dX8_atom_43 (by decide) (by omega) (fun hv4 => ?_) (fun hv4 => ?_)
    · refine x_aload_n dX8_atom_95 rfl ?_
      refine x_rget (v := .int (nI 1)) f_X8_171 hR (rg t28) dX8_atom_96 ?_
      refine x_ifN_ne (tgt := 123) dX8_atom_99 (by decide) (by omega) (fun hv5 => ?_) (fun hv5 => ?_)
      · refine x_aload_n dX8_atom_123 rfl ?_
        refine x_rget (v := .int (nI 1)) f_X8_171 hR (rg t28) dX8_atom_124 ?_
        refine x_ifN_ne (tgt := 157) dX8_atom_127 (by decide) (by omega) (fun hv6 => ?_) (fun hv6 => ?_)
        · refine x_aload_n dX8_atom_157 rfl ?_
          refine x_callV m_X8_fail l_X8_184 (r_fail_ft hR hO) rfl hR.2.1 (by omega) rfl rfl (Nat.le_of_ble_eq_true rfl) ⟨Nat.le_refl _, Nat.le_refl _⟩ dX8_atom_158 (fun r7 s7 q7 => ?_)
          obtain ⟨rfl, eq7⟩ := q7
          obtain rfl := eq7.symm
          refine x_stk (st' := []) rfl ?_
          refine x_iload_n dX8_atom_161 rfl ?_
          exact x_iret ⟨Nat.le_refl _, Nat.le_refl _⟩ rfl dX8_atom_162 ⟨_, rfl, rfl⟩
        · exact absurd hv6 (by decide)
      · exact absurd hv5 (by decide)
    · exact absurd hv4 (by decide)
  · exact absurd hv2 (by decide)
set_option maxHeartbeats 4000000 in
theorem r_term_ft {σ0 σ : ZS} {a : Nat → Int32} {tw : Int64} {b : Nat → List Int32} {f : Nat} (hR : RM σ0 σ a tw b) (hO : RPft a f) : Cn 2 M_X8_term 0 0 [.ref 1000] σ (fun r9 σ' => ∃ v : Int32, r9 = some (.int v) ∧ σ' = σ) := by
  obtain ⟨t28, t29⟩ := id hO
  refine Cn.intro (lv0 := [some (.ref 1000), none]) rfl (Nat.le_of_ble_eq_true rfl) rfl (fun d hd => ?_)
  refine x_aload_n dX8_term_0 rfl ?_
  refine x_callV m_X8_atom l_X8_219 (r_atom_ft hR hO) rfl hR.2.1 (by omega) rfl rfl (Nat.le_of_ble_eq_true rfl) ⟨Nat.le_refl _, Nat.le_refl _⟩ dX8_term_1 (fun r1 s1 q1 => ?_)
  obtain ⟨v1, rfl, eq1⟩ := q1
  obtain rfl := eq1.symm
  refine x_stk (st' := [.int v1]) rfl ?_
  refine x_istore_n dX8_term_4 (by decide) rfl ?_
  refine x_lv (lv' := [some (.ref 1000), some (.int v1)]) rfl ?_
  refine x_aload_n dX8_term_5 rfl ?_
  refine x_bipush (v := nI 42) dX8_term_6 (by decide) ?_
  refine x_callV m_X8_isSign l_X8_212 (r_isSign_ft hR hO) rfl hR.2.1 (by omega) rfl rfl (Nat.le_of_ble_eq_true rfl) ⟨Nat.le_refl _, Nat.le_refl _⟩ dX8_term_8 (fun r2 s2 q2 => ?_)
  obtain ⟨rfl, eq2⟩ := q2
  obtain rfl := eq2.symm
  refine x_stk (st' := [.int (nI 0)]) rfl ?_
  refine x_ifN_eq (tgt := 28) dX8_term_11 (by decide) (by omega) (fun hv3 => ?_) (fun hv3 => ?_)
  · refine x_iload_n dX8_term_28 rfl ?_
    exact x_iret ⟨Nat.le_refl _, Nat.le_refl _⟩ rfl dX8_term_29 ⟨_, rfl, rfl⟩
  · exact absurd hv3 (by decide)
set_option maxHeartbeats 4000000 in
theorem r_added_ft {σ0 σ : ZS} {a : Nat → Int32} {tw : Int64} {b : Nat → List Int32} {f : Nat} (hR : RM σ0 σ a tw b) (hO : RPft a f) : Cn 3 M_X8_added 0 0 [.ref 1000] σ (fun r9 σ' => ∃ v : Int32, r9 = some (.int v) ∧ σ' = σ) := by
  obtain ⟨t28, t29⟩ := id hO
  refine Cn.intro (lv0 := [some (.ref 1000), none, none, none]) rfl (Nat.le_of_ble_eq_true rfl) rfl (fun d hd => ?_)
  refine x_aload_n dX8_added_0 rfl ?_
  refine x_callV m_X8_term l_X8_229 (r_term_ft hR hO) rfl hR.2.1 (by omega) rfl rfl (Nat.le_of_ble_eq_true rfl) ⟨Nat.le_refl _, Nat.le_refl _⟩ dX8_added_1 (fun r1 s1 q1 => ?_)
  obtain ⟨v1, rfl, eq1⟩ := q1
  obtain rfl := eq1.symm
  refine x_stk (st' := [.int v1]) rfl ?_
  refine x_istore_n dX8_added_4 (by decide) rfl ?_
  refine x_lv (lv' := [some (.ref 1000), some (.int v1), none, none]) rfl ?_
  refine x_aload_n dX8_added_5 rfl ?_
  refine x_bipush (v := nI 43) dX8_added_6 (by decide) ?_
  refine x_callV m_X8_isSign l_X8_212 (r_isSign_ft hR hO) rfl hR.2.1 (by omega) rfl rfl (Nat.le_of_ble_eq_true rfl) ⟨Nat.le_refl _, Nat.le_refl _⟩ dX8_added_8 (fun r2 s2 q2 => ?_)
  obtain ⟨rfl, eq2⟩ := q2
  obtain rfl := eq2.symm
  refine x_stk (st' := [.int (nI 0)]) rfl ?_
  refine x_ifN_ne (tgt := 23) dX8_added_11 (by decide) (by omega) (fun hv3 => ?_) (fun hv3 => ?_)
  · exact absurd hv3 (by decide)
  · refine x_aload_n dX8_added_14 rfl ?_
    refine x_bipush (v := nI 45) dX8_added_15 (by decide) ?_
    refine x_callV m_X8_isSign l_X8_212 (r_isSign_ft hR hO) rfl hR.2.1 (by omega) rfl rfl (Nat.le_of_ble_eq_true rfl) ⟨Nat.le_refl _, Nat.le_refl _⟩ dX8_added_17 (fun r4 s4 q4 => ?_)
    obtain ⟨rfl, eq4⟩ := q4
    obtain rfl := eq4.symm
    refine x_stk (st' := [.int (nI 0)]) rfl ?_
    refine x_ifN_eq (tgt := 66) dX8_added_20 (by decide) (by omega) (fun hv5 => ?_) (fun hv5 => ?_)
    · refine x_iload_n dX8_added_66 rfl ?_
      exact x_iret ⟨Nat.le_refl _, Nat.le_refl _⟩ rfl dX8_added_67 ⟨_, rfl, rfl⟩
    · exact absurd hv5 (by decide)
set_option maxHeartbeats 4000000 in
theorem r_not_ft {σ0 σ : ZS} {a : Nat → Int32} {tw : Int64} {b : Nat → List Int32} {f : Nat} (hR : RM σ0 σ a tw b) (hO : RPft a f) : Cn 4 M_X8_not 0 0 [.ref 1000] σ (fun r9 σ' => ∃ v : Int32, r9 = some (.int v) ∧ σ' = σ) := by
  obtain ⟨t28, t29⟩ := id hO
  refine Cn.intro (lv0 := [some (.ref 1000), none, none, none]) rfl (Nat.le_of_ble_eq_true rfl) rfl (fun d hd => ?_)
  refine x_aload_n dX8_not_0 rfl ?_
  refine x_bipush (v := nI 110) dX8_not_1 (by decide) ?_
  refine x_bipush (v := nI 111) dX8_not_3 (by decide) ?_
  refine x_bipush (v := nI 116) dX8_not_5 (by decide) ?_
  refine x_iconst (v := nI 0) dX8_not_7 (by decide) ?_
  refine x_iconst (v := nI 0) dX8_not_8 (by decide) ?_
  refine x_iconst (v := nI 0) dX8_not_9 (by decide) ?_
  refine x_iconst (v := nI 0) dX8_not_10 (by decide) ?_
  refine x_iconst (v := nI 0) dX8_not_11 (by decide) ?_
  refine x_callV m_X8_isWord l_X8_190 (r_isWord_ft hR hO) rfl hR.2.1 (by omega) rfl rfl (Nat.le_of_ble_eq_true rfl) ⟨Nat.le_refl _, Nat.le_refl _⟩ dX8_not_12 (fun r1 s1 q1 => ?_)
  obtain ⟨rfl, eq1⟩ := q1
  obtain rfl := eq1.symm
  refine x_stk (st' := [.int (nI 0)]) rfl ?_
  refine x_ifN_eq (tgt := 52) dX8_not_15 (by decide) (by omega) (fun hv2 => ?_) (fun hv2 => ?_)
  · refine x_aload_n dX8_not_52 rfl ?_
    refine x_callV m_X8_added l_X8_237 (r_added_ft hR hO) rfl hR.2.1 (by omega) rfl rfl (Nat.le_of_ble_eq_true rfl) ⟨Nat.le_refl _, Nat.le_refl _⟩ dX8_not_53 (fun r3 s3 q3 => ?_)
    obtain ⟨v3, rfl, eq3⟩ := q3
    obtain rfl := eq3.symm
    refine x_stk (st' := [.int v3]) rfl ?_
    refine x_istore_n dX8_not_56 (by decide) rfl ?_
    refine x_lv (lv' := [some (.ref 1000), some (.int v3), none, none]) rfl ?_
    refine x_aload_n dX8_not_57 rfl ?_
    refine x_bipush (v := nI 60) dX8_not_58 (by decide) ?_
    refine x_callV m_X8_isSign l_X8_212 (r_isSign_ft hR hO) rfl hR.2.1 (by omega) rfl rfl (Nat.le_of_ble_eq_true rfl) ⟨Nat.le_refl _, Nat.le_refl _⟩ dX8_not_60 (fun r4 s4 q4 => ?_)
    obtain ⟨rfl, eq4⟩ := q4
    obtain rfl := eq4.symm
    refine x_stk (st' := [.int (nI 0)]) rfl ?_
    refine x_ifN_ne (tgt := 77) dX8_not_63 (by decide) (by omega) (fun hv5 => ?_) (fun hv5 => ?_)
    · exact absurd hv5 (by decide)
    · refine x_aload_n dX8_not_66 rfl ?_
      refine x_bipush (v := nI 61) dX8_not_67 (by decide) ?_
      refine x_callV m_X8_isSign l_X8_212 (r_isSign_ft hR hO) rfl hR.2.1 (by omega) rfl rfl (Nat.le_of_ble_eq_true rfl) ⟨Nat.le_refl _, Nat.le_refl _⟩ dX8_not_69 (fun r6 s6 q6 => ?_)
      obtain ⟨rfl, eq6⟩ := q6
      obtain rfl := eq6.symm
      refine x_stk (st' := [.int (nI 0)]) rfl ?_
      refine x_ifN_ne (tgt := 77) dX8_not_72 (by decide) (by omega) (fun hv7 => ?_) (fun hv7 => ?_)
      · exact absurd hv7 (by decide)
      · refine x_iload_n dX8_not_75 rfl ?_
        exact x_iret ⟨Nat.le_refl _, Nat.le_refl _⟩ rfl dX8_not_76 ⟨_, rfl, rfl⟩
  · exact absurd hv2 (by decide)
set_option maxHeartbeats 4000000 in
theorem r_both_ft {σ0 σ : ZS} {a : Nat → Int32} {tw : Int64} {b : Nat → List Int32} {f : Nat} (hR : RM σ0 σ a tw b) (hO : RPft a f) : Cn 5 M_X8_both 0 0 [.ref 1000] σ (fun r9 σ' => ∃ v : Int32, r9 = some (.int v) ∧ σ' = σ) := by
  obtain ⟨t28, t29⟩ := id hO
  refine Cn.intro (lv0 := [some (.ref 1000), none, none]) rfl (Nat.le_of_ble_eq_true rfl) rfl (fun d hd => ?_)
  refine x_aload_n dX8_both_0 rfl ?_
  refine x_callV m_X8_not l_X8_234 (r_not_ft hR hO) rfl hR.2.1 (by omega) rfl rfl (Nat.le_of_ble_eq_true rfl) ⟨Nat.le_refl _, Nat.le_refl _⟩ dX8_both_1 (fun r1 s1 q1 => ?_)
  obtain ⟨v1, rfl, eq1⟩ := q1
  obtain rfl := eq1.symm
  refine x_stk (st' := [.int v1]) rfl ?_
  refine x_istore_n dX8_both_4 (by decide) rfl ?_
  refine x_lv (lv' := [some (.ref 1000), some (.int v1), none]) rfl ?_
  refine x_aload_n dX8_both_5 rfl ?_
  refine x_bipush (v := nI 97) dX8_both_6 (by decide) ?_
  refine x_bipush (v := nI 110) dX8_both_8 (by decide) ?_
  refine x_bipush (v := nI 100) dX8_both_10 (by decide) ?_
  refine x_iconst (v := nI 0) dX8_both_12 (by decide) ?_
  refine x_iconst (v := nI 0) dX8_both_13 (by decide) ?_
  refine x_iconst (v := nI 0) dX8_both_14 (by decide) ?_
  refine x_iconst (v := nI 0) dX8_both_15 (by decide) ?_
  refine x_iconst (v := nI 0) dX8_both_16 (by decide) ?_
  refine x_callV m_X8_isWord l_X8_190 (r_isWord_ft hR hO) rfl hR.2.1 (by omega) rfl rfl (Nat.le_of_ble_eq_true rfl) ⟨Nat.le_refl _, Nat.le_refl _⟩ dX8_both_17 (fun r2 s2 q2 => ?_)
  obtain ⟨rfl, eq2⟩ := q2
  obtain rfl := eq2.symm
  refine x_stk (st' := [.int (nI 0)]) rfl ?_
  refine x_ifN_eq (tgt := 49) dX8_both_20 (by decide) (by omega) (fun hv3 => ?_) (fun hv3 => ?_)
  · refine x_iload_n dX8_both_49 rfl ?_
    exact x_iret ⟨Nat.le_refl _, Nat.le_refl _⟩ rfl dX8_both_50 ⟨_, rfl, rfl⟩
  · exact absurd hv3 (by decide)
set_option maxHeartbeats 4000000 in
theorem r_either_ft {σ0 σ : ZS} {a : Nat → Int32} {tw : Int64} {b : Nat → List Int32} {f : Nat} (hR : RM σ0 σ a tw b) (hO : RPft a f) : Cn 6 M_X8_either 0 0 [.ref 1000] σ (fun r9 σ' => ∃ v : Int32, r9 = some (.int v) ∧ σ' = σ) := by
  obtain ⟨t28, t29⟩ := id hO
  refine Cn.intro (lv0 := [some (.ref 1000), none, none]) rfl (Nat.le_of_ble_eq_true rfl) rfl (fun d hd => ?_)
  refine x_aload_n dX8_either_0 rfl ?_
  refine x_callV m_X8_both l_X8_242 (r_both_ft hR hO) rfl hR.2.1 (by omega) rfl rfl (Nat.le_of_ble_eq_true rfl) ⟨Nat.le_refl _, Nat.le_refl _⟩ dX8_either_1 (fun r1 s1 q1 => ?_)
  obtain ⟨v1, rfl, eq1⟩ := q1
  obtain rfl := eq1.symm
  refine x_stk (st' := [.int v1]) rfl ?_
  refine x_istore_n dX8_either_4 (by decide) rfl ?_
  refine x_lv (lv' := [some (.ref 1000), some (.int v1), none]) rfl ?_
  refine x_aload_n dX8_either_5 rfl ?_
  refine x_bipush (v := nI 111) dX8_either_6 (by decide) ?_
  refine x_bipush (v := nI 114) dX8_either_8 (by decide) ?_
  refine x_iconst (v := nI 0) dX8_either_10 (by decide) ?_
  refine x_iconst (v := nI 0) dX8_either_11 (by decide) ?_
  refine x_iconst (v := nI 0) dX8_either_12 (by decide) ?_
  refine x_iconst (v := nI 0) dX8_either_13 (by decide) ?_
  refine x_iconst (v := nI 0) dX8_either_14 (by decide) ?_
  refine x_iconst (v := nI 0) dX8_either_15 (by decide) ?_
  refine x_callV m_X8_isWord l_X8_190 (r_isWord_ft hR hO) rfl hR.2.1 (by omega) rfl rfl (Nat.le_of_ble_eq_true rfl) ⟨Nat.le_refl _, Nat.le_refl _⟩ dX8_either_16 (fun r2 s2 q2 => ?_)
  obtain ⟨rfl, eq2⟩ := q2
  obtain rfl := eq2.symm
  refine x_stk (st' := [.int (nI 0)]) rfl ?_
  refine x_ifN_eq (tgt := 48) dX8_either_19 (by decide) (by omega) (fun hv3 => ?_) (fun hv3 => ?_)
  · refine x_iload_n dX8_either_48 rfl ?_
    exact x_iret ⟨Nat.le_refl _, Nat.le_refl _⟩ rfl dX8_either_49 ⟨_, rfl, rfl⟩
  · exact absurd hv3 (by decide)
