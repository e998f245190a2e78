section Chr
variable {M : MD} {d mc ms kc ks pc : Nat} {Q : Option Value → ZS → Prop} {lv : List (Option Value)} {st : List Value} {σ : ZS}
theorem x_i2c {x : Int32} (hd : decode M.2.1 pc = .ok (.i2c, 1)) (k : X M d mc ms Q kc ks (pc + 1) lv (.int (x.toUInt32 % 65536).toInt32 :: st) σ) : X M d mc ms Q kc ks pc lv (.int x :: st) σ := by
  intro c p l e s m args below meth cd H locs cells slots ls F R L hc hs V
  exact lv_i2c F.1 F.2.1 hd rfl (k c p l e s m args below meth cd H locs cells slots ls F R L hc hs V)
end Chr
def chr (w k : Nat) : Nat := (WD.getD w []).getD k 0
theorem zlen_eq : ∀ w, w < 12 → zlen.getD w 0 = (WD.getD w []).length := by decide
theorem zlen_le : ∀ w, w < 12 → zlen.getD w 0 ≤ 8 := by decide
theorem shr0 : ∀ w, w < 12 → nI (zlen.getD w 0) >>> (nI 0 &&& 31) = nI (zlen.getD w 0) := by decide +kernel
theorem chr_eq : ∀ w, w < 12 → ∀ k, k < 8 → (((zbyt.getD w []).getD k 0 &&& nI 255).toUInt32 % 65536).toInt32 = nI (chr w k) := by decide +kernel
theorem chr_nar : ∀ w, w < 12 → ∀ k, k < 8 → narrow .char (.int (nI (chr w k))) = .int (nI (chr w k)) := by decide +kernel
theorem chr_le : ∀ w, w < 12 → ∀ k, k < 8 → chr w k ≤ 255 := by decide +kernel
theorem byte0 : narrow .byte (.int (nI 0)) = .int (nI 0) := by decide
set_option maxHeartbeats 4000000 in
theorem c_coder {σ : ZS} {w : Nat} (hw : w < 12) : Cn 0 M_J0_coder_7d493 0 0 [.ref ((3000 + w))] σ (fun r σ' => r = some (.int (nI 0)) ∧ σ' = σ) := by
  refine Cn.intro (lv0 := [some (.ref ((3000 + w)))]) rfl (Nat.le_of_ble_eq_true rfl) rfl (fun d hd => ?_)
  refine x_compact g_J0_38 dJ0_coder_7d493_0 ?_
  refine x_topi (y := nI 1) (by decide) ?_
  refine x_ifN_eq (tgt := 13) dJ0_coder_7d493_3 (by decide) (by omega) (fun hv1 => ?_) (fun hv1 => ?_)
  · exact absurd hv1 (by decide)
  · refine x_aload_n dJ0_coder_7d493_6 rfl ?_
    refine x_strCoder (by omega) g_J0_15 dJ0_coder_7d493_7 ?_
    refine x_topi (y := nI 0) (by decide) ?_
    refine x_goto (tgt := 14) dJ0_coder_7d493_10 (by decide) ?_
    exact x_zret ⟨Nat.le_refl _, Nat.le_refl _⟩ rfl byte0 dJ0_coder_7d493_14 ⟨rfl, rfl⟩
set_option maxHeartbeats 4000000 in
theorem c_isLatin1 {σ : ZS} {w : Nat} (hw : w < 12) : Cn 0 M_J0_isLatin1_aae02 0 0 [.ref ((3000 + w))] σ (fun r σ' => r = some (.int (nI 1)) ∧ σ' = σ) := by
  refine Cn.intro (lv0 := [some (.ref ((3000 + w)))]) rfl (Nat.le_of_ble_eq_true rfl) rfl (fun d hd => ?_)
  refine x_compact g_J0_38 dJ0_isLatin1_aae02_0 ?_
  refine x_topi (y := nI 1) (by decide) ?_
  refine x_ifN_eq (tgt := 17) dJ0_isLatin1_aae02_3 (by decide) (by omega) (fun hv1 => ?_) (fun hv1 => ?_)
  · exact absurd hv1 (by decide)
  · refine x_aload_n dJ0_isLatin1_aae02_6 rfl ?_
    refine x_strCoder (by omega) g_J0_15 dJ0_isLatin1_aae02_7 ?_
    refine x_topi (y := nI 0) (by decide) ?_
    refine x_ifN_ne (tgt := 17) dJ0_isLatin1_aae02_10 (by decide) (by omega) (fun hv2 => ?_) (fun hv2 => ?_)
    · exact absurd hv2 (by decide)
    · refine x_iconst (v := nI 1) dJ0_isLatin1_aae02_13 (by decide) ?_
      refine x_goto (tgt := 18) dJ0_isLatin1_aae02_14 (by decide) ?_
      exact x_zret ⟨Nat.le_refl _, Nat.le_refl _⟩ rfl (by decide) dJ0_isLatin1_aae02_18 ⟨rfl, rfl⟩
set_option maxHeartbeats 4000000 in
theorem c_strlen {σ : ZS} {w : Nat} (hw : w < 12) : Cn 1 M_J0_length_8abf5 0 0 [.ref ((3000 + w))] σ (fun r σ' => r = some (.int (nI (zlen.getD w 0))) ∧ σ' = σ) := by
  refine Cn.intro (lv0 := [some (.ref ((3000 + w)))]) rfl (Nat.le_of_ble_eq_true rfl) rfl (fun d hd => ?_)
  refine x_aload_n dJ0_length_8abf5_0 rfl ?_
  refine x_strVal (by omega) g_J0_9 dJ0_length_8abf5_1 ?_
  refine x_bytLen (by omega) dJ0_length_8abf5_4 ?_
  refine x_aload_n dJ0_length_8abf5_5 rfl ?_
  refine x_callVS (by omega) m_J0_coder_7d493 rfl l_J0_335 (c_coder hw) (by omega) rfl rfl (Nat.le_of_ble_eq_true rfl) ⟨Nat.le_refl _, Nat.le_refl _⟩ dJ0_length_8abf5_6 (fun r1 s1 q1 => ?_)
  obtain ⟨rfl, eq1⟩ := q1
  obtain rfl := eq1.symm
  refine x_stk (st' := [.int (nI 0), .int (nI ((zlen.getD w 0)))]) rfl ?_
  refine x_ishr dJ0_length_8abf5_9 ?_
  exact x_iret ⟨Nat.le_refl _, Nat.le_refl _⟩ rfl dJ0_length_8abf5_10 ⟨by rw [shr0 w hw], rfl⟩
set_option maxHeartbeats 4000000 in
theorem c_ckN {σ : ZS} {i n : Nat} (hi : i < n) (hn : n < 1000) : Cn 0 M_J3_checkIndex_8e157 0 0 [.int (nI i), .int (nI n), .null] σ (fun r σ' => r = some (.int (nI i)) ∧ σ' = σ) := by
  refine Cn.intro (lv0 := [some (.int (nI i)), some (.int (nI n)), some (.null)]) rfl (Nat.le_of_ble_eq_true rfl) rfl (fun d hd => ?_)
  refine x_iload_n dJ3_checkIndex_8e157_0 rfl ?_
  refine x_ifN_lt (tgt := 9) dJ3_checkIndex_8e157_1 (by omega) ?_ (by decide)
  refine x_iload_n dJ3_checkIndex_8e157_4 rfl ?_
  refine x_iload_n dJ3_checkIndex_8e157_5 rfl ?_
  refine x_icmpN_lt (tgt := 16) dJ3_checkIndex_8e157_6 (by decide) (by omega) (by omega) (fun hv2 => ?_) (fun hv2 => ?_)
  · refine x_iload_n dJ3_checkIndex_8e157_16 rfl ?_
    exact x_iret ⟨Nat.le_refl _, Nat.le_refl _⟩ rfl dJ3_checkIndex_8e157_17 ⟨rfl, rfl⟩
  · exact absurd hv2 (by omega)
set_option maxHeartbeats 4000000 in
theorem c_ckR {σ : ZS} {i n : Nat} (hi : i < n) (hn : n < 1000) : Cn 0 M_J3_checkIndex_8e157 0 0 [.int (nI i), .int (nI n), .ref 3025] σ (fun r σ' => r = some (.int (nI i)) ∧ σ' = σ) := by
  refine Cn.intro (lv0 := [some (.int (nI i)), some (.int (nI n)), some (.ref 3025)]) rfl (Nat.le_of_ble_eq_true rfl) rfl (fun d hd => ?_)
  refine x_iload_n dJ3_checkIndex_8e157_0 rfl ?_
  refine x_ifN_lt (tgt := 9) dJ3_checkIndex_8e157_1 (by omega) ?_ (by decide)
  refine x_iload_n dJ3_checkIndex_8e157_4 rfl ?_
  refine x_iload_n dJ3_checkIndex_8e157_5 rfl ?_
  refine x_icmpN_lt (tgt := 16) dJ3_checkIndex_8e157_6 (by decide) (by omega) (by omega) (fun hv2 => ?_) (fun hv2 => ?_)
  · refine x_iload_n dJ3_checkIndex_8e157_16 rfl ?_
    exact x_iret ⟨Nat.le_refl _, Nat.le_refl _⟩ rfl dJ3_checkIndex_8e157_17 ⟨rfl, rfl⟩
  · exact absurd hv2 (by omega)
set_option maxHeartbeats 4000000 in
theorem c_ck {σ : ZS} {i n : Nat} (hi : i < n) (hn : n < 1000) : Cn 1 M_J0_checkIndex_df160 0 0 [.int (nI i), .int (nI n)] σ (fun r σ' => r = none ∧ σ' = σ) := by
  refine Cn.intro (lv0 := [some (.int (nI i)), some (.int (nI n))]) rfl (Nat.le_of_ble_eq_true rfl) rfl (fun d hd => ?_)
  refine x_iload_n dJ0_checkIndex_df160_0 rfl ?_
  refine x_iload_n dJ0_checkIndex_df160_1 rfl ?_
  refine x_fmt g_J0_1053 dJ0_checkIndex_df160_2 (fun fv1 hf1 => ?_)
  rcases hf1 with rfl | rfl
  · refine x_callS m_J3_checkIndex_8e157 l_J0_1059 (c_ckN hi hn) (by omega) rfl rfl (Nat.le_of_ble_eq_true rfl) ⟨Nat.le_refl _, Nat.le_refl _⟩ dJ0_checkIndex_df160_5 (fun r2 s2 q2 => ?_)
    obtain ⟨rfl, eq2⟩ := q2
    obtain rfl := eq2.symm
    refine x_stk (st' := [.int (nI i)]) rfl ?_
    refine x_pop dJ0_checkIndex_df160_8 rfl ?_
    exact x_vret ⟨Nat.le_refl _, Nat.le_refl _⟩ rfl dJ0_checkIndex_df160_9 ⟨rfl, rfl⟩
  · refine x_callS m_J3_checkIndex_8e157 l_J0_1059 (c_ckR hi hn) (by omega) rfl rfl (Nat.le_of_ble_eq_true rfl) ⟨Nat.le_refl _, Nat.le_refl _⟩ dJ0_checkIndex_df160_5 (fun r3 s3 q3 => ?_)
    obtain ⟨rfl, eq3⟩ := q3
    obtain rfl := eq3.symm
    refine x_stk (st' := [.int (nI i)]) rfl ?_
    refine x_pop dJ0_checkIndex_df160_8 rfl ?_
    exact x_vret ⟨Nat.le_refl _, Nat.le_refl _⟩ rfl dJ0_checkIndex_df160_9 ⟨rfl, rfl⟩
set_option maxHeartbeats 4000000 in
theorem c_l1charAt {σ : ZS} {w : Nat} (hw : w < 12) {k : Nat} (hk : k < zlen.getD w 0) : Cn 2 M_J1_charAt_3b067 0 0 [.ref ((3000 + (13 + w))), .int (nI k)] σ (fun r σ' => r = some (.int (nI (chr w k))) ∧ σ' = σ) := by
  have hz := zlen_le w hw
  refine Cn.intro (lv0 := [some (.ref ((3000 + (13 + w)))), some (.int (nI k))]) rfl (Nat.le_of_ble_eq_true rfl) rfl (fun d hd => ?_)
  refine x_iload_n dJ1_charAt_3b067_0 rfl ?_
  refine x_aload_n dJ1_charAt_3b067_1 rfl ?_
  refine x_bytLen (by omega) dJ1_charAt_3b067_2 ?_
  refine x_callS m_J0_checkIndex_df160 l_J1_9 (c_ck hk (by omega)) (by omega) rfl rfl (Nat.le_of_ble_eq_true rfl) ⟨Nat.le_refl _, Nat.le_refl _⟩ dJ1_charAt_3b067_3 (fun r1 s1 q1 => ?_)
  obtain ⟨rfl, eq1⟩ := q1
  obtain rfl := eq1.symm
  refine x_stk (st' := []) rfl ?_
  refine x_aload_n dJ1_charAt_3b067_6 rfl ?_
  refine x_iload_n dJ1_charAt_3b067_7 rfl ?_
  refine x_bytLd (by omega) rfl (by omega) dJ1_charAt_3b067_8 ?_
  refine x_sipush (v := nI 255) dJ1_charAt_3b067_9 (by decide) ?_
  refine x_iand dJ1_charAt_3b067_12 ?_
  refine x_i2c dJ1_charAt_3b067_13 ?_
  refine x_topi (y := nI ((chr w k))) (chr_eq w hw k (by omega)) ?_
  exact x_zret ⟨Nat.le_refl _, Nat.le_refl _⟩ rfl (chr_nar w hw k (by omega)) dJ1_charAt_3b067_14 ⟨rfl, rfl⟩
set_option maxHeartbeats 4000000 in
theorem c_charAt {σ : ZS} {w : Nat} (hw : w < 12) {k : Nat} (hk : k < zlen.getD w 0) : Cn 3 M_J0_charAt_5068e 0 0 [.ref ((3000 + w)), .int (nI k)] σ (fun r σ' => r = some (.int (nI (chr w k))) ∧ σ' = σ) := by
  have hz := zlen_le w hw
  refine Cn.intro (lv0 := [some (.ref ((3000 + w))), some (.int (nI k))]) rfl (Nat.le_of_ble_eq_true rfl) rfl (fun d hd => ?_)
  refine x_aload_n dJ0_charAt_5068e_0 rfl ?_
  refine x_callVS (by omega) m_J0_isLatin1_aae02 rfl l_J0_492 (c_isLatin1 hw) (by omega) rfl rfl (Nat.le_of_ble_eq_true rfl) ⟨Nat.le_refl _, Nat.le_refl _⟩ dJ0_charAt_5068e_1 (fun r1 s1 q1 => ?_)
  obtain ⟨rfl, eq1⟩ := q1
  obtain rfl := eq1.symm
  refine x_stk (st' := [.int (nI 1)]) rfl ?_
  refine x_ifN_eq (tgt := 16) dJ0_charAt_5068e_4 (by decide) (by omega) (fun hv2 => ?_) (fun hv2 => ?_)
  · exact absurd hv2 (by decide)
  · refine x_aload_n dJ0_charAt_5068e_7 rfl ?_
    refine x_strVal (by omega) g_J0_9 dJ0_charAt_5068e_8 ?_
    refine x_iload_n dJ0_charAt_5068e_11 rfl ?_
    refine x_callS m_J1_charAt_3b067 l_J0_495 (c_l1charAt hw hk) (by omega) rfl rfl (Nat.le_of_ble_eq_true rfl) ⟨Nat.le_refl _, Nat.le_refl _⟩ dJ0_charAt_5068e_12 (fun r3 s3 q3 => ?_)
    obtain ⟨rfl, eq3⟩ := q3
    obtain rfl := eq3.symm
    refine x_stk (st' := [.int (nI ((chr w k)))]) rfl ?_
    exact x_zret ⟨Nat.le_refl _, Nat.le_refl _⟩ rfl (chr_nar w hw k (by omega)) dJ0_charAt_5068e_15 ⟨rfl, rfl⟩
set_option maxHeartbeats 4000000 in
theorem c_isBlank {σ : ZS} {c : Nat} (hc : c ≤ 255) : Cn 0 M_X3_isBlank 0 0 [.int (nI c)] σ (fun r σ' => r = some (.int (bI (isBl c))) ∧ σ' = σ) := by
  refine Cn.intro (lv0 := [some (.int (nI c))]) rfl (Nat.le_of_ble_eq_true rfl) rfl (fun d hd => ?_)
  refine x_iload_n dX3_isBlank_0 rfl ?_
  refine x_bipush (v := nI 32) dX3_isBlank_1 (by decide) ?_
  refine x_icmpN_eq (tgt := 12) dX3_isBlank_3 (by decide) (by omega) (by omega) (fun hv1 => ?_) (fun hv1 => ?_)
  · refine x_iconst (v := nI 1) dX3_isBlank_12 (by decide) ?_
    refine x_goto (tgt := 17) dX3_isBlank_13 (by decide) ?_
    exact x_zret ⟨Nat.le_refl _, Nat.le_refl _⟩ rfl (by decide) dX3_isBlank_17 ⟨by rw [isBl, bI_1 (by omega)], rfl⟩
  · refine x_iload_n dX3_isBlank_6 rfl ?_
    refine x_bipush (v := nI 10) dX3_isBlank_7 (by decide) ?_
    refine x_icmpN_ne (tgt := 16) dX3_isBlank_9 (by decide) (by omega) (by omega) (fun hv2 => ?_) (fun hv2 => ?_)
    · refine x_iconst (v := nI 0) dX3_isBlank_16 (by decide) ?_
      exact x_zret ⟨Nat.le_refl _, Nat.le_refl _⟩ rfl (by decide) dX3_isBlank_17 ⟨by rw [isBl, bI_0 (by omega)], rfl⟩
    · refine x_iconst (v := nI 1) dX3_isBlank_12 (by decide) ?_
      refine x_goto (tgt := 17) dX3_isBlank_13 (by decide) ?_
      exact x_zret ⟨Nat.le_refl _, Nat.le_refl _⟩ rfl (by decide) dX3_isBlank_17 ⟨by rw [isBl, bI_1 (by omega)], rfl⟩
set_option maxHeartbeats 4000000 in
theorem c_isSmall {σ : ZS} {c : Nat} (hc : c ≤ 255) : Cn 0 M_X3_isSmallLetter 0 0 [.int (nI c)] σ (fun r σ' => r = some (.int (bI (isLt c))) ∧ σ' = σ) := by
  refine Cn.intro (lv0 := [some (.int (nI c))]) rfl (Nat.le_of_ble_eq_true rfl) rfl (fun d hd => ?_)
  refine x_iload_n dX3_isSmallLetter_0 rfl ?_
  refine x_bipush (v := nI 97) dX3_isSmallLetter_1 (by decide) ?_
  refine x_icmpN_lt (tgt := 16) dX3_isSmallLetter_3 (by decide) (by omega) (by omega) (fun hv1 => ?_) (fun hv1 => ?_)
  · refine x_iconst (v := nI 0) dX3_isSmallLetter_16 (by decide) ?_
    exact x_zret ⟨Nat.le_refl _, Nat.le_refl _⟩ rfl (by decide) dX3_isSmallLetter_17 ⟨by rw [isLt, bI_0 (by omega)], rfl⟩
  · refine x_iload_n dX3_isSmallLetter_6 rfl ?_
    refine x_bipush (v := nI 122) dX3_isSmallLetter_7 (by decide) ?_
    refine x_icmpN_gt (tgt := 16) dX3_isSmallLetter_9 (by decide) (by omega) (by omega) (fun hv2 => ?_) (fun hv2 => ?_)
    · refine x_iconst (v := nI 0) dX3_isSmallLetter_16 (by decide) ?_
      exact x_zret ⟨Nat.le_refl _, Nat.le_refl _⟩ rfl (by decide) dX3_isSmallLetter_17 ⟨by rw [isLt, bI_0 (by omega)], rfl⟩
    · refine x_iconst (v := nI 1) dX3_isSmallLetter_12 (by decide) ?_
      refine x_goto (tgt := 17) dX3_isSmallLetter_13 (by decide) ?_
      exact x_zret ⟨Nat.le_refl _, Nat.le_refl _⟩ rfl (by decide) dX3_isSmallLetter_17 ⟨by rw [isLt, bI_1 (by omega)], rfl⟩
set_option maxHeartbeats 4000000 in
theorem c_isDigit {σ : ZS} {c : Nat} (hc : c ≤ 255) : Cn 0 M_X3_isDigit 0 0 [.int (nI c)] σ (fun r σ' => r = some (.int (bI (isDg c))) ∧ σ' = σ) := by
  refine Cn.intro (lv0 := [some (.int (nI c))]) rfl (Nat.le_of_ble_eq_true rfl) rfl (fun d hd => ?_)
  refine x_iload_n dX3_isDigit_0 rfl ?_
  refine x_bipush (v := nI 48) dX3_isDigit_1 (by decide) ?_
  refine x_icmpN_lt (tgt := 16) dX3_isDigit_3 (by decide) (by omega) (by omega) (fun hv1 => ?_) (fun hv1 => ?_)
  · refine x_iconst (v := nI 0) dX3_isDigit_16 (by decide) ?_
    exact x_zret ⟨Nat.le_refl _, Nat.le_refl _⟩ rfl (by decide) dX3_isDigit_17 ⟨by rw [isDg, bI_0 (by omega)], rfl⟩
  · refine x_iload_n dX3_isDigit_6 rfl ?_
    refine x_bipush (v := nI 57) dX3_isDigit_7 (by decide) ?_
    refine x_icmpN_gt (tgt := 16) dX3_isDigit_9 (by decide) (by omega) (by omega) (fun hv2 => ?_) (fun hv2 => ?_)
    · refine x_iconst (v := nI 0) dX3_isDigit_16 (by decide) ?_
      exact x_zret ⟨Nat.le_refl _, Nat.le_refl _⟩ rfl (by decide) dX3_isDigit_17 ⟨by rw [isDg, bI_0 (by omega)], rfl⟩
    · refine x_iconst (v := nI 1) dX3_isDigit_12 (by decide) ?_
      refine x_goto (tgt := 17) dX3_isDigit_13 (by decide) ?_
      exact x_zret ⟨Nat.le_refl _, Nat.le_refl _⟩ rfl (by decide) dX3_isDigit_17 ⟨by rw [isDg, bI_1 (by omega)], rfl⟩
set_option maxHeartbeats 4000000 in
theorem c_isSign {σ : ZS} {c : Nat} (hc : c ≤ 255) : Cn 0 M_X3_isSign 0 0 [.int (nI c)] σ (fun r σ' => r = some (.int (bI (isSg c))) ∧ σ' = σ) := by
  refine Cn.intro (lv0 := [some (.int (nI c))]) rfl (Nat.le_of_ble_eq_true rfl) rfl (fun d hd => ?_)
  refine x_iload_n dX3_isSign_0 rfl ?_
  by_cases hin : 40 ≤ c ∧ c ≤ 61
  · rcases (show c = 40 ∨ c = 41 ∨ c = 42 ∨ c = 43 ∨ c = 44 ∨ c = 45 ∨ c = 46 ∨ c = 47 ∨ c = 48 ∨ c = 49 ∨ c = 50 ∨ c = 51 ∨ c = 52 ∨ c = 53 ∨ c = 54 ∨ c = 55 ∨ c = 56 ∨ c = 57 ∨ c = 58 ∨ c = 59 ∨ c = 60 ∨ c = 61 by omega) with rfl | rfl | rfl | rfl | rfl | rfl | rfl | rfl | rfl | rfl | rfl | rfl | rfl | rfl | rfl | rfl | rfl | rfl | rfl | rfl | rfl | rfl
    · refine x_tableIn (tgt := 104) dX3_isSign_1 (by decide) (by decide) rfl (by decide) ?_
      refine x_iconst (v := nI 1) dX3_isSign_104 (by decide) ?_
      exact x_zret ⟨Nat.le_refl _, Nat.le_refl _⟩ rfl (by decide) dX3_isSign_105 ⟨by decide, rfl⟩
    · refine x_tableIn (tgt := 104) dX3_isSign_1 (by decide) (by decide) rfl (by decide) ?_
      refine x_iconst (v := nI 1) dX3_isSign_104 (by decide) ?_
      exact x_zret ⟨Nat.le_refl _, Nat.le_refl _⟩ rfl (by decide) dX3_isSign_105 ⟨by decide, rfl⟩
    · refine x_tableIn (tgt := 104) dX3_isSign_1 (by decide) (by decide) rfl (by decide) ?_
      refine x_iconst (v := nI 1) dX3_isSign_104 (by decide) ?_
      exact x_zret ⟨Nat.le_refl _, Nat.le_refl _⟩ rfl (by decide) dX3_isSign_105 ⟨by decide, rfl⟩
    · refine x_tableIn (tgt := 104) dX3_isSign_1 (by decide) (by decide) rfl (by decide) ?_
      refine x_iconst (v := nI 1) dX3_isSign_104 (by decide) ?_
      exact x_zret ⟨Nat.le_refl _, Nat.le_refl _⟩ rfl (by decide) dX3_isSign_105 ⟨by decide, rfl⟩
    · refine x_tableIn (tgt := 106) dX3_isSign_1 (by decide) (by decide) rfl (by decide) ?_
      refine x_iconst (v := nI 0) dX3_isSign_106 (by decide) ?_
      exact x_zret ⟨Nat.le_refl _, Nat.le_refl _⟩ rfl (by decide) dX3_isSign_107 ⟨by decide, rfl⟩
    · refine x_tableIn (tgt := 104) dX3_isSign_1 (by decide) (by decide) rfl (by decide) ?_
      refine x_iconst (v := nI 1) dX3_isSign_104 (by decide) ?_
      exact x_zret ⟨Nat.le_refl _, Nat.le_refl _⟩ rfl (by decide) dX3_isSign_105 ⟨by decide, rfl⟩
    · refine x_tableIn (tgt := 106) dX3_isSign_1 (by decide) (by decide) rfl (by decide) ?_
      refine x_iconst (v := nI 0) dX3_isSign_106 (by decide) ?_
      exact x_zret ⟨Nat.le_refl _, Nat.le_refl _⟩ rfl (by decide) dX3_isSign_107 ⟨by decide, rfl⟩
    · refine x_tableIn (tgt := 106) dX3_isSign_1 (by decide) (by decide) rfl (by decide) ?_
      refine x_iconst (v := nI 0) dX3_isSign_106 (by decide) ?_
      exact x_zret ⟨Nat.le_refl _, Nat.le_refl _⟩ rfl (by decide) dX3_isSign_107 ⟨by decide, rfl⟩
    · refine x_tableIn (tgt := 106) dX3_isSign_1 (by decide) (by decide) rfl (by decide) ?_
      refine x_iconst (v := nI 0) dX3_isSign_106 (by decide) ?_
      exact x_zret ⟨Nat.le_refl _, Nat.le_refl _⟩ rfl (by decide) dX3_isSign_107 ⟨by decide, rfl⟩
    · refine x_tableIn (tgt := 106) dX3_isSign_1 (by decide) (by decide) rfl (by decide) ?_
      refine x_iconst (v := nI 0) dX3_isSign_106 (by decide) ?_
      exact x_zret ⟨Nat.le_refl _, Nat.le_refl _⟩ rfl (by decide) dX3_isSign_107 ⟨by decide, rfl⟩
    · refine x_tableIn (tgt := 106) dX3_isSign_1 (by decide) (by decide) rfl (by decide) ?_
      refine x_iconst (v := nI 0) dX3_isSign_106 (by decide) ?_
      exact x_zret ⟨Nat.le_refl _, Nat.le_refl _⟩ rfl (by decide) dX3_isSign_107 ⟨by decide, rfl⟩
    · refine x_tableIn (tgt := 106) dX3_isSign_1 (by decide) (by decide) rfl (by decide) ?_
      refine x_iconst (v := nI 0) dX3_isSign_106 (by decide) ?_
      exact x_zret ⟨Nat.le_refl _, Nat.le_refl _⟩ rfl (by decide) dX3_isSign_107 ⟨by decide, rfl⟩
    · refine x_tableIn (tgt := 106) dX3_isSign_1 (by decide) (by decide) rfl (by decide) ?_
      refine x_iconst (v := nI 0) dX3_isSign_106 (by decide) ?_
      exact x_zret ⟨Nat.le_refl _, Nat.le_refl _⟩ rfl (by decide) dX3_isSign_107 ⟨by decide, rfl⟩
    · refine x_tableIn (tgt := 106) dX3_isSign_1 (by decide) (by decide) rfl (by decide) ?_
      refine x_iconst (v := nI 0) dX3_isSign_106 (by decide) ?_
      exact x_zret ⟨Nat.le_refl _, Nat.le_refl _⟩ rfl (by decide) dX3_isSign_107 ⟨by decide, rfl⟩
    · refine x_tableIn (tgt := 106) dX3_isSign_1 (by decide) (by decide) rfl (by decide) ?_
      refine x_iconst (v := nI 0) dX3_isSign_106 (by decide) ?_
      exact x_zret ⟨Nat.le_refl _, Nat.le_refl _⟩ rfl (by decide) dX3_isSign_107 ⟨by decide, rfl⟩
    · refine x_tableIn (tgt := 106) dX3_isSign_1 (by decide) (by decide) rfl (by decide) ?_
      refine x_iconst (v := nI 0) dX3_isSign_106 (by decide) ?_
      exact x_zret ⟨Nat.le_refl _, Nat.le_refl _⟩ rfl (by decide) dX3_isSign_107 ⟨by decide, rfl⟩
    · refine x_tableIn (tgt := 106) dX3_isSign_1 (by decide) (by decide) rfl (by decide) ?_
      refine x_iconst (v := nI 0) dX3_isSign_106 (by decide) ?_
      exact x_zret ⟨Nat.le_refl _, Nat.le_refl _⟩ rfl (by decide) dX3_isSign_107 ⟨by decide, rfl⟩
    · refine x_tableIn (tgt := 106) dX3_isSign_1 (by decide) (by decide) rfl (by decide) ?_
      refine x_iconst (v := nI 0) dX3_isSign_106 (by decide) ?_
      exact x_zret ⟨Nat.le_refl _, Nat.le_refl _⟩ rfl (by decide) dX3_isSign_107 ⟨by decide, rfl⟩
    · refine x_tableIn (tgt := 106) dX3_isSign_1 (by decide) (by decide) rfl (by decide) ?_
      refine x_iconst (v := nI 0) dX3_isSign_106 (by decide) ?_
      exact x_zret ⟨Nat.le_refl _, Nat.le_refl _⟩ rfl (by decide) dX3_isSign_107 ⟨by decide, rfl⟩
    · refine x_tableIn (tgt := 104) dX3_isSign_1 (by decide) (by decide) rfl (by decide) ?_
      refine x_iconst (v := nI 1) dX3_isSign_104 (by decide) ?_
      exact x_zret ⟨Nat.le_refl _, Nat.le_refl _⟩ rfl (by decide) dX3_isSign_105 ⟨by decide, rfl⟩
    · refine x_tableIn (tgt := 104) dX3_isSign_1 (by decide) (by decide) rfl (by decide) ?_
      refine x_iconst (v := nI 1) dX3_isSign_104 (by decide) ?_
      exact x_zret ⟨Nat.le_refl _, Nat.le_refl _⟩ rfl (by decide) dX3_isSign_105 ⟨by decide, rfl⟩
    · refine x_tableIn (tgt := 104) dX3_isSign_1 (by decide) (by decide) rfl (by decide) ?_
      refine x_iconst (v := nI 1) dX3_isSign_104 (by decide) ?_
      exact x_zret ⟨Nat.le_refl _, Nat.le_refl _⟩ rfl (by decide) dX3_isSign_105 ⟨by decide, rfl⟩
  · refine x_tableOut (tgt := 106) dX3_isSign_1 (by rw [nI_toInt (by omega)]; omega) (by decide) ?_
    refine x_iconst (v := nI 0) dX3_isSign_106 (by decide) ?_
    exact x_zret ⟨Nat.le_refl _, Nat.le_refl _⟩ rfl (by decide) dX3_isSign_107 ⟨by rw [isSg, bI_0 (by omega)], rfl⟩
set_option maxHeartbeats 4000000 in
theorem c_spelling {σ : ZS} {w : Nat} (hw : w < 12) : Cn 0 M_X3_spelling 0 0 [.int (nI w)] σ (fun r σ' => r = some (.ref (3000 + w)) ∧ σ' = σ) := by
  refine Cn.intro (lv0 := [some (.int (nI w))]) rfl (Nat.le_of_ble_eq_true rfl) rfl (fun d hd => ?_)
  refine x_iload_n dX3_spelling_0 rfl ?_
  rcases (show w = 0 ∨ w = 1 ∨ w = 2 ∨ w = 3 ∨ w = 4 ∨ w = 5 ∨ w = 6 ∨ w = 7 ∨ w = 8 ∨ w = 9 ∨ w = 10 ∨ w = 11 by omega) with rfl | rfl | rfl | rfl | rfl | rfl | rfl | rfl | rfl | rfl | rfl | rfl
  · refine x_tableIn (tgt := 60) dX3_spelling_1 (by decide) (by decide) rfl (by decide) ?_
    refine x_ldcS (w := 0) (by decide) rfl dX3_spelling_60 ?_
    exact x_aret ⟨Nat.le_refl _, Nat.le_refl _⟩ rfl (Or.inl ⟨_, rfl⟩) dX3_spelling_62 ⟨rfl, rfl⟩
  · refine x_tableIn (tgt := 63) dX3_spelling_1 (by decide) (by decide) rfl (by decide) ?_
    refine x_ldcS (w := 1) (by decide) rfl dX3_spelling_63 ?_
    exact x_aret ⟨Nat.le_refl _, Nat.le_refl _⟩ rfl (Or.inl ⟨_, rfl⟩) dX3_spelling_65 ⟨rfl, rfl⟩
  · refine x_tableIn (tgt := 66) dX3_spelling_1 (by decide) (by decide) rfl (by decide) ?_
    refine x_ldcS (w := 2) (by decide) rfl dX3_spelling_66 ?_
    exact x_aret ⟨Nat.le_refl _, Nat.le_refl _⟩ rfl (Or.inl ⟨_, rfl⟩) dX3_spelling_68 ⟨rfl, rfl⟩
  · refine x_tableIn (tgt := 69) dX3_spelling_1 (by decide) (by decide) rfl (by decide) ?_
    refine x_ldcS (w := 3) (by decide) rfl dX3_spelling_69 ?_
    exact x_aret ⟨Nat.le_refl _, Nat.le_refl _⟩ rfl (Or.inl ⟨_, rfl⟩) dX3_spelling_71 ⟨rfl, rfl⟩
  · refine x_tableIn (tgt := 72) dX3_spelling_1 (by decide) (by decide) rfl (by decide) ?_
    refine x_ldcS (w := 4) (by decide) rfl dX3_spelling_72 ?_
    exact x_aret ⟨Nat.le_refl _, Nat.le_refl _⟩ rfl (Or.inl ⟨_, rfl⟩) dX3_spelling_74 ⟨rfl, rfl⟩
  · refine x_tableIn (tgt := 75) dX3_spelling_1 (by decide) (by decide) rfl (by decide) ?_
    refine x_ldcS (w := 5) (by decide) rfl dX3_spelling_75 ?_
    exact x_aret ⟨Nat.le_refl _, Nat.le_refl _⟩ rfl (Or.inl ⟨_, rfl⟩) dX3_spelling_77 ⟨rfl, rfl⟩
  · refine x_tableIn (tgt := 78) dX3_spelling_1 (by decide) (by decide) rfl (by decide) ?_
    refine x_ldcS (w := 6) (by decide) rfl dX3_spelling_78 ?_
    exact x_aret ⟨Nat.le_refl _, Nat.le_refl _⟩ rfl (Or.inl ⟨_, rfl⟩) dX3_spelling_80 ⟨rfl, rfl⟩
  · refine x_tableIn (tgt := 81) dX3_spelling_1 (by decide) (by decide) rfl (by decide) ?_
    refine x_ldcS (w := 7) (by decide) rfl dX3_spelling_81 ?_
    exact x_aret ⟨Nat.le_refl _, Nat.le_refl _⟩ rfl (Or.inl ⟨_, rfl⟩) dX3_spelling_83 ⟨rfl, rfl⟩
  · refine x_tableIn (tgt := 84) dX3_spelling_1 (by decide) (by decide) rfl (by decide) ?_
    refine x_ldcS (w := 8) (by decide) rfl dX3_spelling_84 ?_
    exact x_aret ⟨Nat.le_refl _, Nat.le_refl _⟩ rfl (Or.inl ⟨_, rfl⟩) dX3_spelling_86 ⟨rfl, rfl⟩
  · refine x_tableIn (tgt := 87) dX3_spelling_1 (by decide) (by decide) rfl (by decide) ?_
    refine x_ldcS (w := 9) (by decide) rfl dX3_spelling_87 ?_
    exact x_aret ⟨Nat.le_refl _, Nat.le_refl _⟩ rfl (Or.inl ⟨_, rfl⟩) dX3_spelling_89 ⟨rfl, rfl⟩
  · refine x_tableIn (tgt := 90) dX3_spelling_1 (by decide) (by decide) rfl (by decide) ?_
    refine x_ldcS (w := 10) (by decide) rfl dX3_spelling_90 ?_
    exact x_aret ⟨Nat.le_refl _, Nat.le_refl _⟩ rfl (Or.inl ⟨_, rfl⟩) dX3_spelling_92 ⟨rfl, rfl⟩
  · refine x_tableOut (tgt := 93) dX3_spelling_1 (by decide) (by decide) ?_
    refine x_ldcS (w := 11) (by decide) rfl dX3_spelling_93 ?_
    exact x_aret ⟨Nat.le_refl _, Nat.le_refl _⟩ rfl (Or.inl ⟨_, rfl⟩) dX3_spelling_95 ⟨rfl, rfl⟩
