set_option maxRecDepth 100000 in
theorem bc7 : ∀ A, A < 128 → ((((((((nI A - (((nI A).toUInt32 >>> ((nI 1).toUInt32 &&& Int32.toUInt32 31)).toInt32 &&& nI 1431655765)) &&& nI 858993459) + ((((nI A - (((nI A).toUInt32 >>> ((nI 1).toUInt32 &&& Int32.toUInt32 31)).toInt32 &&& nI 1431655765))).toUInt32 >>> ((nI 2).toUInt32 &&& Int32.toUInt32 31)).toInt32 &&& nI 858993459)) + (((((nI A - (((nI A).toUInt32 >>> ((nI 1).toUInt32 &&& Int32.toUInt32 31)).toInt32 &&& nI 1431655765)) &&& nI 858993459) + ((((nI A - (((nI A).toUInt32 >>> ((nI 1).toUInt32 &&& Int32.toUInt32 31)).toInt32 &&& nI 1431655765))).toUInt32 >>> ((nI 2).toUInt32 &&& Int32.toUInt32 31)).toInt32 &&& nI 858993459))).toUInt32 >>> ((nI 4).toUInt32 &&& Int32.toUInt32 31)).toInt32) &&& nI 252645135) + (((((((nI A - (((nI A).toUInt32 >>> ((nI 1).toUInt32 &&& Int32.toUInt32 31)).toInt32 &&& nI 1431655765)) &&& nI 858993459) + ((((nI A - (((nI A).toUInt32 >>> ((nI 1).toUInt32 &&& Int32.toUInt32 31)).toInt32 &&& nI 1431655765))).toUInt32 >>> ((nI 2).toUInt32 &&& Int32.toUInt32 31)).toInt32 &&& nI 858993459)) + (((((nI A - (((nI A).toUInt32 >>> ((nI 1).toUInt32 &&& Int32.toUInt32 31)).toInt32 &&& nI 1431655765)) &&& nI 858993459) + ((((nI A - (((nI A).toUInt32 >>> ((nI 1).toUInt32 &&& Int32.toUInt32 31)).toInt32 &&& nI 1431655765))).toUInt32 >>> ((nI 2).toUInt32 &&& Int32.toUInt32 31)).toInt32 &&& nI 858993459))).toUInt32 >>> ((nI 4).toUInt32 &&& Int32.toUInt32 31)).toInt32) &&& nI 252645135)).toUInt32 >>> ((nI 8).toUInt32 &&& Int32.toUInt32 31)).toInt32) + ((((((((nI A - (((nI A).toUInt32 >>> ((nI 1).toUInt32 &&& Int32.toUInt32 31)).toInt32 &&& nI 1431655765)) &&& nI 858993459) + ((((nI A - (((nI A).toUInt32 >>> ((nI 1).toUInt32 &&& Int32.toUInt32 31)).toInt32 &&& nI 1431655765))).toUInt32 >>> ((nI 2).toUInt32 &&& Int32.toUInt32 31)).toInt32 &&& nI 858993459)) + (((((nI A - (((nI A).toUInt32 >>> ((nI 1).toUInt32 &&& Int32.toUInt32 31)).toInt32 &&& nI 1431655765)) &&& nI 858993459) + ((((nI A - (((nI A).toUInt32 >>> ((nI 1).toUInt32 &&& Int32.toUInt32 31)).toInt32 &&& nI 1431655765))).toUInt32 >>> ((nI 2).toUInt32 &&& Int32.toUInt32 31)).toInt32 &&& nI 858993459))).toUInt32 >>> ((nI 4).toUInt32 &&& Int32.toUInt32 31)).toInt32) &&& nI 252645135) + (((((((nI A - (((nI A).toUInt32 >>> ((nI 1).toUInt32 &&& Int32.toUInt32 31)).toInt32 &&& nI 1431655765)) &&& nI 858993459) + ((((nI A - (((nI A).toUInt32 >>> ((nI 1).toUInt32 &&& Int32.toUInt32 31)).toInt32 &&& nI 1431655765))).toUInt32 >>> ((nI 2).toUInt32 &&& Int32.toUInt32 31)).toInt32 &&& nI 858993459)) + (((((nI A - (((nI A).toUInt32 >>> ((nI 1).toUInt32 &&& Int32.toUInt32 31)).toInt32 &&& nI 1431655765)) &&& nI 858993459) + ((((nI A - (((nI A).toUInt32 >>> ((nI 1).toUInt32 &&& Int32.toUInt32 31)).toInt32 &&& nI 1431655765))).toUInt32 >>> ((nI 2).toUInt32 &&& Int32.toUInt32 31)).toInt32 &&& nI 858993459))).toUInt32 >>> ((nI 4).toUInt32 &&& Int32.toUInt32 31)).toInt32) &&& nI 252645135)).toUInt32 >>> ((nI 8).toUInt32 &&& Int32.toUInt32 31)).toInt32)).toUInt32 >>> ((nI 16).toUInt32 &&& Int32.toUInt32 31)).toInt32) &&& nI 63) = nI (popc A) := by decide +kernel
set_option maxHeartbeats 4000000 in
theorem c_bitCount {σ : ZS} {A : Nat} (hA : A < 128) : Cn 0 M_J6_bitCount_0f7a4 0 0 [.int (nI A)] σ (fun r σ' => r = some (.int (nI (popc A))) ∧ σ' = σ) := by
  refine Cn.intro (lv0 := [some (.int (nI A))]) rfl (Nat.le_of_ble_eq_true rfl) rfl (fun d hd => ?_)
  refine x_iload_n dJ6_bitCount_0f7a4_0 rfl ?_
  refine x_iload_n dJ6_bitCount_0f7a4_1 rfl ?_
  refine x_iconst (v := nI 1) dJ6_bitCount_0f7a4_2 (by decide) ?_
  refine x_iushr dJ6_bitCount_0f7a4_3 ?_
  refine x_ldcw (v := (1431655765)) c_J6_265 dJ6_bitCount_0f7a4_4 ?_
  refine x_topi (y := nI 1431655765) (by decide) ?_
  refine x_iand dJ6_bitCount_0f7a4_7 ?_
  refine x_isub dJ6_bitCount_0f7a4_8 ?_
  refine x_istore_n dJ6_bitCount_0f7a4_9 (by decide) rfl ?_
  refine x_lv (lv' := [some (.int ((nI A - (((nI A).toUInt32 >>> ((nI 1).toUInt32 &&& Int32.toUInt32 31)).toInt32 &&& nI 1431655765))))]) rfl ?_
  refine x_iload_n dJ6_bitCount_0f7a4_10 rfl ?_
  refine x_ldcw (v := (858993459)) c_J6_266 dJ6_bitCount_0f7a4_11 ?_
  refine x_topi (y := nI 858993459) (by decide) ?_
  refine x_iand dJ6_bitCount_0f7a4_14 ?_
  refine x_iload_n dJ6_bitCount_0f7a4_15 rfl ?_
  refine x_iconst (v := nI 2) dJ6_bitCount_0f7a4_16 (by decide) ?_
  refine x_iushr dJ6_bitCount_0f7a4_17 ?_
  refine x_ldcw (v := (858993459)) c_J6_266 dJ6_bitCount_0f7a4_18 ?_
  refine x_topi (y := nI 858993459) (by decide) ?_
  refine x_iand dJ6_bitCount_0f7a4_21 ?_
  refine x_iadd dJ6_bitCount_0f7a4_22 ?_
  refine x_istore_n dJ6_bitCount_0f7a4_23 (by decide) rfl ?_
  refine x_lv (lv' := [some (.int ((((nI A - (((nI A).toUInt32 >>> ((nI 1).toUInt32 &&& Int32.toUInt32 31)).toInt32 &&& nI 1431655765)) &&& nI 858993459) + ((((nI A - (((nI A).toUInt32 >>> ((nI 1).toUInt32 &&& Int32.toUInt32 31)).toInt32 &&& nI 1431655765))).toUInt32 >>> ((nI 2).toUInt32 &&& Int32.toUInt32 31)).toInt32 &&& nI 858993459))))]) rfl ?_
  refine x_iload_n dJ6_bitCount_0f7a4_24 rfl ?_
  refine x_iload_n dJ6_bitCount_0f7a4_25 rfl ?_
  refine x_iconst (v := nI 4) dJ6_bitCount_0f7a4_26 (by decide) ?_
  refine x_iushr dJ6_bitCount_0f7a4_27 ?_
  refine x_iadd dJ6_bitCount_0f7a4_28 ?_
  refine x_ldcw (v := (252645135)) c_J6_267 dJ6_bitCount_0f7a4_29 ?_
  refine x_topi (y := nI 252645135) (by decide) ?_
  refine x_iand dJ6_bitCount_0f7a4_32 ?_
  refine x_istore_n dJ6_bitCount_0f7a4_33 (by decide) rfl ?_
  refine x_lv (lv' := [some (.int ((((((nI A - (((nI A).toUInt32 >>> ((nI 1).toUInt32 &&& Int32.toUInt32 31)).toInt32 &&& nI 1431655765)) &&& nI 858993459) + ((((nI A - (((nI A).toUInt32 >>> ((nI 1).toUInt32 &&& Int32.toUInt32 31)).toInt32 &&& nI 1431655765))).toUInt32 >>> ((nI 2).toUInt32 &&& Int32.toUInt32 31)).toInt32 &&& nI 858993459)) + (((((nI A - (((nI A).toUInt32 >>> ((nI 1).toUInt32 &&& Int32.toUInt32 31)).toInt32 &&& nI 1431655765)) &&& nI 858993459) + ((((nI A - (((nI A).toUInt32 >>> ((nI 1).toUInt32 &&& Int32.toUInt32 31)).toInt32 &&& nI 1431655765))).toUInt32 >>> ((nI 2).toUInt32 &&& Int32.toUInt32 31)).toInt32 &&& nI 858993459))).toUInt32 >>> ((nI 4).toUInt32 &&& Int32.toUInt32 31)).toInt32) &&& nI 252645135)))]) rfl ?_
  refine x_iload_n dJ6_bitCount_0f7a4_34 rfl ?_
  refine x_iload_n dJ6_bitCount_0f7a4_35 rfl ?_
  refine x_bipush (v := nI 8) dJ6_bitCount_0f7a4_36 (by decide) ?_
  refine x_iushr dJ6_bitCount_0f7a4_38 ?_
  refine x_iadd dJ6_bitCount_0f7a4_39 ?_
  refine x_istore_n dJ6_bitCount_0f7a4_40 (by decide) rfl ?_
  refine x_lv (lv' := [some (.int (((((((nI A - (((nI A).toUInt32 >>> ((nI 1).toUInt32 &&& Int32.toUInt32 31)).toInt32 &&& nI 1431655765)) &&& nI 858993459) + ((((nI A - (((nI A).toUInt32 >>> ((nI 1).toUInt32 &&& Int32.toUInt32 31)).toInt32 &&& nI 1431655765))).toUInt32 >>> ((nI 2).toUInt32 &&& Int32.toUInt32 31)).toInt32 &&& nI 858993459)) + (((((nI A - (((nI A).toUInt32 >>> ((nI 1).toUInt32 &&& Int32.toUInt32 31)).toInt32 &&& nI 1431655765)) &&& nI 858993459) + ((((nI A - (((nI A).toUInt32 >>> ((nI 1).toUInt32 &&& Int32.toUInt32 31)).toInt32 &&& nI 1431655765))).toUInt32 >>> ((nI 2).toUInt32 &&& Int32.toUInt32 31)).toInt32 &&& nI 858993459))).toUInt32 >>> ((nI 4).toUInt32 &&& Int32.toUInt32 31)).toInt32) &&& nI 252645135) + (((((((nI A - (((nI A).toUInt32 >>> ((nI 1).toUInt32 &&& Int32.toUInt32 31)).toInt32 &&& nI 1431655765)) &&& nI 858993459) + ((((nI A - (((nI A).toUInt32 >>> ((nI 1).toUInt32 &&& Int32.toUInt32 31)).toInt32 &&& nI 1431655765))).toUInt32 >>> ((nI 2).toUInt32 &&& Int32.toUInt32 31)).toInt32 &&& nI 858993459)) + (((((nI A - (((nI A).toUInt32 >>> ((nI 1).toUInt32 &&& Int32.toUInt32 31)).toInt32 &&& nI 1431655765)) &&& nI 858993459) + ((((nI A - (((nI A).toUInt32 >>> ((nI 1).toUInt32 &&& Int32.toUInt32 31)).toInt32 &&& nI 1431655765))).toUInt32 >>> ((nI 2).toUInt32 &&& Int32.toUInt32 31)).toInt32 &&& nI 858993459))).toUInt32 >>> ((nI 4).toUInt32 &&& Int32.toUInt32 31)).toInt32) &&& nI 252645135)).toUInt32 >>> ((nI 8).toUInt32 &&& Int32.toUInt32 31)).toInt32)))]) rfl ?_
  refine x_iload_n dJ6_bitCount_0f7a4_41 rfl ?_
  refine x_iload_n dJ6_bitCount_0f7a4_42 rfl ?_
  refine x_bipush (v := nI 16) dJ6_bitCount_0f7a4_43 (by decide) ?_
  refine x_iushr dJ6_bitCount_0f7a4_45 ?_
  refine x_iadd dJ6_bitCount_0f7a4_46 ?_
  refine x_istore_n dJ6_bitCount_0f7a4_47 (by decide) rfl ?_
  refine x_lv (lv' := [some (.int ((((((((nI A - (((nI A).toUInt32 >>> ((nI 1).toUInt32 &&& Int32.toUInt32 31)).toInt32 &&& nI 1431655765)) &&& nI 858993459) + ((((nI A - (((nI A).toUInt32 >>> ((nI 1).toUInt32 &&& Int32.toUInt32 31)).toInt32 &&& nI 1431655765))).toUInt32 >>> ((nI 2).toUInt32 &&& Int32.toUInt32 31)).toInt32 &&& nI 858993459)) + (((((nI A - (((nI A).toUInt32 >>> ((nI 1).toUInt32 &&& Int32.toUInt32 31)).toInt32 &&& nI 1431655765)) &&& nI 858993459) + ((((nI A - (((nI A).toUInt32 >>> ((nI 1).toUInt32 &&& Int32.toUInt32 31)).toInt32 &&& nI 1431655765))).toUInt32 >>> ((nI 2).toUInt32 &&& Int32.toUInt32 31)).toInt32 &&& nI 858993459))).toUInt32 >>> ((nI 4).toUInt32 &&& Int32.toUInt32 31)).toInt32) &&& nI 252645135) + (((((((nI A - (((nI A).toUInt32 >>> ((nI 1).toUInt32 &&& Int32.toUInt32 31)).toInt32 &&& nI 1431655765)) &&& nI 858993459) + ((((nI A - (((nI A).toUInt32 >>> ((nI 1).toUInt32 &&& Int32.toUInt32 31)).toInt32 &&& nI 1431655765))).toUInt32 >>> ((nI 2).toUInt32 &&& Int32.toUInt32 31)).toInt32 &&& nI 858993459)) + (((((nI A - (((nI A).toUInt32 >>> ((nI 1).toUInt32 &&& Int32.toUInt32 31)).toInt32 &&& nI 1431655765)) &&& nI 858993459) + ((((nI A - (((nI A).toUInt32 >>> ((nI 1).toUInt32 &&& Int32.toUInt32 31)).toInt32 &&& nI 1431655765))).toUInt32 >>> ((nI 2).toUInt32 &&& Int32.toUInt32 31)).toInt32 &&& nI 858993459))).toUInt32 >>> ((nI 4).toUInt32 &&& Int32.toUInt32 31)).toInt32) &&& nI 252645135)).toUInt32 >>> ((nI 8).toUInt32 &&& Int32.toUInt32 31)).toInt32) + ((((((((nI A - (((nI A).toUInt32 >>> ((nI 1).toUInt32 &&& Int32.toUInt32 31)).toInt32 &&& nI 1431655765)) &&& nI 858993459) + ((((nI A - (((nI A).toUInt32 >>> ((nI 1).toUInt32 &&& Int32.toUInt32 31)).toInt32 &&& nI 1431655765))).toUInt32 >>> ((nI 2).toUInt32 &&& Int32.toUInt32 31)).toInt32 &&& nI 858993459)) + (((((nI A - (((nI A).toUInt32 >>> ((nI 1).toUInt32 &&& Int32.toUInt32 31)).toInt32 &&& nI 1431655765)) &&& nI 858993459) + ((((nI A - (((nI A).toUInt32 >>> ((nI 1).toUInt32 &&& Int32.toUInt32 31)).toInt32 &&& nI 1431655765))).toUInt32 >>> ((nI 2).toUInt32 &&& Int32.toUInt32 31)).toInt32 &&& nI 858993459))).toUInt32 >>> ((nI 4).toUInt32 &&& Int32.toUInt32 31)).toInt32) &&& nI 252645135) + (((((((nI A - (((nI A).toUInt32 >>> ((nI 1).toUInt32 &&& Int32.toUInt32 31)).toInt32 &&& nI 1431655765)) &&& nI 858993459) + ((((nI A - (((nI A).toUInt32 >>> ((nI 1).toUInt32 &&& Int32.toUInt32 31)).toInt32 &&& nI 1431655765))).toUInt32 >>> ((nI 2).toUInt32 &&& Int32.toUInt32 31)).toInt32 &&& nI 858993459)) + (((((nI A - (((nI A).toUInt32 >>> ((nI 1).toUInt32 &&& Int32.toUInt32 31)).toInt32 &&& nI 1431655765)) &&& nI 858993459) + ((((nI A - (((nI A).toUInt32 >>> ((nI 1).toUInt32 &&& Int32.toUInt32 31)).toInt32 &&& nI 1431655765))).toUInt32 >>> ((nI 2).toUInt32 &&& Int32.toUInt32 31)).toInt32 &&& nI 858993459))).toUInt32 >>> ((nI 4).toUInt32 &&& Int32.toUInt32 31)).toInt32) &&& nI 252645135)).toUInt32 >>> ((nI 8).toUInt32 &&& Int32.toUInt32 31)).toInt32)).toUInt32 >>> ((nI 16).toUInt32 &&& Int32.toUInt32 31)).toInt32)))]) rfl ?_
  refine x_iload_n dJ6_bitCount_0f7a4_48 rfl ?_
  refine x_bipush (v := nI 63) dJ6_bitCount_0f7a4_49 (by decide) ?_
  refine x_iand dJ6_bitCount_0f7a4_51 ?_
  exact x_iret ⟨Nat.le_refl _, Nat.le_refl _⟩ rfl dJ6_bitCount_0f7a4_52 ⟨by rw [bc7 A hA], rfl⟩
theorem max_sub1 {m : Nat} (hm : m ≤ 7) : (if (nI 0).toInt < (nI m - nI 1).toInt then nI m - nI 1 else nI 0) = nI (m - 1) := by
  have h : ∀ m, m ≤ 7 → (if (nI 0).toInt < (nI m - nI 1).toInt then nI m - nI 1 else nI 0) = nI (m - 1) := by decide
  exact h m hm
set_option maxHeartbeats 4000000 in
theorem c_pairs {σ : ZS} {bw am jd fd en : Int32} {m : Nat} {r : Bool} {t : List Nat} {wl : List (Option Nat)} {B Wo Ho : List Int32} (h : Se σ bw am (nI m) (bI r) jd fd en (t.map nI) (wl.map oI) B Wo Ho) (hm : m ≤ 7) (ht : T7 t) (hw : W7 wl) : Cn 1 M_X5_pairs 0 0 [.ref 22] σ (fun r9 σ' => r9 = some (.int (nI (prS r m))) ∧ σ' = σ) := by
  obtain ⟨e0, e1, e2, e3, e4, e5, l1, l2, l3, l4, l5⟩ := id h
  obtain ⟨ht7, htb⟩ := id ht
  obtain ⟨hw7, hwb⟩ := id hw
  refine Cn.intro (lv0 := [some (.ref 22)]) rfl (Nat.le_of_ble_eq_true rfl) rfl (fun d hd => ?_)
  refine x_aload_n dX5_pairs_0 rfl ?_
  refine x_get (v := .int (bI r)) f_X5_45 e0 rfl dX5_pairs_1 ?_
  refine x_ifB_eq (tgt := 22) dX5_pairs_4 (by decide) (fun h1 => ?_) (fun h1 => ?_)
  · refine x_iconst (v := nI 0) dX5_pairs_22 (by decide) ?_
    refine x_aload_n dX5_pairs_23 rfl ?_
    refine x_get (v := .int (nI m)) f_X5_37 e0 rfl dX5_pairs_24 ?_
    refine x_iconst (v := nI 1) dX5_pairs_27 (by decide) ?_
    refine x_isub dX5_pairs_28 ?_
    refine x_mmax l_X5_56 (by omega) (Nat.le_of_ble_eq_true rfl) ⟨Nat.le_refl _, Nat.le_refl _⟩ dX5_pairs_29 ?_
    exact x_iret ⟨Nat.le_refl _, Nat.le_refl _⟩ rfl dX5_pairs_32 ⟨by rw [max_sub1 (by omega), prS, if_neg (fun q : r = true ∧ 3 ≤ m => absurd q.1 (by rw [h1]; decide))], rfl⟩
  · refine x_aload_n dX5_pairs_7 rfl ?_
    refine x_get (v := .int (nI m)) f_X5_37 e0 rfl dX5_pairs_8 ?_
    refine x_iconst (v := nI 3) dX5_pairs_11 (by decide) ?_
    refine x_icmpN_lt (tgt := 22) dX5_pairs_12 (by decide) (by omega) (by omega) (fun h2 => ?_) (fun h2 => ?_)
    · refine x_iconst (v := nI 0) dX5_pairs_22 (by decide) ?_
      refine x_aload_n dX5_pairs_23 rfl ?_
      refine x_get (v := .int (nI m)) f_X5_37 e0 rfl dX5_pairs_24 ?_
      refine x_iconst (v := nI 1) dX5_pairs_27 (by decide) ?_
      refine x_isub dX5_pairs_28 ?_
      refine x_mmax l_X5_56 (by omega) (Nat.le_of_ble_eq_true rfl) ⟨Nat.le_refl _, Nat.le_refl _⟩ dX5_pairs_29 ?_
      exact x_iret ⟨Nat.le_refl _, Nat.le_refl _⟩ rfl dX5_pairs_32 ⟨by rw [max_sub1 (by omega), prS, if_neg (fun q : r = true ∧ 3 ≤ m => by omega)], rfl⟩
    · refine x_aload_n dX5_pairs_15 rfl ?_
      refine x_get (v := .int (nI m)) f_X5_37 e0 rfl dX5_pairs_16 ?_
      refine x_goto (tgt := 32) dX5_pairs_19 (by decide) ?_
      exact x_iret ⟨Nat.le_refl _, Nat.le_refl _⟩ rfl dX5_pairs_32 ⟨by rw [prS, if_pos ⟨h1, by omega⟩], rfl⟩
set_option maxHeartbeats 4000000 in
theorem c_seatBehind {σ : ZS} {bw am jd fd en : Int32} {m : Nat} {r : Bool} {t : List Nat} {wl : List (Option Nat)} {B Wo Ho : List Int32} (h : Se σ bw am (nI m) (bI r) jd fd en (t.map nI) (wl.map oI) B Wo Ho) (hm : m ≤ 7) (ht : T7 t) (hw : W7 wl) {s : Nat} (hs : s < 100) : Cn 0 M_X5_seatBehind 0 0 [.ref 22, .int (nI s)] σ (fun r9 σ' => r9 = some (.int (nI (nxS m s))) ∧ σ' = σ) := by
  obtain ⟨e0, e1, e2, e3, e4, e5, l1, l2, l3, l4, l5⟩ := id h
  obtain ⟨ht7, htb⟩ := id ht
  obtain ⟨hw7, hwb⟩ := id hw
  refine Cn.intro (lv0 := [some (.ref 22), some (.int (nI s))]) rfl (Nat.le_of_ble_eq_true rfl) rfl (fun d hd => ?_)
  refine x_iload_n dX5_seatBehind_0 rfl ?_
  refine x_iconst (v := nI 1) dX5_seatBehind_1 (by decide) ?_
  refine x_iaddN dX5_seatBehind_2 ?_
  refine x_aload_n dX5_seatBehind_3 rfl ?_
  refine x_get (v := .int (nI m)) f_X5_37 e0 rfl dX5_seatBehind_4 ?_
  refine x_icmpN_ge (tgt := 16) dX5_seatBehind_7 (by decide) (by omega) (by omega) (fun h1 => ?_) (fun h1 => ?_)
  · refine x_iconst (v := nI 0) dX5_seatBehind_16 (by decide) ?_
    exact x_iret ⟨Nat.le_refl _, Nat.le_refl _⟩ rfl dX5_seatBehind_17 ⟨by rw [nxS, if_neg (by omega)], rfl⟩
  · refine x_iload_n dX5_seatBehind_10 rfl ?_
    refine x_iconst (v := nI 1) dX5_seatBehind_11 (by decide) ?_
    refine x_iaddN dX5_seatBehind_12 ?_
    refine x_goto (tgt := 17) dX5_seatBehind_13 (by decide) ?_
    exact x_iret ⟨Nat.le_refl _, Nat.le_refl _⟩ rfl dX5_seatBehind_17 ⟨by rw [nxS, if_pos (by omega)], rfl⟩
set_option maxHeartbeats 4000000 in
theorem c_isContent {σ : ZS} {bw am jd fd en : Int32} {m : Nat} {r : Bool} {t : List Nat} {wl : List (Option Nat)} {B Wo Ho : List Int32} (h : Se σ bw am (nI m) (bI r) jd fd en (t.map nI) (wl.map oI) B Wo Ho) (hm : m ≤ 7) (ht : T7 t) (hw : W7 wl) {s : Nat} (hs : s < m) : Cn 1 M_X5_isContent 0 0 [.ref 22, .int (nI s)] σ (fun r9 σ' => r9 = some (.int (bI (contB r m t wl s))) ∧ σ' = σ) := by
  obtain ⟨e0, e1, e2, e3, e4, e5, l1, l2, l3, l4, l5⟩ := id h
  obtain ⟨ht7, htb⟩ := id ht
  obtain ⟨hw7, hwb⟩ := id hw
  refine Cn.intro (lv0 := [some (.ref 22), some (.int (nI s)), none, none, none]) rfl (Nat.le_of_ble_eq_true rfl) rfl (fun d hd => ?_)
  refine x_aload_n dX5_isContent_0 rfl ?_
  refine x_get (v := .ref 24) f_X5_15 e0 rfl dX5_isContent_1 ?_
  refine x_aload_n dX5_isContent_4 rfl ?_
  refine x_get (v := .ref 23) f_X5_9 e0 rfl dX5_isContent_5 ?_
  refine x_iload_n dX5_isContent_8 rfl ?_
  have hts := htb s
  refine x_iald (n := s) e1 rfl (by rw [l1]; omega) dX5_isContent_9 ?_
  refine x_topi (y := nI ((t.getD s 0))) gm_getD ?_
  refine x_iald (n := (t.getD s 0)) e2 rfl (by rw [l2]; omega) dX5_isContent_10 ?_
  refine x_topi (y := (oI (wl.getD (t.getD s 0) none))) (gm_oI (by omega)) ?_
  rcases hc : wl.getD (t.getD s 0) none with _ | w
  · refine x_topi (y := (-1)) rfl ?_
    refine x_istore_n dX5_isContent_11 (by decide) rfl ?_
    refine x_lv (lv' := [some (.ref 22), some (.int (nI s)), some (.int ((-1))), none, none]) rfl ?_
    refine x_iload_n dX5_isContent_12 rfl ?_
    refine x_iconst (v := (-1)) dX5_isContent_13 (by decide) ?_
    refine x_icmpT_ne (p := (-1)) (q := (-1)) (tgt := 19) (by decide) (by decide) dX5_isContent_14 (by decide) (fun h1 => ?_) (fun h1 => ?_)
    · exact absurd rfl h1
    · refine x_iconst (v := nI 1) dX5_isContent_17 (by decide) ?_
      exact x_zret ⟨Nat.le_refl _, Nat.le_refl _⟩ rfl (by decide) dX5_isContent_18 ⟨by rw [contB, hc]; rfl, rfl⟩
  · have hw8 := hwb _ _ hc
    refine x_topi (y := nI w) rfl ?_
    refine x_istore_n dX5_isContent_11 (by decide) rfl ?_
    refine x_lv (lv' := [some (.ref 22), some (.int (nI s)), some (.int (nI w)), none, none]) rfl ?_
    refine x_iload_n dX5_isContent_12 rfl ?_
    refine x_iconst (v := (-1)) dX5_isContent_13 (by decide) ?_
    refine x_icmpT_ne (p := ((w : Nat) : Int)) (q := (-1)) (tgt := 19) (nI_toInt (by omega)) (by decide) dX5_isContent_14 (by decide) (fun h2 => ?_) (fun h2 => ?_)
    · refine x_iload_n dX5_isContent_19 rfl ?_
      refine x_ifN_gt (tgt := 30) dX5_isContent_20 (by decide) (by omega) (fun h3 => ?_) (fun h3 => ?_)
      · refine x_aload_n dX5_isContent_30 rfl ?_
        refine x_get (v := .ref 23) f_X5_9 e0 rfl dX5_isContent_31 ?_
        refine x_iload_n dX5_isContent_34 rfl ?_
        refine x_ifN_le (tgt := 44) dX5_isContent_35 (by decide) (by omega) (fun h4 => ?_) (fun h4 => ?_)
        · refine x_aload_n dX5_isContent_44 rfl ?_
          refine x_get (v := .int (nI m)) f_X5_37 e0 rfl dX5_isContent_45 ?_
          refine x_iconst (v := nI 1) dX5_isContent_48 (by decide) ?_
          refine x_isubN (by omega) dX5_isContent_49 ?_
          refine x_topi (y := nI (pvS m s)) (by rw [pvS, if_neg (by omega)]) ?_
          have hpv : pvS m s < 7 := by unfold pvS; split <;> omega
          have hts1 := htb (pvS m s)
          refine x_iald (n := (pvS m s)) e1 rfl (by rw [l1]; omega) dX5_isContent_50 ?_
          refine x_topi (y := nI ((t.getD ((pvS m s)) 0))) gm_getD ?_
          refine x_iload_n dX5_isContent_51 rfl ?_
          refine x_icmpN_ne (tgt := 59) dX5_isContent_52 (by decide) (by omega) (by omega) (fun h5 => ?_) (fun h5 => ?_)
          · refine x_iconst (v := nI 0) dX5_isContent_59 (by decide) ?_
            refine x_istore_n dX5_isContent_60 (by decide) rfl ?_
            refine x_lv (lv' := [some (.ref 22), some (.int (nI s)), some (.int (nI w)), some (.int (nI 0)), none]) rfl ?_
            refine x_iload_n dX5_isContent_61 rfl ?_
            refine x_iconst (v := nI 1) dX5_isContent_62 (by decide) ?_
            refine x_iaddN dX5_isContent_63 ?_
            refine x_aload_n dX5_isContent_64 rfl ?_
            refine x_get (v := .int (nI m)) f_X5_37 e0 rfl dX5_isContent_65 ?_
            refine x_icmpN_lt (tgt := 78) dX5_isContent_68 (by decide) (by omega) (by omega) (fun h6 => ?_) (fun h6 => ?_)
            · refine x_aload_n dX5_isContent_78 rfl ?_
              refine x_get (v := .ref 23) f_X5_9 e0 rfl dX5_isContent_79 ?_
              refine x_aload_n dX5_isContent_82 rfl ?_
              refine x_iload_n dX5_isContent_83 rfl ?_
              refine x_callV m_X5_seatBehind l_X5_61 (c_seatBehind h hm ht hw (by omega)) rfl e0 (by omega) rfl rfl (Nat.le_of_ble_eq_true rfl) ⟨Nat.le_refl _, Nat.le_refl _⟩ dX5_isContent_84 (fun r7 s7 q7 => ?_)
              obtain ⟨rfl, eq7⟩ := q7
              obtain rfl := eq7.symm
              refine x_stk (st' := [.int (nI ((nxS m s))), .ref 23]) rfl ?_
              have hnx : nxS m s < 7 := by unfold nxS; split <;> omega
              refine x_iald (n := (nxS m s)) e1 rfl (by rw [l1]; omega) dX5_isContent_87 ?_
              refine x_topi (y := nI ((t.getD ((nxS m s)) 0))) gm_getD ?_
              have hts3 := htb (nxS m s)
              refine x_iload_n dX5_isContent_88 rfl ?_
              refine x_icmpN_ne (tgt := 96) dX5_isContent_89 (by decide) (by omega) (by omega) (fun h8 => ?_) (fun h8 => ?_)
              · refine x_iconst (v := nI 0) dX5_isContent_96 (by decide) ?_
                refine x_istore dX5_isContent_97 (by decide) rfl ?_
                refine x_lv (lv' := [some (.ref 22), some (.int (nI s)), some (.int (nI w)), some (.int (nI 0)), some (.int (nI 0))]) rfl ?_
                refine x_iload_n dX5_isContent_99 rfl ?_
                refine x_ifN_ne (tgt := 108) dX5_isContent_100 (by decide) (by omega) (fun h9 => ?_) (fun h9 => ?_)
                · exact absurd h9 (by decide)
                · refine x_iload dX5_isContent_103 rfl ?_
                  refine x_ifN_eq (tgt := 112) dX5_isContent_105 (by decide) (by omega) (fun h10 => ?_) (fun h10 => ?_)
                  · refine x_iconst (v := nI 0) dX5_isContent_112 (by decide) ?_
                    exact x_zret ⟨Nat.le_refl _, Nat.le_refl _⟩ rfl (by decide) dX5_isContent_113 ⟨by rw [contB_iff hc, bI_0 (by first | omega | (simp only [Bool.false_eq_true, or_false, or_true, true_and, false_and, and_false] <;> omega))], rfl⟩
                  · exact absurd h10 (by decide)
              · refine x_iconst (v := nI 1) dX5_isContent_92 (by decide) ?_
                refine x_goto (tgt := 97) dX5_isContent_93 (by decide) ?_
                refine x_istore dX5_isContent_97 (by decide) rfl ?_
                refine x_lv (lv' := [some (.ref 22), some (.int (nI s)), some (.int (nI w)), some (.int (nI 0)), some (.int (nI 1))]) rfl ?_
                refine x_iload_n dX5_isContent_99 rfl ?_
                refine x_ifN_ne (tgt := 108) dX5_isContent_100 (by decide) (by omega) (fun h11 => ?_) (fun h11 => ?_)
                · exact absurd h11 (by decide)
                · refine x_iload dX5_isContent_103 rfl ?_
                  refine x_ifN_eq (tgt := 112) dX5_isContent_105 (by decide) (by omega) (fun h12 => ?_) (fun h12 => ?_)
                  · exact absurd h12 (by decide)
                  · refine x_iconst (v := nI 1) dX5_isContent_108 (by decide) ?_
                    refine x_goto (tgt := 113) dX5_isContent_109 (by decide) ?_
                    exact x_zret ⟨Nat.le_refl _, Nat.le_refl _⟩ rfl (by decide) dX5_isContent_113 ⟨by rw [contB_iff hc, bI_1 (by first | omega | (simp only [Bool.false_eq_true, or_false, or_true, true_and, false_and, and_false] <;> omega))], rfl⟩
            · refine x_aload_n dX5_isContent_71 rfl ?_
              refine x_get (v := .int (bI r)) f_X5_45 e0 rfl dX5_isContent_72 ?_
              refine x_ifB_eq (tgt := 96) dX5_isContent_75 (by decide) (fun h13 => ?_) (fun h13 => ?_)
              · refine x_iconst (v := nI 0) dX5_isContent_96 (by decide) ?_
                refine x_istore dX5_isContent_97 (by decide) rfl ?_
                refine x_lv (lv' := [some (.ref 22), some (.int (nI s)), some (.int (nI w)), some (.int (nI 0)), some (.int (nI 0))]) rfl ?_
                refine x_iload_n dX5_isContent_99 rfl ?_
                refine x_ifN_ne (tgt := 108) dX5_isContent_100 (by decide) (by omega) (fun h14 => ?_) (fun h14 => ?_)
                · exact absurd h14 (by decide)
                · refine x_iload dX5_isContent_103 rfl ?_
                  refine x_ifN_eq (tgt := 112) dX5_isContent_105 (by decide) (by omega) (fun h15 => ?_) (fun h15 => ?_)
                  · refine x_iconst (v := nI 0) dX5_isContent_112 (by decide) ?_
                    exact x_zret ⟨Nat.le_refl _, Nat.le_refl _⟩ rfl (by decide) dX5_isContent_113 ⟨by rw [contB_iff hc, bI_0 (by first | omega | (simp only [h13, Bool.false_eq_true, or_false, or_true, true_and, false_and, and_false] <;> omega))], rfl⟩
                  · exact absurd h15 (by decide)
              · refine x_aload_n dX5_isContent_78 rfl ?_
                refine x_get (v := .ref 23) f_X5_9 e0 rfl dX5_isContent_79 ?_
                refine x_aload_n dX5_isContent_82 rfl ?_
                refine x_iload_n dX5_isContent_83 rfl ?_
                refine x_callV m_X5_seatBehind l_X5_61 (c_seatBehind h hm ht hw (by omega)) rfl e0 (by omega) rfl rfl (Nat.le_of_ble_eq_true rfl) ⟨Nat.le_refl _, Nat.le_refl _⟩ dX5_isContent_84 (fun r16 s16 q16 => ?_)
                obtain ⟨rfl, eq16⟩ := q16
                obtain rfl := eq16.symm
                refine x_stk (st' := [.int (nI ((nxS m s))), .ref 23]) rfl ?_
                have hnx : nxS m s < 7 := by unfold nxS; split <;> omega
                refine x_iald (n := (nxS m s)) e1 rfl (by rw [l1]; omega) dX5_isContent_87 ?_
                refine x_topi (y := nI ((t.getD ((nxS m s)) 0))) gm_getD ?_
                have hts3 := htb (nxS m s)
                refine x_iload_n dX5_isContent_88 rfl ?_
                refine x_icmpN_ne (tgt := 96) dX5_isContent_89 (by decide) (by omega) (by omega) (fun h17 => ?_) (fun h17 => ?_)
                · refine x_iconst (v := nI 0) dX5_isContent_96 (by decide) ?_
                  refine x_istore dX5_isContent_97 (by decide) rfl ?_
                  refine x_lv (lv' := [some (.ref 22), some (.int (nI s)), some (.int (nI w)), some (.int (nI 0)), some (.int (nI 0))]) rfl ?_
                  refine x_iload_n dX5_isContent_99 rfl ?_
                  refine x_ifN_ne (tgt := 108) dX5_isContent_100 (by decide) (by omega) (fun h18 => ?_) (fun h18 => ?_)
                  · exact absurd h18 (by decide)
                  · refine x_iload dX5_isContent_103 rfl ?_
                    refine x_ifN_eq (tgt := 112) dX5_isContent_105 (by decide) (by omega) (fun h19 => ?_) (fun h19 => ?_)
                    · refine x_iconst (v := nI 0) dX5_isContent_112 (by decide) ?_
                      exact x_zret ⟨Nat.le_refl _, Nat.le_refl _⟩ rfl (by decide) dX5_isContent_113 ⟨by rw [contB_iff hc, bI_0 (by first | omega | (simp only [h13, Bool.false_eq_true, or_false, or_true, true_and, false_and, and_false] <;> omega))], rfl⟩
                    · exact absurd h19 (by decide)
                · refine x_iconst (v := nI 1) dX5_isContent_92 (by decide) ?_
                  refine x_goto (tgt := 97) dX5_isContent_93 (by decide) ?_
                  refine x_istore dX5_isContent_97 (by decide) rfl ?_
                  refine x_lv (lv' := [some (.ref 22), some (.int (nI s)), some (.int (nI w)), some (.int (nI 0)), some (.int (nI 1))]) rfl ?_
                  refine x_iload_n dX5_isContent_99 rfl ?_
                  refine x_ifN_ne (tgt := 108) dX5_isContent_100 (by decide) (by omega) (fun h20 => ?_) (fun h20 => ?_)
                  · exact absurd h20 (by decide)
                  · refine x_iload dX5_isContent_103 rfl ?_
                    refine x_ifN_eq (tgt := 112) dX5_isContent_105 (by decide) (by omega) (fun h21 => ?_) (fun h21 => ?_)
                    · exact absurd h21 (by decide)
                    · refine x_iconst (v := nI 1) dX5_isContent_108 (by decide) ?_
                      refine x_goto (tgt := 113) dX5_isContent_109 (by decide) ?_
                      exact x_zret ⟨Nat.le_refl _, Nat.le_refl _⟩ rfl (by decide) dX5_isContent_113 ⟨by rw [contB_iff hc, bI_1 (by first | omega | (simp only [h13, Bool.false_eq_true, or_false, or_true, true_and, false_and, and_false] <;> omega))], rfl⟩
          · refine x_iconst (v := nI 1) dX5_isContent_55 (by decide) ?_
            refine x_goto (tgt := 60) dX5_isContent_56 (by decide) ?_
            refine x_istore_n dX5_isContent_60 (by decide) rfl ?_
            refine x_lv (lv' := [some (.ref 22), some (.int (nI s)), some (.int (nI w)), some (.int (nI 1)), none]) rfl ?_
            refine x_iload_n dX5_isContent_61 rfl ?_
            refine x_iconst (v := nI 1) dX5_isContent_62 (by decide) ?_
            refine x_iaddN dX5_isContent_63 ?_
            refine x_aload_n dX5_isContent_64 rfl ?_
            refine x_get (v := .int (nI m)) f_X5_37 e0 rfl dX5_isContent_65 ?_
            refine x_icmpN_lt (tgt := 78) dX5_isContent_68 (by decide) (by omega) (by omega) (fun h22 => ?_) (fun h22 => ?_)
            · refine x_aload_n dX5_isContent_78 rfl ?_
              refine x_get (v := .ref 23) f_X5_9 e0 rfl dX5_isContent_79 ?_
              refine x_aload_n dX5_isContent_82 rfl ?_
              refine x_iload_n dX5_isContent_83 rfl ?_
              refine x_callV m_X5_seatBehind l_X5_61 (c_seatBehind h hm ht hw (by omega)) rfl e0 (by omega) rfl rfl (Nat.le_of_ble_eq_true rfl) ⟨Nat.le_refl _, Nat.le_refl _⟩ dX5_isContent_84 (fun r23 s23 q23 => ?_)
              obtain ⟨rfl, eq23⟩ := q23
              obtain rfl := eq23.symm
              refine x_stk (st' := [.int (nI ((nxS m s))), .ref 23]) rfl ?_
              have hnx : nxS m s < 7 := by unfold nxS; split <;> omega
              refine x_iald (n := (nxS m s)) e1 rfl (by rw [l1]; omega) dX5_isContent_87 ?_
              refine x_topi (y := nI ((t.getD ((nxS m s)) 0))) gm_getD ?_
              have hts3 := htb (nxS m s)
              refine x_iload_n dX5_isContent_88 rfl ?_
              refine x_icmpN_ne (tgt := 96) dX5_isContent_89 (by decide) (by omega) (by omega) (fun h24 => ?_) (fun h24 => ?_)
              · refine x_iconst (v := nI 0) dX5_isContent_96 (by decide) ?_
                refine x_istore dX5_isContent_97 (by decide) rfl ?_
                refine x_lv (lv' := [some (.ref 22), some (.int (nI s)), some (.int (nI w)), some (.int (nI 1)), some (.int (nI 0))]) rfl ?_
                refine x_iload_n dX5_isContent_99 rfl ?_
                refine x_ifN_ne (tgt := 108) dX5_isContent_100 (by decide) (by omega) (fun h25 => ?_) (fun h25 => ?_)
                · refine x_iconst (v := nI 1) dX5_isContent_108 (by decide) ?_
                  refine x_goto (tgt := 113) dX5_isContent_109 (by decide) ?_
                  exact x_zret ⟨Nat.le_refl _, Nat.le_refl _⟩ rfl (by decide) dX5_isContent_113 ⟨by rw [contB_iff hc, bI_1 (by first | omega | (simp only [Bool.false_eq_true, or_false, or_true, true_and, false_and, and_false] <;> omega))], rfl⟩
                · exact absurd h25 (by decide)
              · refine x_iconst (v := nI 1) dX5_isContent_92 (by decide) ?_
                refine x_goto (tgt := 97) dX5_isContent_93 (by decide) ?_
                refine x_istore dX5_isContent_97 (by decide) rfl ?_
                refine x_lv (lv' := [some (.ref 22), some (.int (nI s)), some (.int (nI w)), some (.int (nI 1)), some (.int (nI 1))]) rfl ?_
                refine x_iload_n dX5_isContent_99 rfl ?_
                refine x_ifN_ne (tgt := 108) dX5_isContent_100 (by decide) (by omega) (fun h26 => ?_) (fun h26 => ?_)
                · refine x_iconst (v := nI 1) dX5_isContent_108 (by decide) ?_
                  refine x_goto (tgt := 113) dX5_isContent_109 (by decide) ?_
                  exact x_zret ⟨Nat.le_refl _, Nat.le_refl _⟩ rfl (by decide) dX5_isContent_113 ⟨by rw [contB_iff hc, bI_1 (by first | omega | (simp only [Bool.false_eq_true, or_false, or_true, true_and, false_and, and_false] <;> omega))], rfl⟩
                · exact absurd h26 (by decide)
            · refine x_aload_n dX5_isContent_71 rfl ?_
              refine x_get (v := .int (bI r)) f_X5_45 e0 rfl dX5_isContent_72 ?_
              refine x_ifB_eq (tgt := 96) dX5_isContent_75 (by decide) (fun h27 => ?_) (fun h27 => ?_)
              · refine x_iconst (v := nI 0) dX5_isContent_96 (by decide) ?_
                refine x_istore dX5_isContent_97 (by decide) rfl ?_
                refine x_lv (lv' := [some (.ref 22), some (.int (nI s)), some (.int (nI w)), some (.int (nI 1)), some (.int (nI 0))]) rfl ?_
                refine x_iload_n dX5_isContent_99 rfl ?_
                refine x_ifN_ne (tgt := 108) dX5_isContent_100 (by decide) (by omega) (fun h28 => ?_) (fun h28 => ?_)
                · refine x_iconst (v := nI 1) dX5_isContent_108 (by decide) ?_
                  refine x_goto (tgt := 113) dX5_isContent_109 (by decide) ?_
                  exact x_zret ⟨Nat.le_refl _, Nat.le_refl _⟩ rfl (by decide) dX5_isContent_113 ⟨by rw [contB_iff hc, bI_1 (by first | omega | (simp only [h27, Bool.false_eq_true, or_false, or_true, true_and, false_and, and_false] <;> omega))], rfl⟩
                · exact absurd h28 (by decide)
              · refine x_aload_n dX5_isContent_78 rfl ?_
                refine x_get (v := .ref 23) f_X5_9 e0 rfl dX5_isContent_79 ?_
                refine x_aload_n dX5_isContent_82 rfl ?_
                refine x_iload_n dX5_isContent_83 rfl ?_
                refine x_callV m_X5_seatBehind l_X5_61 (c_seatBehind h hm ht hw (by omega)) rfl e0 (by omega) rfl rfl (Nat.le_of_ble_eq_true rfl) ⟨Nat.le_refl _, Nat.le_refl _⟩ dX5_isContent_84 (fun r29 s29 q29 => ?_)
                obtain ⟨rfl, eq29⟩ := q29
                obtain rfl := eq29.symm
                refine x_stk (st' := [.int (nI ((nxS m s))), .ref 23]) rfl ?_
                have hnx : nxS m s < 7 := by unfold nxS; split <;> omega
                refine x_iald (n := (nxS m s)) e1 rfl (by rw [l1]; omega) dX5_isContent_87 ?_
                refine x_topi (y := nI ((t.getD ((nxS m s)) 0))) gm_getD ?_
                have hts3 := htb (nxS m s)
                refine x_iload_n dX5_isContent_88 rfl ?_
                refine x_icmpN_ne (tgt := 96) dX5_isContent_89 (by decide) (by omega) (by omega) (fun h30 => ?_) (fun h30 => ?_)
                · refine x_iconst (v := nI 0) dX5_isContent_96 (by decide) ?_
                  refine x_istore dX5_isContent_97 (by decide) rfl ?_
                  refine x_lv (lv' := [some (.ref 22), some (.int (nI s)), some (.int (nI w)), some (.int (nI 1)), some (.int (nI 0))]) rfl ?_
                  refine x_iload_n dX5_isContent_99 rfl ?_
                  refine x_ifN_ne (tgt := 108) dX5_isContent_100 (by decide) (by omega) (fun h31 => ?_) (fun h31 => ?_)
                  · refine x_iconst (v := nI 1) dX5_isContent_108 (by decide) ?_
                    refine x_goto (tgt := 113) dX5_isContent_109 (by decide) ?_
                    exact x_zret ⟨Nat.le_refl _, Nat.le_refl _⟩ rfl (by decide) dX5_isContent_113 ⟨by rw [contB_iff hc, bI_1 (by first | omega | (simp only [h27, Bool.false_eq_true, or_false, or_true, true_and, false_and, and_false] <;> omega))], rfl⟩
                  · exact absurd h31 (by decide)
                · refine x_iconst (v := nI 1) dX5_isContent_92 (by decide) ?_
                  refine x_goto (tgt := 97) dX5_isContent_93 (by decide) ?_
                  refine x_istore dX5_isContent_97 (by decide) rfl ?_
                  refine x_lv (lv' := [some (.ref 22), some (.int (nI s)), some (.int (nI w)), some (.int (nI 1)), some (.int (nI 1))]) rfl ?_
                  refine x_iload_n dX5_isContent_99 rfl ?_
                  refine x_ifN_ne (tgt := 108) dX5_isContent_100 (by decide) (by omega) (fun h32 => ?_) (fun h32 => ?_)
                  · refine x_iconst (v := nI 1) dX5_isContent_108 (by decide) ?_
                    refine x_goto (tgt := 113) dX5_isContent_109 (by decide) ?_
                    exact x_zret ⟨Nat.le_refl _, Nat.le_refl _⟩ rfl (by decide) dX5_isContent_113 ⟨by rw [contB_iff hc, bI_1 (by first | omega | (simp only [h27, Bool.false_eq_true, or_false, or_true, true_and, false_and, and_false] <;> omega))], rfl⟩
                  · exact absurd h32 (by decide)
        · refine x_iload_n dX5_isContent_38 rfl ?_
          refine x_iconst (v := nI 1) dX5_isContent_39 (by decide) ?_
          refine x_isubN (by omega) dX5_isContent_40 ?_
          refine x_goto (tgt := 50) dX5_isContent_41 (by decide) ?_
          refine x_topi (y := nI (pvS m s)) (by rw [pvS, if_pos (by omega)]) ?_
          have hpv : pvS m s < 7 := by unfold pvS; split <;> omega
          have hts1 := htb (pvS m s)
          refine x_iald (n := (pvS m s)) e1 rfl (by rw [l1]; omega) dX5_isContent_50 ?_
          refine x_topi (y := nI ((t.getD ((pvS m s)) 0))) gm_getD ?_
          refine x_iload_n dX5_isContent_51 rfl ?_
          refine x_icmpN_ne (tgt := 59) dX5_isContent_52 (by decide) (by omega) (by omega) (fun h33 => ?_) (fun h33 => ?_)
          · refine x_iconst (v := nI 0) dX5_isContent_59 (by decide) ?_
            refine x_istore_n dX5_isContent_60 (by decide) rfl ?_
            refine x_lv (lv' := [some (.ref 22), some (.int (nI s)), some (.int (nI w)), some (.int (nI 0)), none]) rfl ?_
            refine x_iload_n dX5_isContent_61 rfl ?_
            refine x_iconst (v := nI 1) dX5_isContent_62 (by decide) ?_
            refine x_iaddN dX5_isContent_63 ?_
            refine x_aload_n dX5_isContent_64 rfl ?_
            refine x_get (v := .int (nI m)) f_X5_37 e0 rfl dX5_isContent_65 ?_
            refine x_icmpN_lt (tgt := 78) dX5_isContent_68 (by decide) (by omega) (by omega) (fun h34 => ?_) (fun h34 => ?_)
            · refine x_aload_n dX5_isContent_78 rfl ?_
              refine x_get (v := .ref 23) f_X5_9 e0 rfl dX5_isContent_79 ?_
              refine x_aload_n dX5_isContent_82 rfl ?_
              refine x_iload_n dX5_isContent_83 rfl ?_
              refine x_callV m_X5_seatBehind l_X5_61 (c_seatBehind h hm ht hw (by omega)) rfl e0 (by omega) rfl rfl (Nat.le_of_ble_eq_true rfl) ⟨Nat.le_refl _, Nat.le_refl _⟩ dX5_isContent_84 (fun r35 s35 q35 => ?_)
              obtain ⟨rfl, eq35⟩ := q35
              obtain rfl := eq35.symm
              refine x_stk (st' := [.int (nI ((nxS m s))), .ref 23]) rfl ?_
              have hnx : nxS m s < 7 := by unfold nxS; split <;> omega
              refine x_iald (n := (nxS m s)) e1 rfl (by rw [l1]; omega) dX5_isContent_87 ?_
              refine x_topi (y := nI ((t.getD ((nxS m s)) 0))) gm_getD ?_
              have hts3 := htb (nxS m s)
              refine x_iload_n dX5_isContent_88 rfl ?_
              refine x_icmpN_ne (tgt := 96) dX5_isContent_89 (by decide) (by omega) (by omega) (fun h36 => ?_) (fun h36 => ?_)
              · refine x_iconst (v := nI 0) dX5_isContent_96 (by decide) ?_
                refine x_istore dX5_isContent_97 (by decide) rfl ?_
                refine x_lv (lv' := [some (.ref 22), some (.int (nI s)), some (.int (nI w)), some (.int (nI 0)), some (.int (nI 0))]) rfl ?_
                refine x_iload_n dX5_isContent_99 rfl ?_
                refine x_ifN_ne (tgt := 108) dX5_isContent_100 (by decide) (by omega) (fun h37 => ?_) (fun h37 => ?_)
                · exact absurd h37 (by decide)
                · refine x_iload dX5_isContent_103 rfl ?_
                  refine x_ifN_eq (tgt := 112) dX5_isContent_105 (by decide) (by omega) (fun h38 => ?_) (fun h38 => ?_)
                  · refine x_iconst (v := nI 0) dX5_isContent_112 (by decide) ?_
                    exact x_zret ⟨Nat.le_refl _, Nat.le_refl _⟩ rfl (by decide) dX5_isContent_113 ⟨by rw [contB_iff hc, bI_0 (by first | omega | (simp only [Bool.false_eq_true, or_false, or_true, true_and, false_and, and_false] <;> omega))], rfl⟩
                  · exact absurd h38 (by decide)
              · refine x_iconst (v := nI 1) dX5_isContent_92 (by decide) ?_
                refine x_goto (tgt := 97) dX5_isContent_93 (by decide) ?_
                refine x_istore dX5_isContent_97 (by decide) rfl ?_
                refine x_lv (lv' := [some (.ref 22), some (.int (nI s)), some (.int (nI w)), some (.int (nI 0)), some (.int (nI 1))]) rfl ?_
                refine x_iload_n dX5_isContent_99 rfl ?_
                refine x_ifN_ne (tgt := 108) dX5_isContent_100 (by decide) (by omega) (fun h39 => ?_) (fun h39 => ?_)
                · exact absurd h39 (by decide)
                · refine x_iload dX5_isContent_103 rfl ?_
                  refine x_ifN_eq (tgt := 112) dX5_isContent_105 (by decide) (by omega) (fun h40 => ?_) (fun h40 => ?_)
                  · exact absurd h40 (by decide)
                  · refine x_iconst (v := nI 1) dX5_isContent_108 (by decide) ?_
                    refine x_goto (tgt := 113) dX5_isContent_109 (by decide) ?_
                    exact x_zret ⟨Nat.le_refl _, Nat.le_refl _⟩ rfl (by decide) dX5_isContent_113 ⟨by rw [contB_iff hc, bI_1 (by first | omega | (simp only [Bool.false_eq_true, or_false, or_true, true_and, false_and, and_false] <;> omega))], rfl⟩
            · refine x_aload_n dX5_isContent_71 rfl ?_
              refine x_get (v := .int (bI r)) f_X5_45 e0 rfl dX5_isContent_72 ?_
              refine x_ifB_eq (tgt := 96) dX5_isContent_75 (by decide) (fun h41 => ?_) (fun h41 => ?_)
              · refine x_iconst (v := nI 0) dX5_isContent_96 (by decide) ?_
                refine x_istore dX5_isContent_97 (by decide) rfl ?_
                refine x_lv (lv' := [some (.ref 22), some (.int (nI s)), some (.int (nI w)), some (.int (nI 0)), some (.int (nI 0))]) rfl ?_
                refine x_iload_n dX5_isContent_99 rfl ?_
                refine x_ifN_ne (tgt := 108) dX5_isContent_100 (by decide) (by omega) (fun h42 => ?_) (fun h42 => ?_)
                · exact absurd h42 (by decide)
                · refine x_iload dX5_isContent_103 rfl ?_
                  refine x_ifN_eq (tgt := 112) dX5_isContent_105 (by decide) (by omega) (fun h43 => ?_) (fun h43 => ?_)
                  · refine x_iconst (v := nI 0) dX5_isContent_112 (by decide) ?_
                    exact x_zret ⟨Nat.le_refl _, Nat.le_refl _⟩ rfl (by decide) dX5_isContent_113 ⟨by rw [contB_iff hc, bI_0 (by first | omega | (simp only [h41, Bool.false_eq_true, or_false, or_true, true_and, false_and, and_false] <;> omega))], rfl⟩
                  · exact absurd h43 (by decide)
              · refine x_aload_n dX5_isContent_78 rfl ?_
                refine x_get (v := .ref 23) f_X5_9 e0 rfl dX5_isContent_79 ?_
                refine x_aload_n dX5_isContent_82 rfl ?_
                refine x_iload_n dX5_isContent_83 rfl ?_
                refine x_callV m_X5_seatBehind l_X5_61 (c_seatBehind h hm ht hw (by omega)) rfl e0 (by omega) rfl rfl (Nat.le_of_ble_eq_true rfl) ⟨Nat.le_refl _, Nat.le_refl _⟩ dX5_isContent_84 (fun r44 s44 q44 => ?_)
                obtain ⟨rfl, eq44⟩ := q44
                obtain rfl := eq44.symm
                refine x_stk (st' := [.int (nI ((nxS m s))), .ref 23]) rfl ?_
                have hnx : nxS m s < 7 := by unfold nxS; split <;> omega
                refine x_iald (n := (nxS m s)) e1 rfl (by rw [l1]; omega) dX5_isContent_87 ?_
                refine x_topi (y := nI ((t.getD ((nxS m s)) 0))) gm_getD ?_
                have hts3 := htb (nxS m s)
                refine x_iload_n dX5_isContent_88 rfl ?_
                refine x_icmpN_ne (tgt := 96) dX5_isContent_89 (by decide) (by omega) (by omega) (fun h45 => ?_) (fun h45 => ?_)
                · refine x_iconst (v := nI 0) dX5_isContent_96 (by decide) ?_
                  refine x_istore dX5_isContent_97 (by decide) rfl ?_
                  refine x_lv (lv' := [some (.ref 22), some (.int (nI s)), some (.int (nI w)), some (.int (nI 0)), some (.int (nI 0))]) rfl ?_
                  refine x_iload_n dX5_isContent_99 rfl ?_
                  refine x_ifN_ne (tgt := 108) dX5_isContent_100 (by decide) (by omega) (fun h46 => ?_) (fun h46 => ?_)
                  · exact absurd h46 (by decide)
                  · refine x_iload dX5_isContent_103 rfl ?_
                    refine x_ifN_eq (tgt := 112) dX5_isContent_105 (by decide) (by omega) (fun h47 => ?_) (fun h47 => ?_)
                    · refine x_iconst (v := nI 0) dX5_isContent_112 (by decide) ?_
                      exact x_zret ⟨Nat.le_refl _, Nat.le_refl _⟩ rfl (by decide) dX5_isContent_113 ⟨by rw [contB_iff hc, bI_0 (by first | omega | (simp only [h41, Bool.false_eq_true, or_false, or_true, true_and, false_and, and_false] <;> omega))], rfl⟩
                    · exact absurd h47 (by decide)
                · refine x_iconst (v := nI 1) dX5_isContent_92 (by decide) ?_
                  refine x_goto (tgt := 97) dX5_isContent_93 (by decide) ?_
                  refine x_istore dX5_isContent_97 (by decide) rfl ?_
                  refine x_lv (lv' := [some (.ref 22), some (.int (nI s)), some (.int (nI w)), some (.int (nI 0)), some (.int (nI 1))]) rfl ?_
                  refine x_iload_n dX5_isContent_99 rfl ?_
                  refine x_ifN_ne (tgt := 108) dX5_isContent_100 (by decide) (by omega) (fun h48 => ?_) (fun h48 => ?_)
                  · exact absurd h48 (by decide)
                  · refine x_iload dX5_isContent_103 rfl ?_
                    refine x_ifN_eq (tgt := 112) dX5_isContent_105 (by decide) (by omega) (fun h49 => ?_) (fun h49 => ?_)
                    · exact absurd h49 (by decide)
                    · refine x_iconst (v := nI 1) dX5_isContent_108 (by decide) ?_
                      refine x_goto (tgt := 113) dX5_isContent_109 (by decide) ?_
                      exact x_zret ⟨Nat.le_refl _, Nat.le_refl _⟩ rfl (by decide) dX5_isContent_113 ⟨by rw [contB_iff hc, bI_1 (by first | omega | (simp only [h41, Bool.false_eq_true, or_false, or_true, true_and, false_and, and_false] <;> omega))], rfl⟩
          · refine x_iconst (v := nI 1) dX5_isContent_55 (by decide) ?_
            refine x_goto (tgt := 60) dX5_isContent_56 (by decide) ?_
            refine x_istore_n dX5_isContent_60 (by decide) rfl ?_
            refine x_lv (lv' := [some (.ref 22), some (.int (nI s)), some (.int (nI w)), some (.int (nI 1)), none]) rfl ?_
            refine x_iload_n dX5_isContent_61 rfl ?_
            refine x_iconst (v := nI 1) dX5_isContent_62 (by decide) ?_
            refine x_iaddN dX5_isContent_63 ?_
            refine x_aload_n dX5_isContent_64 rfl ?_
            refine x_get (v := .int (nI m)) f_X5_37 e0 rfl dX5_isContent_65 ?_
            refine x_icmpN_lt (tgt := 78) dX5_isContent_68 (by decide) (by omega) (by omega) (fun h50 => ?_) (fun h50 => ?_)
            · refine x_aload_n dX5_isContent_78 rfl ?_
              refine x_get (v := .ref 23) f_X5_9 e0 rfl dX5_isContent_79 ?_
              refine x_aload_n dX5_isContent_82 rfl ?_
              refine x_iload_n dX5_isContent_83 rfl ?_
              refine x_callV m_X5_seatBehind l_X5_61 (c_seatBehind h hm ht hw (by omega)) rfl e0 (by omega) rfl rfl (Nat.le_of_ble_eq_true rfl) ⟨Nat.le_refl _, Nat.le_refl _⟩ dX5_isContent_84 (fun r51 s51 q51 => ?_)
              obtain ⟨rfl, eq51⟩ := q51
              obtain rfl := eq51.symm
              refine x_stk (st' := [.int (nI ((nxS m s))), .ref 23]) rfl ?_
              have hnx : nxS m s < 7 := by unfold nxS; split <;> omega
              refine x_iald (n := (nxS m s)) e1 rfl (by rw [l1]; omega) dX5_isContent_87 ?_
              refine x_topi (y := nI ((t.getD ((nxS m s)) 0))) gm_getD ?_
              have hts3 := htb (nxS m s)
              refine x_iload_n dX5_isContent_88 rfl ?_
              refine x_icmpN_ne (tgt := 96) dX5_isContent_89 (by decide) (by omega) (by omega) (fun h52 => ?_) (fun h52 => ?_)
              · refine x_iconst (v := nI 0) dX5_isContent_96 (by decide) ?_
                refine x_istore dX5_isContent_97 (by decide) rfl ?_
                refine x_lv (lv' := [some (.ref 22), some (.int (nI s)), some (.int (nI w)), some (.int (nI 1)), some (.int (nI 0))]) rfl ?_
                refine x_iload_n dX5_isContent_99 rfl ?_
                refine x_ifN_ne (tgt := 108) dX5_isContent_100 (by decide) (by omega) (fun h53 => ?_) (fun h53 => ?_)
                · refine x_iconst (v := nI 1) dX5_isContent_108 (by decide) ?_
                  refine x_goto (tgt := 113) dX5_isContent_109 (by decide) ?_
                  exact x_zret ⟨Nat.le_refl _, Nat.le_refl _⟩ rfl (by decide) dX5_isContent_113 ⟨by rw [contB_iff hc, bI_1 (by first | omega | (simp only [Bool.false_eq_true, or_false, or_true, true_and, false_and, and_false] <;> omega))], rfl⟩
                · exact absurd h53 (by decide)
              · refine x_iconst (v := nI 1) dX5_isContent_92 (by decide) ?_
                refine x_goto (tgt := 97) dX5_isContent_93 (by decide) ?_
                refine x_istore dX5_isContent_97 (by decide) rfl ?_
                refine x_lv (lv' := [some (.ref 22), some (.int (nI s)), some (.int (nI w)), some (.int (nI 1)), some (.int (nI 1))]) rfl ?_
                refine x_iload_n dX5_isContent_99 rfl ?_
                refine x_ifN_ne (tgt := 108) dX5_isContent_100 (by decide) (by omega) (fun h54 => ?_) (fun h54 => ?_)
                · refine x_iconst (v := nI 1) dX5_isContent_108 (by decide) ?_
                  refine x_goto (tgt := 113) dX5_isContent_109 (by decide) ?_
                  exact x_zret ⟨Nat.le_refl _, Nat.le_refl _⟩ rfl (by decide) dX5_isContent_113 ⟨by rw [contB_iff hc, bI_1 (by first | omega | (simp only [Bool.false_eq_true, or_false, or_true, true_and, false_and, and_false] <;> omega))], rfl⟩
                · exact absurd h54 (by decide)
            · refine x_aload_n dX5_isContent_71 rfl ?_
              refine x_get (v := .int (bI r)) f_X5_45 e0 rfl dX5_isContent_72 ?_
              refine x_ifB_eq (tgt := 96) dX5_isContent_75 (by decide) (fun h55 => ?_) (fun h55 => ?_)
              · refine x_iconst (v := nI 0) dX5_isContent_96 (by decide) ?_
                refine x_istore dX5_isContent_97 (by decide) rfl ?_
                refine x_lv (lv' := [some (.ref 22), some (.int (nI s)), some (.int (nI w)), some (.int (nI 1)), some (.int (nI 0))]) rfl ?_
                refine x_iload_n dX5_isContent_99 rfl ?_
                refine x_ifN_ne (tgt := 108) dX5_isContent_100 (by decide) (by omega) (fun h56 => ?_) (fun h56 => ?_)
                · refine x_iconst (v := nI 1) dX5_isContent_108 (by decide) ?_
                  refine x_goto (tgt := 113) dX5_isContent_109 (by decide) ?_
                  exact x_zret ⟨Nat.le_refl _, Nat.le_refl _⟩ rfl (by decide) dX5_isContent_113 ⟨by rw [contB_iff hc, bI_1 (by first | omega | (simp only [h55, Bool.false_eq_true, or_false, or_true, true_and, false_and, and_false] <;> omega))], rfl⟩
                · exact absurd h56 (by decide)
              · refine x_aload_n dX5_isContent_78 rfl ?_
                refine x_get (v := .ref 23) f_X5_9 e0 rfl dX5_isContent_79 ?_
                refine x_aload_n dX5_isContent_82 rfl ?_
                refine x_iload_n dX5_isContent_83 rfl ?_
                refine x_callV m_X5_seatBehind l_X5_61 (c_seatBehind h hm ht hw (by omega)) rfl e0 (by omega) rfl rfl (Nat.le_of_ble_eq_true rfl) ⟨Nat.le_refl _, Nat.le_refl _⟩ dX5_isContent_84 (fun r57 s57 q57 => ?_)
                obtain ⟨rfl, eq57⟩ := q57
                obtain rfl := eq57.symm
                refine x_stk (st' := [.int (nI ((nxS m s))), .ref 23]) rfl ?_
                have hnx : nxS m s < 7 := by unfold nxS; split <;> omega
                refine x_iald (n := (nxS m s)) e1 rfl (by rw [l1]; omega) dX5_isContent_87 ?_
                refine x_topi (y := nI ((t.getD ((nxS m s)) 0))) gm_getD ?_
                have hts3 := htb (nxS m s)
                refine x_iload_n dX5_isContent_88 rfl ?_
                refine x_icmpN_ne (tgt := 96) dX5_isContent_89 (by decide) (by omega) (by omega) (fun h58 => ?_) (fun h58 => ?_)
                · refine x_iconst (v := nI 0) dX5_isContent_96 (by decide) ?_
                  refine x_istore dX5_isContent_97 (by decide) rfl ?_
                  refine x_lv (lv' := [some (.ref 22), some (.int (nI s)), some (.int (nI w)), some (.int (nI 1)), some (.int (nI 0))]) rfl ?_
                  refine x_iload_n dX5_isContent_99 rfl ?_
                  refine x_ifN_ne (tgt := 108) dX5_isContent_100 (by decide) (by omega) (fun h59 => ?_) (fun h59 => ?_)
                  · refine x_iconst (v := nI 1) dX5_isContent_108 (by decide) ?_
                    refine x_goto (tgt := 113) dX5_isContent_109 (by decide) ?_
                    exact x_zret ⟨Nat.le_refl _, Nat.le_refl _⟩ rfl (by decide) dX5_isContent_113 ⟨by rw [contB_iff hc, bI_1 (by first | omega | (simp only [h55, Bool.false_eq_true, or_false, or_true, true_and, false_and, and_false] <;> omega))], rfl⟩
                  · exact absurd h59 (by decide)
                · refine x_iconst (v := nI 1) dX5_isContent_92 (by decide) ?_
                  refine x_goto (tgt := 97) dX5_isContent_93 (by decide) ?_
                  refine x_istore dX5_isContent_97 (by decide) rfl ?_
                  refine x_lv (lv' := [some (.ref 22), some (.int (nI s)), some (.int (nI w)), some (.int (nI 1)), some (.int (nI 1))]) rfl ?_
                  refine x_iload_n dX5_isContent_99 rfl ?_
                  refine x_ifN_ne (tgt := 108) dX5_isContent_100 (by decide) (by omega) (fun h60 => ?_) (fun h60 => ?_)
                  · refine x_iconst (v := nI 1) dX5_isContent_108 (by decide) ?_
                    refine x_goto (tgt := 113) dX5_isContent_109 (by decide) ?_
                    exact x_zret ⟨Nat.le_refl _, Nat.le_refl _⟩ rfl (by decide) dX5_isContent_113 ⟨by rw [contB_iff hc, bI_1 (by first | omega | (simp only [h55, Bool.false_eq_true, or_false, or_true, true_and, false_and, and_false] <;> omega))], rfl⟩
                  · exact absurd h60 (by decide)
      · refine x_aload_n dX5_isContent_23 rfl ?_
        refine x_get (v := .int (bI r)) f_X5_45 e0 rfl dX5_isContent_24 ?_
        refine x_ifB_eq (tgt := 59) dX5_isContent_27 (by decide) (fun h61 => ?_) (fun h61 => ?_)
        · refine x_iconst (v := nI 0) dX5_isContent_59 (by decide) ?_
          refine x_istore_n dX5_isContent_60 (by decide) rfl ?_
          refine x_lv (lv' := [some (.ref 22), some (.int (nI s)), some (.int (nI w)), some (.int (nI 0)), none]) rfl ?_
          refine x_iload_n dX5_isContent_61 rfl ?_
          refine x_iconst (v := nI 1) dX5_isContent_62 (by decide) ?_
          refine x_iaddN dX5_isContent_63 ?_
          refine x_aload_n dX5_isContent_64 rfl ?_
          refine x_get (v := .int (nI m)) f_X5_37 e0 rfl dX5_isContent_65 ?_
          refine x_icmpN_lt (tgt := 78) dX5_isContent_68 (by decide) (by omega) (by omega) (fun h62 => ?_) (fun h62 => ?_)
          · refine x_aload_n dX5_isContent_78 rfl ?_
            refine x_get (v := .ref 23) f_X5_9 e0 rfl dX5_isContent_79 ?_
            refine x_aload_n dX5_isContent_82 rfl ?_
            refine x_iload_n dX5_isContent_83 rfl ?_
            refine x_callV m_X5_seatBehind l_X5_61 (c_seatBehind h hm ht hw (by omega)) rfl e0 (by omega) rfl rfl (Nat.le_of_ble_eq_true rfl) ⟨Nat.le_refl _, Nat.le_refl _⟩ dX5_isContent_84 (fun r63 s63 q63 => ?_)
            obtain ⟨rfl, eq63⟩ := q63
            obtain rfl := eq63.symm
            refine x_stk (st' := [.int (nI ((nxS m s))), .ref 23]) rfl ?_
            have hnx : nxS m s < 7 := by unfold nxS; split <;> omega
            refine x_iald (n := (nxS m s)) e1 rfl (by rw [l1]; omega) dX5_isContent_87 ?_
            refine x_topi (y := nI ((t.getD ((nxS m s)) 0))) gm_getD ?_
            have hts3 := htb (nxS m s)
            refine x_iload_n dX5_isContent_88 rfl ?_
            refine x_icmpN_ne (tgt := 96) dX5_isContent_89 (by decide) (by omega) (by omega) (fun h64 => ?_) (fun h64 => ?_)
            · refine x_iconst (v := nI 0) dX5_isContent_96 (by decide) ?_
              refine x_istore dX5_isContent_97 (by decide) rfl ?_
              refine x_lv (lv' := [some (.ref 22), some (.int (nI s)), some (.int (nI w)), some (.int (nI 0)), some (.int (nI 0))]) rfl ?_
              refine x_iload_n dX5_isContent_99 rfl ?_
              refine x_ifN_ne (tgt := 108) dX5_isContent_100 (by decide) (by omega) (fun h65 => ?_) (fun h65 => ?_)
              · exact absurd h65 (by decide)
              · refine x_iload dX5_isContent_103 rfl ?_
                refine x_ifN_eq (tgt := 112) dX5_isContent_105 (by decide) (by omega) (fun h66 => ?_) (fun h66 => ?_)
                · refine x_iconst (v := nI 0) dX5_isContent_112 (by decide) ?_
                  exact x_zret ⟨Nat.le_refl _, Nat.le_refl _⟩ rfl (by decide) dX5_isContent_113 ⟨by rw [contB_iff hc, bI_0 (by first | omega | (simp only [h61, Bool.false_eq_true, or_false, or_true, true_and, false_and, and_false] <;> omega))], rfl⟩
                · exact absurd h66 (by decide)
            · refine x_iconst (v := nI 1) dX5_isContent_92 (by decide) ?_
              refine x_goto (tgt := 97) dX5_isContent_93 (by decide) ?_
              refine x_istore dX5_isContent_97 (by decide) rfl ?_
              refine x_lv (lv' := [some (.ref 22), some (.int (nI s)), some (.int (nI w)), some (.int (nI 0)), some (.int (nI 1))]) rfl ?_
              refine x_iload_n dX5_isContent_99 rfl ?_
              refine x_ifN_ne (tgt := 108) dX5_isContent_100 (by decide) (by omega) (fun h67 => ?_) (fun h67 => ?_)
              · exact absurd h67 (by decide)
              · refine x_iload dX5_isContent_103 rfl ?_
                refine x_ifN_eq (tgt := 112) dX5_isContent_105 (by decide) (by omega) (fun h68 => ?_) (fun h68 => ?_)
                · exact absurd h68 (by decide)
                · refine x_iconst (v := nI 1) dX5_isContent_108 (by decide) ?_
                  refine x_goto (tgt := 113) dX5_isContent_109 (by decide) ?_
                  exact x_zret ⟨Nat.le_refl _, Nat.le_refl _⟩ rfl (by decide) dX5_isContent_113 ⟨by rw [contB_iff hc, bI_1 (by first | omega | (simp only [h61, Bool.false_eq_true, or_false, or_true, true_and, false_and, and_false] <;> omega))], rfl⟩
          · refine x_aload_n dX5_isContent_71 rfl ?_
            refine x_get (v := .int (bI r)) f_X5_45 e0 rfl dX5_isContent_72 ?_
            refine x_ifB_eq (tgt := 96) dX5_isContent_75 (by decide) (fun h69 => ?_) (fun h69 => ?_)
            · refine x_iconst (v := nI 0) dX5_isContent_96 (by decide) ?_
              refine x_istore dX5_isContent_97 (by decide) rfl ?_
              refine x_lv (lv' := [some (.ref 22), some (.int (nI s)), some (.int (nI w)), some (.int (nI 0)), some (.int (nI 0))]) rfl ?_
              refine x_iload_n dX5_isContent_99 rfl ?_
              refine x_ifN_ne (tgt := 108) dX5_isContent_100 (by decide) (by omega) (fun h70 => ?_) (fun h70 => ?_)
              · exact absurd h70 (by decide)
              · refine x_iload dX5_isContent_103 rfl ?_
                refine x_ifN_eq (tgt := 112) dX5_isContent_105 (by decide) (by omega) (fun h71 => ?_) (fun h71 => ?_)
                · refine x_iconst (v := nI 0) dX5_isContent_112 (by decide) ?_
                  exact x_zret ⟨Nat.le_refl _, Nat.le_refl _⟩ rfl (by decide) dX5_isContent_113 ⟨by rw [contB_iff hc, bI_0 (by first | omega | (simp only [h61, h69, Bool.false_eq_true, or_false, or_true, true_and, false_and, and_false] <;> omega) | exact absurd (h61.symm.trans h69) (by decide))], rfl⟩
                · exact absurd h71 (by decide)
            · refine x_aload_n dX5_isContent_78 rfl ?_
              refine x_get (v := .ref 23) f_X5_9 e0 rfl dX5_isContent_79 ?_
              refine x_aload_n dX5_isContent_82 rfl ?_
              refine x_iload_n dX5_isContent_83 rfl ?_
              refine x_callV m_X5_seatBehind l_X5_61 (c_seatBehind h hm ht hw (by omega)) rfl e0 (by omega) rfl rfl (Nat.le_of_ble_eq_true rfl) ⟨Nat.le_refl _, Nat.le_refl _⟩ dX5_isContent_84 (fun r72 s72 q72 => ?_)
              obtain ⟨rfl, eq72⟩ := q72
              obtain rfl := eq72.symm
              refine x_stk (st' := [.int (nI ((nxS m s))), .ref 23]) rfl ?_
              have hnx : nxS m s < 7 := by unfold nxS; split <;> omega
              refine x_iald (n := (nxS m s)) e1 rfl (by rw [l1]; omega) dX5_isContent_87 ?_
              refine x_topi (y := nI ((t.getD ((nxS m s)) 0))) gm_getD ?_
              have hts3 := htb (nxS m s)
              refine x_iload_n dX5_isContent_88 rfl ?_
              refine x_icmpN_ne (tgt := 96) dX5_isContent_89 (by decide) (by omega) (by omega) (fun h73 => ?_) (fun h73 => ?_)
              · refine x_iconst (v := nI 0) dX5_isContent_96 (by decide) ?_
                refine x_istore dX5_isContent_97 (by decide) rfl ?_
                refine x_lv (lv' := [some (.ref 22), some (.int (nI s)), some (.int (nI w)), some (.int (nI 0)), some (.int (nI 0))]) rfl ?_
                refine x_iload_n dX5_isContent_99 rfl ?_
                refine x_ifN_ne (tgt := 108) dX5_isContent_100 (by decide) (by omega) (fun h74 => ?_) (fun h74 => ?_)
                · exact absurd h74 (by decide)
                · refine x_iload dX5_isContent_103 rfl ?_
                  refine x_ifN_eq (tgt := 112) dX5_isContent_105 (by decide) (by omega) (fun h75 => ?_) (fun h75 => ?_)
                  · refine x_iconst (v := nI 0) dX5_isContent_112 (by decide) ?_
                    exact x_zret ⟨Nat.le_refl _, Nat.le_refl _⟩ rfl (by decide) dX5_isContent_113 ⟨by rw [contB_iff hc, bI_0 (by first | omega | (simp only [h61, h69, Bool.false_eq_true, or_false, or_true, true_and, false_and, and_false] <;> omega) | exact absurd (h61.symm.trans h69) (by decide))], rfl⟩
                  · exact absurd h75 (by decide)
              · refine x_iconst (v := nI 1) dX5_isContent_92 (by decide) ?_
                refine x_goto (tgt := 97) dX5_isContent_93 (by decide) ?_
                refine x_istore dX5_isContent_97 (by decide) rfl ?_
                refine x_lv (lv' := [some (.ref 22), some (.int (nI s)), some (.int (nI w)), some (.int (nI 0)), some (.int (nI 1))]) rfl ?_
                refine x_iload_n dX5_isContent_99 rfl ?_
                refine x_ifN_ne (tgt := 108) dX5_isContent_100 (by decide) (by omega) (fun h76 => ?_) (fun h76 => ?_)
                · exact absurd h76 (by decide)
                · refine x_iload dX5_isContent_103 rfl ?_
                  refine x_ifN_eq (tgt := 112) dX5_isContent_105 (by decide) (by omega) (fun h77 => ?_) (fun h77 => ?_)
                  · exact absurd h77 (by decide)
                  · refine x_iconst (v := nI 1) dX5_isContent_108 (by decide) ?_
                    refine x_goto (tgt := 113) dX5_isContent_109 (by decide) ?_
                    exact x_zret ⟨Nat.le_refl _, Nat.le_refl _⟩ rfl (by decide) dX5_isContent_113 ⟨by rw [contB_iff hc, bI_1 (by first | omega | (simp only [h61, h69, Bool.false_eq_true, or_false, or_true, true_and, false_and, and_false] <;> omega) | exact absurd (h61.symm.trans h69) (by decide))], rfl⟩
        · refine x_aload_n dX5_isContent_30 rfl ?_
          refine x_get (v := .ref 23) f_X5_9 e0 rfl dX5_isContent_31 ?_
          refine x_iload_n dX5_isContent_34 rfl ?_
          refine x_ifN_le (tgt := 44) dX5_isContent_35 (by decide) (by omega) (fun h78 => ?_) (fun h78 => ?_)
          · refine x_aload_n dX5_isContent_44 rfl ?_
            refine x_get (v := .int (nI m)) f_X5_37 e0 rfl dX5_isContent_45 ?_
            refine x_iconst (v := nI 1) dX5_isContent_48 (by decide) ?_
            refine x_isubN (by omega) dX5_isContent_49 ?_
            refine x_topi (y := nI (pvS m s)) (by rw [pvS, if_neg (by omega)]) ?_
            have hpv : pvS m s < 7 := by unfold pvS; split <;> omega
            have hts1 := htb (pvS m s)
            refine x_iald (n := (pvS m s)) e1 rfl (by rw [l1]; omega) dX5_isContent_50 ?_
            refine x_topi (y := nI ((t.getD ((pvS m s)) 0))) gm_getD ?_
            refine x_iload_n dX5_isContent_51 rfl ?_
            refine x_icmpN_ne (tgt := 59) dX5_isContent_52 (by decide) (by omega) (by omega) (fun h79 => ?_) (fun h79 => ?_)
            · refine x_iconst (v := nI 0) dX5_isContent_59 (by decide) ?_
              refine x_istore_n dX5_isContent_60 (by decide) rfl ?_
              refine x_lv (lv' := [some (.ref 22), some (.int (nI s)), some (.int (nI w)), some (.int (nI 0)), none]) rfl ?_
              refine x_iload_n dX5_isContent_61 rfl ?_
              refine x_iconst (v := nI 1) dX5_isContent_62 (by decide) ?_
              refine x_iaddN dX5_isContent_63 ?_
              refine x_aload_n dX5_isContent_64 rfl ?_
              refine x_get (v := .int (nI m)) f_X5_37 e0 rfl dX5_isContent_65 ?_
              refine x_icmpN_lt (tgt := 78) dX5_isContent_68 (by decide) (by omega) (by omega) (fun h80 => ?_) (fun h80 => ?_)
              · refine x_aload_n dX5_isContent_78 rfl ?_
                refine x_get (v := .ref 23) f_X5_9 e0 rfl dX5_isContent_79 ?_
                refine x_aload_n dX5_isContent_82 rfl ?_
                refine x_iload_n dX5_isContent_83 rfl ?_
                refine x_callV m_X5_seatBehind l_X5_61 (c_seatBehind h hm ht hw (by omega)) rfl e0 (by omega) rfl rfl (Nat.le_of_ble_eq_true rfl) ⟨Nat.le_refl _, Nat.le_refl _⟩ dX5_isContent_84 (fun r81 s81 q81 => ?_)
                obtain ⟨rfl, eq81⟩ := q81
                obtain rfl := eq81.symm
                refine x_stk (st' := [.int (nI ((nxS m s))), .ref 23]) rfl ?_
                have hnx : nxS m s < 7 := by unfold nxS; split <;> omega
                refine x_iald (n := (nxS m s)) e1 rfl (by rw [l1]; omega) dX5_isContent_87 ?_
                refine x_topi (y := nI ((t.getD ((nxS m s)) 0))) gm_getD ?_
                have hts3 := htb (nxS m s)
                refine x_iload_n dX5_isContent_88 rfl ?_
                refine x_icmpN_ne (tgt := 96) dX5_isContent_89 (by decide) (by omega) (by omega) (fun h82 => ?_) (fun h82 => ?_)
                · refine x_iconst (v := nI 0) dX5_isContent_96 (by decide) ?_
                  refine x_istore dX5_isContent_97 (by decide) rfl ?_
                  refine x_lv (lv' := [some (.ref 22), some (.int (nI s)), some (.int (nI w)), some (.int (nI 0)), some (.int (nI 0))]) rfl ?_
                  refine x_iload_n dX5_isContent_99 rfl ?_
                  refine x_ifN_ne (tgt := 108) dX5_isContent_100 (by decide) (by omega) (fun h83 => ?_) (fun h83 => ?_)
                  · exact absurd h83 (by decide)
                  · refine x_iload dX5_isContent_103 rfl ?_
                    refine x_ifN_eq (tgt := 112) dX5_isContent_105 (by decide) (by omega) (fun h84 => ?_) (fun h84 => ?_)
                    · refine x_iconst (v := nI 0) dX5_isContent_112 (by decide) ?_
                      exact x_zret ⟨Nat.le_refl _, Nat.le_refl _⟩ rfl (by decide) dX5_isContent_113 ⟨by rw [contB_iff hc, bI_0 (by first | omega | (simp only [h61, Bool.false_eq_true, or_false, or_true, true_and, false_and, and_false] <;> omega))], rfl⟩
                    · exact absurd h84 (by decide)
                · refine x_iconst (v := nI 1) dX5_isContent_92 (by decide) ?_
                  refine x_goto (tgt := 97) dX5_isContent_93 (by decide) ?_
                  refine x_istore dX5_isContent_97 (by decide) rfl ?_
                  refine x_lv (lv' := [some (.ref 22), some (.int (nI s)), some (.int (nI w)), some (.int (nI 0)), some (.int (nI 1))]) rfl ?_
                  refine x_iload_n dX5_isContent_99 rfl ?_
                  refine x_ifN_ne (tgt := 108) dX5_isContent_100 (by decide) (by omega) (fun h85 => ?_) (fun h85 => ?_)
                  · exact absurd h85 (by decide)
                  · refine x_iload dX5_isContent_103 rfl ?_
                    refine x_ifN_eq (tgt := 112) dX5_isContent_105 (by decide) (by omega) (fun h86 => ?_) (fun h86 => ?_)
                    · exact absurd h86 (by decide)
                    · refine x_iconst (v := nI 1) dX5_isContent_108 (by decide) ?_
                      refine x_goto (tgt := 113) dX5_isContent_109 (by decide) ?_
                      exact x_zret ⟨Nat.le_refl _, Nat.le_refl _⟩ rfl (by decide) dX5_isContent_113 ⟨by rw [contB_iff hc, bI_1 (by first | omega | (simp only [h61, Bool.false_eq_true, or_false, or_true, true_and, false_and, and_false] <;> omega))], rfl⟩
              · refine x_aload_n dX5_isContent_71 rfl ?_
                refine x_get (v := .int (bI r)) f_X5_45 e0 rfl dX5_isContent_72 ?_
                refine x_ifB_eq (tgt := 96) dX5_isContent_75 (by decide) (fun h87 => ?_) (fun h87 => ?_)
                · refine x_iconst (v := nI 0) dX5_isContent_96 (by decide) ?_
                  refine x_istore dX5_isContent_97 (by decide) rfl ?_
                  refine x_lv (lv' := [some (.ref 22), some (.int (nI s)), some (.int (nI w)), some (.int (nI 0)), some (.int (nI 0))]) rfl ?_
                  refine x_iload_n dX5_isContent_99 rfl ?_
                  refine x_ifN_ne (tgt := 108) dX5_isContent_100 (by decide) (by omega) (fun h88 => ?_) (fun h88 => ?_)
                  · exact absurd h88 (by decide)
                  · refine x_iload dX5_isContent_103 rfl ?_
                    refine x_ifN_eq (tgt := 112) dX5_isContent_105 (by decide) (by omega) (fun h89 => ?_) (fun h89 => ?_)
                    · refine x_iconst (v := nI 0) dX5_isContent_112 (by decide) ?_
                      exact x_zret ⟨Nat.le_refl _, Nat.le_refl _⟩ rfl (by decide) dX5_isContent_113 ⟨by rw [contB_iff hc, bI_0 (by first | omega | (simp only [h61, h87, Bool.false_eq_true, or_false, or_true, true_and, false_and, and_false] <;> omega) | exact absurd (h61.symm.trans h87) (by decide))], rfl⟩
                    · exact absurd h89 (by decide)
                · refine x_aload_n dX5_isContent_78 rfl ?_
                  refine x_get (v := .ref 23) f_X5_9 e0 rfl dX5_isContent_79 ?_
                  refine x_aload_n dX5_isContent_82 rfl ?_
                  refine x_iload_n dX5_isContent_83 rfl ?_
                  refine x_callV m_X5_seatBehind l_X5_61 (c_seatBehind h hm ht hw (by omega)) rfl e0 (by omega) rfl rfl (Nat.le_of_ble_eq_true rfl) ⟨Nat.le_refl _, Nat.le_refl _⟩ dX5_isContent_84 (fun r90 s90 q90 => ?_)
                  obtain ⟨rfl, eq90⟩ := q90
                  obtain rfl := eq90.symm
                  refine x_stk (st' := [.int (nI ((nxS m s))), .ref 23]) rfl ?_
                  have hnx : nxS m s < 7 := by unfold nxS; split <;> omega
                  refine x_iald (n := (nxS m s)) e1 rfl (by rw [l1]; omega) dX5_isContent_87 ?_
                  refine x_topi (y := nI ((t.getD ((nxS m s)) 0))) gm_getD ?_
                  have hts3 := htb (nxS m s)
                  refine x_iload_n dX5_isContent_88 rfl ?_
                  refine x_icmpN_ne (tgt := 96) dX5_isContent_89 (by decide) (by omega) (by omega) (fun h91 => ?_) (fun h91 => ?_)
                  · refine x_iconst (v := nI 0) dX5_isContent_96 (by decide) ?_
                    refine x_istore dX5_isContent_97 (by decide) rfl ?_
                    refine x_lv (lv' := [some (.ref 22), some (.int (nI s)), some (.int (nI w)), some (.int (nI 0)), some (.int (nI 0))]) rfl ?_
                    refine x_iload_n dX5_isContent_99 rfl ?_
                    refine x_ifN_ne (tgt := 108) dX5_isContent_100 (by decide) (by omega) (fun h92 => ?_) (fun h92 => ?_)
                    · exact absurd h92 (by decide)
                    · refine x_iload dX5_isContent_103 rfl ?_
                      refine x_ifN_eq (tgt := 112) dX5_isContent_105 (by decide) (by omega) (fun h93 => ?_) (fun h93 => ?_)
                      · refine x_iconst (v := nI 0) dX5_isContent_112 (by decide) ?_
                        exact x_zret ⟨Nat.le_refl _, Nat.le_refl _⟩ rfl (by decide) dX5_isContent_113 ⟨by rw [contB_iff hc, bI_0 (by first | omega | (simp only [h61, h87, Bool.false_eq_true, or_false, or_true, true_and, false_and, and_false] <;> omega) | exact absurd (h61.symm.trans h87) (by decide))], rfl⟩
                      · exact absurd h93 (by decide)
                  · refine x_iconst (v := nI 1) dX5_isContent_92 (by decide) ?_
                    refine x_goto (tgt := 97) dX5_isContent_93 (by decide) ?_
                    refine x_istore dX5_isContent_97 (by decide) rfl ?_
                    refine x_lv (lv' := [some (.ref 22), some (.int (nI s)), some (.int (nI w)), some (.int (nI 0)), some (.int (nI 1))]) rfl ?_
                    refine x_iload_n dX5_isContent_99 rfl ?_
                    refine x_ifN_ne (tgt := 108) dX5_isContent_100 (by decide) (by omega) (fun h94 => ?_) (fun h94 => ?_)
                    · exact absurd h94 (by decide)
                    · refine x_iload dX5_isContent_103 rfl ?_
                      refine x_ifN_eq (tgt := 112) dX5_isContent_105 (by decide) (by omega) (fun h95 => ?_) (fun h95 => ?_)
                      · exact absurd h95 (by decide)
                      · refine x_iconst (v := nI 1) dX5_isContent_108 (by decide) ?_
                        refine x_goto (tgt := 113) dX5_isContent_109 (by decide) ?_
                        exact x_zret ⟨Nat.le_refl _, Nat.le_refl _⟩ rfl (by decide) dX5_isContent_113 ⟨by rw [contB_iff hc, bI_1 (by first | omega | (simp only [h61, h87, Bool.false_eq_true, or_false, or_true, true_and, false_and, and_false] <;> omega) | exact absurd (h61.symm.trans h87) (by decide))], rfl⟩
            · refine x_iconst (v := nI 1) dX5_isContent_55 (by decide) ?_
              refine x_goto (tgt := 60) dX5_isContent_56 (by decide) ?_
              refine x_istore_n dX5_isContent_60 (by decide) rfl ?_
              refine x_lv (lv' := [some (.ref 22), some (.int (nI s)), some (.int (nI w)), some (.int (nI 1)), none]) rfl ?_
              refine x_iload_n dX5_isContent_61 rfl ?_
              refine x_iconst (v := nI 1) dX5_isContent_62 (by decide) ?_
              refine x_iaddN dX5_isContent_63 ?_
              refine x_aload_n dX5_isContent_64 rfl ?_
              refine x_get (v := .int (nI m)) f_X5_37 e0 rfl dX5_isContent_65 ?_
              refine x_icmpN_lt (tgt := 78) dX5_isContent_68 (by decide) (by omega) (by omega) (fun h96 => ?_) (fun h96 => ?_)
              · refine x_aload_n dX5_isContent_78 rfl ?_
                refine x_get (v := .ref 23) f_X5_9 e0 rfl dX5_isContent_79 ?_
                refine x_aload_n dX5_isContent_82 rfl ?_
                refine x_iload_n dX5_isContent_83 rfl ?_
                refine x_callV m_X5_seatBehind l_X5_61 (c_seatBehind h hm ht hw (by omega)) rfl e0 (by omega) rfl rfl (Nat.le_of_ble_eq_true rfl) ⟨Nat.le_refl _, Nat.le_refl _⟩ dX5_isContent_84 (fun r97 s97 q97 => ?_)
                obtain ⟨rfl, eq97⟩ := q97
                obtain rfl := eq97.symm
                refine x_stk (st' := [.int (nI ((nxS m s))), .ref 23]) rfl ?_
                have hnx : nxS m s < 7 := by unfold nxS; split <;> omega
                refine x_iald (n := (nxS m s)) e1 rfl (by rw [l1]; omega) dX5_isContent_87 ?_
                refine x_topi (y := nI ((t.getD ((nxS m s)) 0))) gm_getD ?_
                have hts3 := htb (nxS m s)
                refine x_iload_n dX5_isContent_88 rfl ?_
                refine x_icmpN_ne (tgt := 96) dX5_isContent_89 (by decide) (by omega) (by omega) (fun h98 => ?_) (fun h98 => ?_)
                · refine x_iconst (v := nI 0) dX5_isContent_96 (by decide) ?_
                  refine x_istore dX5_isContent_97 (by decide) rfl ?_
                  refine x_lv (lv' := [some (.ref 22), some (.int (nI s)), some (.int (nI w)), some (.int (nI 1)), some (.int (nI 0))]) rfl ?_
                  refine x_iload_n dX5_isContent_99 rfl ?_
                  refine x_ifN_ne (tgt := 108) dX5_isContent_100 (by decide) (by omega) (fun h99 => ?_) (fun h99 => ?_)
                  · refine x_iconst (v := nI 1) dX5_isContent_108 (by decide) ?_
                    refine x_goto (tgt := 113) dX5_isContent_109 (by decide) ?_
                    exact x_zret ⟨Nat.le_refl _, Nat.le_refl _⟩ rfl (by decide) dX5_isContent_113 ⟨by rw [contB_iff hc, bI_1 (by first | omega | (simp only [h61, Bool.false_eq_true, or_false, or_true, true_and, false_and, and_false] <;> omega))], rfl⟩
                  · exact absurd h99 (by decide)
                · refine x_iconst (v := nI 1) dX5_isContent_92 (by decide) ?_
                  refine x_goto (tgt := 97) dX5_isContent_93 (by decide) ?_
                  refine x_istore dX5_isContent_97 (by decide) rfl ?_
                  refine x_lv (lv' := [some (.ref 22), some (.int (nI s)), some (.int (nI w)), some (.int (nI 1)), some (.int (nI 1))]) rfl ?_
                  refine x_iload_n dX5_isContent_99 rfl ?_
                  refine x_ifN_ne (tgt := 108) dX5_isContent_100 (by decide) (by omega) (fun h100 => ?_) (fun h100 => ?_)
                  · refine x_iconst (v := nI 1) dX5_isContent_108 (by decide) ?_
                    refine x_goto (tgt := 113) dX5_isContent_109 (by decide) ?_
                    exact x_zret ⟨Nat.le_refl _, Nat.le_refl _⟩ rfl (by decide) dX5_isContent_113 ⟨by rw [contB_iff hc, bI_1 (by first | omega | (simp only [h61, Bool.false_eq_true, or_false, or_true, true_and, false_and, and_false] <;> omega))], rfl⟩
                  · exact absurd h100 (by decide)
              · refine x_aload_n dX5_isContent_71 rfl ?_
                refine x_get (v := .int (bI r)) f_X5_45 e0 rfl dX5_isContent_72 ?_
                refine x_ifB_eq (tgt := 96) dX5_isContent_75 (by decide) (fun h101 => ?_) (fun h101 => ?_)
                · refine x_iconst (v := nI 0) dX5_isContent_96 (by decide) ?_
                  refine x_istore dX5_isContent_97 (by decide) rfl ?_
                  refine x_lv (lv' := [some (.ref 22), some (.int (nI s)), some (.int (nI w)), some (.int (nI 1)), some (.int (nI 0))]) rfl ?_
                  refine x_iload_n dX5_isContent_99 rfl ?_
                  refine x_ifN_ne (tgt := 108) dX5_isContent_100 (by decide) (by omega) (fun h102 => ?_) (fun h102 => ?_)
                  · refine x_iconst (v := nI 1) dX5_isContent_108 (by decide) ?_
                    refine x_goto (tgt := 113) dX5_isContent_109 (by decide) ?_
                    exact x_zret ⟨Nat.le_refl _, Nat.le_refl _⟩ rfl (by decide) dX5_isContent_113 ⟨by rw [contB_iff hc, bI_1 (by first | omega | (simp only [h61, h101, Bool.false_eq_true, or_false, or_true, true_and, false_and, and_false] <;> omega) | exact absurd (h61.symm.trans h101) (by decide))], rfl⟩
                  · exact absurd h102 (by decide)
                · refine x_aload_n dX5_isContent_78 rfl ?_
                  refine x_get (v := .ref 23) f_X5_9 e0 rfl dX5_isContent_79 ?_
                  refine x_aload_n dX5_isContent_82 rfl ?_
                  refine x_iload_n dX5_isContent_83 rfl ?_
                  refine x_callV m_X5_seatBehind l_X5_61 (c_seatBehind h hm ht hw (by omega)) rfl e0 (by omega) rfl rfl (Nat.le_of_ble_eq_true rfl) ⟨Nat.le_refl _, Nat.le_refl _⟩ dX5_isContent_84 (fun r103 s103 q103 => ?_)
                  obtain ⟨rfl, eq103⟩ := q103
                  obtain rfl := eq103.symm
                  refine x_stk (st' := [.int (nI ((nxS m s))), .ref 23]) rfl ?_
                  have hnx : nxS m s < 7 := by unfold nxS; split <;> omega
                  refine x_iald (n := (nxS m s)) e1 rfl (by rw [l1]; omega) dX5_isContent_87 ?_
                  refine x_topi (y := nI ((t.getD ((nxS m s)) 0))) gm_getD ?_
                  have hts3 := htb (nxS m s)
                  refine x_iload_n dX5_isContent_88 rfl ?_
                  refine x_icmpN_ne (tgt := 96) dX5_isContent_89 (by decide) (by omega) (by omega) (fun h104 => ?_) (fun h104 => ?_)
                  · refine x_iconst (v := nI 0) dX5_isContent_96 (by decide) ?_
                    refine x_istore dX5_isContent_97 (by decide) rfl ?_
                    refine x_lv (lv' := [some (.ref 22), some (.int (nI s)), some (.int (nI w)), some (.int (nI 1)), some (.int (nI 0))]) rfl ?_
                    refine x_iload_n dX5_isContent_99 rfl ?_
                    refine x_ifN_ne (tgt := 108) dX5_isContent_100 (by decide) (by omega) (fun h105 => ?_) (fun h105 => ?_)
                    · refine x_iconst (v := nI 1) dX5_isContent_108 (by decide) ?_
                      refine x_goto (tgt := 113) dX5_isContent_109 (by decide) ?_
                      exact x_zret ⟨Nat.le_refl _, Nat.le_refl _⟩ rfl (by decide) dX5_isContent_113 ⟨by rw [contB_iff hc, bI_1 (by first | omega | (simp only [h61, h101, Bool.false_eq_true, or_false, or_true, true_and, false_and, and_false] <;> omega) | exact absurd (h61.symm.trans h101) (by decide))], rfl⟩
                    · exact absurd h105 (by decide)
                  · refine x_iconst (v := nI 1) dX5_isContent_92 (by decide) ?_
                    refine x_goto (tgt := 97) dX5_isContent_93 (by decide) ?_
                    refine x_istore dX5_isContent_97 (by decide) rfl ?_
                    refine x_lv (lv' := [some (.ref 22), some (.int (nI s)), some (.int (nI w)), some (.int (nI 1)), some (.int (nI 1))]) rfl ?_
                    refine x_iload_n dX5_isContent_99 rfl ?_
                    refine x_ifN_ne (tgt := 108) dX5_isContent_100 (by decide) (by omega) (fun h106 => ?_) (fun h106 => ?_)
                    · refine x_iconst (v := nI 1) dX5_isContent_108 (by decide) ?_
                      refine x_goto (tgt := 113) dX5_isContent_109 (by decide) ?_
                      exact x_zret ⟨Nat.le_refl _, Nat.le_refl _⟩ rfl (by decide) dX5_isContent_113 ⟨by rw [contB_iff hc, bI_1 (by first | omega | (simp only [h61, h101, Bool.false_eq_true, or_false, or_true, true_and, false_and, and_false] <;> omega) | exact absurd (h61.symm.trans h101) (by decide))], rfl⟩
                    · exact absurd h106 (by decide)
          · refine x_iload_n dX5_isContent_38 rfl ?_
            refine x_iconst (v := nI 1) dX5_isContent_39 (by decide) ?_
            refine x_isubN (by omega) dX5_isContent_40 ?_
            refine x_goto (tgt := 50) dX5_isContent_41 (by decide) ?_
            refine x_topi (y := nI (pvS m s)) (by rw [pvS, if_pos (by omega)]) ?_
            have hpv : pvS m s < 7 := by unfold pvS; split <;> omega
            have hts1 := htb (pvS m s)
            refine x_iald (n := (pvS m s)) e1 rfl (by rw [l1]; omega) dX5_isContent_50 ?_
            refine x_topi (y := nI ((t.getD ((pvS m s)) 0))) gm_getD ?_
            refine x_iload_n dX5_isContent_51 rfl ?_
            refine x_icmpN_ne (tgt := 59) dX5_isContent_52 (by decide) (by omega) (by omega) (fun h107 => ?_) (fun h107 => ?_)
            · refine x_iconst (v := nI 0) dX5_isContent_59 (by decide) ?_
              refine x_istore_n dX5_isContent_60 (by decide) rfl ?_
              refine x_lv (lv' := [some (.ref 22), some (.int (nI s)), some (.int (nI w)), some (.int (nI 0)), none]) rfl ?_
              refine x_iload_n dX5_isContent_61 rfl ?_
              refine x_iconst (v := nI 1) dX5_isContent_62 (by decide) ?_
              refine x_iaddN dX5_isContent_63 ?_
              refine x_aload_n dX5_isContent_64 rfl ?_
              refine x_get (v := .int (nI m)) f_X5_37 e0 rfl dX5_isContent_65 ?_
              refine x_icmpN_lt (tgt := 78) dX5_isContent_68 (by decide) (by omega) (by omega) (fun h108 => ?_) (fun h108 => ?_)
              · refine x_aload_n dX5_isContent_78 rfl ?_
                refine x_get (v := .ref 23) f_X5_9 e0 rfl dX5_isContent_79 ?_
                refine x_aload_n dX5_isContent_82 rfl ?_
                refine x_iload_n dX5_isContent_83 rfl ?_
                refine x_callV m_X5_seatBehind l_X5_61 (c_seatBehind h hm ht hw (by omega)) rfl e0 (by omega) rfl rfl (Nat.le_of_ble_eq_true rfl) ⟨Nat.le_refl _, Nat.le_refl _⟩ dX5_isContent_84 (fun r109 s109 q109 => ?_)
                obtain ⟨rfl, eq109⟩ := q109
                obtain rfl := eq109.symm
                refine x_stk (st' := [.int (nI ((nxS m s))), .ref 23]) rfl ?_
                have hnx : nxS m s < 7 := by unfold nxS; split <;> omega
                refine x_iald (n := (nxS m s)) e1 rfl (by rw [l1]; omega) dX5_isContent_87 ?_
                refine x_topi (y := nI ((t.getD ((nxS m s)) 0))) gm_getD ?_
                have hts3 := htb (nxS m s)
                refine x_iload_n dX5_isContent_88 rfl ?_
                refine x_icmpN_ne (tgt := 96) dX5_isContent_89 (by decide) (by omega) (by omega) (fun h110 => ?_) (fun h110 => ?_)
                · refine x_iconst (v := nI 0) dX5_isContent_96 (by decide) ?_
                  refine x_istore dX5_isContent_97 (by decide) rfl ?_
                  refine x_lv (lv' := [some (.ref 22), some (.int (nI s)), some (.int (nI w)), some (.int (nI 0)), some (.int (nI 0))]) rfl ?_
                  refine x_iload_n dX5_isContent_99 rfl ?_
                  refine x_ifN_ne (tgt := 108) dX5_isContent_100 (by decide) (by omega) (fun h111 => ?_) (fun h111 => ?_)
                  · exact absurd h111 (by decide)
                  · refine x_iload dX5_isContent_103 rfl ?_
                    refine x_ifN_eq (tgt := 112) dX5_isContent_105 (by decide) (by omega) (fun h112 => ?_) (fun h112 => ?_)
                    · refine x_iconst (v := nI 0) dX5_isContent_112 (by decide) ?_
                      exact x_zret ⟨Nat.le_refl _, Nat.le_refl _⟩ rfl (by decide) dX5_isContent_113 ⟨by rw [contB_iff hc, bI_0 (by first | omega | (simp only [h61, Bool.false_eq_true, or_false, or_true, true_and, false_and, and_false] <;> omega))], rfl⟩
                    · exact absurd h112 (by decide)
                · refine x_iconst (v := nI 1) dX5_isContent_92 (by decide) ?_
                  refine x_goto (tgt := 97) dX5_isContent_93 (by decide) ?_
                  refine x_istore dX5_isContent_97 (by decide) rfl ?_
                  refine x_lv (lv' := [some (.ref 22), some (.int (nI s)), some (.int (nI w)), some (.int (nI 0)), some (.int (nI 1))]) rfl ?_
                  refine x_iload_n dX5_isContent_99 rfl ?_
                  refine x_ifN_ne (tgt := 108) dX5_isContent_100 (by decide) (by omega) (fun h113 => ?_) (fun h113 => ?_)
                  · exact absurd h113 (by decide)
                  · refine x_iload dX5_isContent_103 rfl ?_
                    refine x_ifN_eq (tgt := 112) dX5_isContent_105 (by decide) (by omega) (fun h114 => ?_) (fun h114 => ?_)
                    · exact absurd h114 (by decide)
                    · refine x_iconst (v := nI 1) dX5_isContent_108 (by decide) ?_
                      refine x_goto (tgt := 113) dX5_isContent_109 (by decide) ?_
                      exact x_zret ⟨Nat.le_refl _, Nat.le_refl _⟩ rfl (by decide) dX5_isContent_113 ⟨by rw [contB_iff hc, bI_1 (by first | omega | (simp only [h61, Bool.false_eq_true, or_false, or_true, true_and, false_and, and_false] <;> omega))], rfl⟩
              · refine x_aload_n dX5_isContent_71 rfl ?_
                refine x_get (v := .int (bI r)) f_X5_45 e0 rfl dX5_isContent_72 ?_
                refine x_ifB_eq (tgt := 96) dX5_isContent_75 (by decide) (fun h115 => ?_) (fun h115 => ?_)
                · refine x_iconst (v := nI 0) dX5_isContent_96 (by decide) ?_
                  refine x_istore dX5_isContent_97 (by decide) rfl ?_
                  refine x_lv (lv' := [some (.ref 22), some (.int (nI s)), some (.int (nI w)), some (.int (nI 0)), some (.int (nI 0))]) rfl ?_
                  refine x_iload_n dX5_isContent_99 rfl ?_
                  refine x_ifN_ne (tgt := 108) dX5_isContent_100 (by decide) (by omega) (fun h116 => ?_) (fun h116 => ?_)
                  · exact absurd h116 (by decide)
                  · refine x_iload dX5_isContent_103 rfl ?_
                    refine x_ifN_eq (tgt := 112) dX5_isContent_105 (by decide) (by omega) (fun h117 => ?_) (fun h117 => ?_)
                    · refine x_iconst (v := nI 0) dX5_isContent_112 (by decide) ?_
                      exact x_zret ⟨Nat.le_refl _, Nat.le_refl _⟩ rfl (by decide) dX5_isContent_113 ⟨by rw [contB_iff hc, bI_0 (by first | omega | (simp only [h61, h115, Bool.false_eq_true, or_false, or_true, true_and, false_and, and_false] <;> omega) | exact absurd (h61.symm.trans h115) (by decide))], rfl⟩
                    · exact absurd h117 (by decide)
                · refine x_aload_n dX5_isContent_78 rfl ?_
                  refine x_get (v := .ref 23) f_X5_9 e0 rfl dX5_isContent_79 ?_
                  refine x_aload_n dX5_isContent_82 rfl ?_
                  refine x_iload_n dX5_isContent_83 rfl ?_
                  refine x_callV m_X5_seatBehind l_X5_61 (c_seatBehind h hm ht hw (by omega)) rfl e0 (by omega) rfl rfl (Nat.le_of_ble_eq_true rfl) ⟨Nat.le_refl _, Nat.le_refl _⟩ dX5_isContent_84 (fun r118 s118 q118 => ?_)
                  obtain ⟨rfl, eq118⟩ := q118
                  obtain rfl := eq118.symm
                  refine x_stk (st' := [.int (nI ((nxS m s))), .ref 23]) rfl ?_
                  have hnx : nxS m s < 7 := by unfold nxS; split <;> omega
                  refine x_iald (n := (nxS m s)) e1 rfl (by rw [l1]; omega) dX5_isContent_87 ?_
                  refine x_topi (y := nI ((t.getD ((nxS m s)) 0))) gm_getD ?_
                  have hts3 := htb (nxS m s)
                  refine x_iload_n dX5_isContent_88 rfl ?_
                  refine x_icmpN_ne (tgt := 96) dX5_isContent_89 (by decide) (by omega) (by omega) (fun h119 => ?_) (fun h119 => ?_)
                  · refine x_iconst (v := nI 0) dX5_isContent_96 (by decide) ?_
                    refine x_istore dX5_isContent_97 (by decide) rfl ?_
                    refine x_lv (lv' := [some (.ref 22), some (.int (nI s)), some (.int (nI w)), some (.int (nI 0)), some (.int (nI 0))]) rfl ?_
                    refine x_iload_n dX5_isContent_99 rfl ?_
                    refine x_ifN_ne (tgt := 108) dX5_isContent_100 (by decide) (by omega) (fun h120 => ?_) (fun h120 => ?_)
                    · exact absurd h120 (by decide)
                    · refine x_iload dX5_isContent_103 rfl ?_
                      refine x_ifN_eq (tgt := 112) dX5_isContent_105 (by decide) (by omega) (fun h121 => ?_) (fun h121 => ?_)
                      · refine x_iconst (v := nI 0) dX5_isContent_112 (by decide) ?_
                        exact x_zret ⟨Nat.le_refl _, Nat.le_refl _⟩ rfl (by decide) dX5_isContent_113 ⟨by rw [contB_iff hc, bI_0 (by first | omega | (simp only [h61, h115, Bool.false_eq_true, or_false, or_true, true_and, false_and, and_false] <;> omega) | exact absurd (h61.symm.trans h115) (by decide))], rfl⟩
                      · exact absurd h121 (by decide)
                  · refine x_iconst (v := nI 1) dX5_isContent_92 (by decide) ?_
                    refine x_goto (tgt := 97) dX5_isContent_93 (by decide) ?_
                    refine x_istore dX5_isContent_97 (by decide) rfl ?_
                    refine x_lv (lv' := [some (.ref 22), some (.int (nI s)), some (.int (nI w)), some (.int (nI 0)), some (.int (nI 1))]) rfl ?_
                    refine x_iload_n dX5_isContent_99 rfl ?_
                    refine x_ifN_ne (tgt := 108) dX5_isContent_100 (by decide) (by omega) (fun h122 => ?_) (fun h122 => ?_)
                    · exact absurd h122 (by decide)
                    · refine x_iload dX5_isContent_103 rfl ?_
                      refine x_ifN_eq (tgt := 112) dX5_isContent_105 (by decide) (by omega) (fun h123 => ?_) (fun h123 => ?_)
                      · exact absurd h123 (by decide)
                      · refine x_iconst (v := nI 1) dX5_isContent_108 (by decide) ?_
                        refine x_goto (tgt := 113) dX5_isContent_109 (by decide) ?_
                        exact x_zret ⟨Nat.le_refl _, Nat.le_refl _⟩ rfl (by decide) dX5_isContent_113 ⟨by rw [contB_iff hc, bI_1 (by first | omega | (simp only [h61, h115, Bool.false_eq_true, or_false, or_true, true_and, false_and, and_false] <;> omega) | exact absurd (h61.symm.trans h115) (by decide))], rfl⟩
            · refine x_iconst (v := nI 1) dX5_isContent_55 (by decide) ?_
              refine x_goto (tgt := 60) dX5_isContent_56 (by decide) ?_
              refine x_istore_n dX5_isContent_60 (by decide) rfl ?_
              refine x_lv (lv' := [some (.ref 22), some (.int (nI s)), some (.int (nI w)), some (.int (nI 1)), none]) rfl ?_
              refine x_iload_n dX5_isContent_61 rfl ?_
              refine x_iconst (v := nI 1) dX5_isContent_62 (by decide) ?_
              refine x_iaddN dX5_isContent_63 ?_
              refine x_aload_n dX5_isContent_64 rfl ?_
              refine x_get (v := .int (nI m)) f_X5_37 e0 rfl dX5_isContent_65 ?_
              refine x_icmpN_lt (tgt := 78) dX5_isContent_68 (by decide) (by omega) (by omega) (fun h124 => ?_) (fun h124 => ?_)
              · refine x_aload_n dX5_isContent_78 rfl ?_
                refine x_get (v := .ref 23) f_X5_9 e0 rfl dX5_isContent_79 ?_
                refine x_aload_n dX5_isContent_82 rfl ?_
                refine x_iload_n dX5_isContent_83 rfl ?_
                refine x_callV m_X5_seatBehind l_X5_61 (c_seatBehind h hm ht hw (by omega)) rfl e0 (by omega) rfl rfl (Nat.le_of_ble_eq_true rfl) ⟨Nat.le_refl _, Nat.le_refl _⟩ dX5_isContent_84 (fun r125 s125 q125 => ?_)
                obtain ⟨rfl, eq125⟩ := q125
                obtain rfl := eq125.symm
                refine x_stk (st' := [.int (nI ((nxS m s))), .ref 23]) rfl ?_
                have hnx : nxS m s < 7 := by unfold nxS; split <;> omega
                refine x_iald (n := (nxS m s)) e1 rfl (by rw [l1]; omega) dX5_isContent_87 ?_
                refine x_topi (y := nI ((t.getD ((nxS m s)) 0))) gm_getD ?_
                have hts3 := htb (nxS m s)
                refine x_iload_n dX5_isContent_88 rfl ?_
                refine x_icmpN_ne (tgt := 96) dX5_isContent_89 (by decide) (by omega) (by omega) (fun h126 => ?_) (fun h126 => ?_)
                · refine x_iconst (v := nI 0) dX5_isContent_96 (by decide) ?_
                  refine x_istore dX5_isContent_97 (by decide) rfl ?_
                  refine x_lv (lv' := [some (.ref 22), some (.int (nI s)), some (.int (nI w)), some (.int (nI 1)), some (.int (nI 0))]) rfl ?_
                  refine x_iload_n dX5_isContent_99 rfl ?_
                  refine x_ifN_ne (tgt := 108) dX5_isContent_100 (by decide) (by omega) (fun h127 => ?_) (fun h127 => ?_)
                  · refine x_iconst (v := nI 1) dX5_isContent_108 (by decide) ?_
                    refine x_goto (tgt := 113) dX5_isContent_109 (by decide) ?_
                    exact x_zret ⟨Nat.le_refl _, Nat.le_refl _⟩ rfl (by decide) dX5_isContent_113 ⟨by rw [contB_iff hc, bI_1 (by first | omega | (simp only [h61, Bool.false_eq_true, or_false, or_true, true_and, false_and, and_false] <;> omega))], rfl⟩
                  · exact absurd h127 (by decide)
                · refine x_iconst (v := nI 1) dX5_isContent_92 (by decide) ?_
                  refine x_goto (tgt := 97) dX5_isContent_93 (by decide) ?_
                  refine x_istore dX5_isContent_97 (by decide) rfl ?_
                  refine x_lv (lv' := [some (.ref 22), some (.int (nI s)), some (.int (nI w)), some (.int (nI 1)), some (.int (nI 1))]) rfl ?_
                  refine x_iload_n dX5_isContent_99 rfl ?_
                  refine x_ifN_ne (tgt := 108) dX5_isContent_100 (by decide) (by omega) (fun h128 => ?_) (fun h128 => ?_)
                  · refine x_iconst (v := nI 1) dX5_isContent_108 (by decide) ?_
                    refine x_goto (tgt := 113) dX5_isContent_109 (by decide) ?_
                    exact x_zret ⟨Nat.le_refl _, Nat.le_refl _⟩ rfl (by decide) dX5_isContent_113 ⟨by rw [contB_iff hc, bI_1 (by first | omega | (simp only [h61, Bool.false_eq_true, or_false, or_true, true_and, false_and, and_false] <;> omega))], rfl⟩
                  · exact absurd h128 (by decide)
              · refine x_aload_n dX5_isContent_71 rfl ?_
                refine x_get (v := .int (bI r)) f_X5_45 e0 rfl dX5_isContent_72 ?_
                refine x_ifB_eq (tgt := 96) dX5_isContent_75 (by decide) (fun h129 => ?_) (fun h129 => ?_)
                · refine x_iconst (v := nI 0) dX5_isContent_96 (by decide) ?_
                  refine x_istore dX5_isContent_97 (by decide) rfl ?_
                  refine x_lv (lv' := [some (.ref 22), some (.int (nI s)), some (.int (nI w)), some (.int (nI 1)), some (.int (nI 0))]) rfl ?_
                  refine x_iload_n dX5_isContent_99 rfl ?_
                  refine x_ifN_ne (tgt := 108) dX5_isContent_100 (by decide) (by omega) (fun h130 => ?_) (fun h130 => ?_)
                  · refine x_iconst (v := nI 1) dX5_isContent_108 (by decide) ?_
                    refine x_goto (tgt := 113) dX5_isContent_109 (by decide) ?_
                    exact x_zret ⟨Nat.le_refl _, Nat.le_refl _⟩ rfl (by decide) dX5_isContent_113 ⟨by rw [contB_iff hc, bI_1 (by first | omega | (simp only [h61, h129, Bool.false_eq_true, or_false, or_true, true_and, false_and, and_false] <;> omega) | exact absurd (h61.symm.trans h129) (by decide))], rfl⟩
                  · exact absurd h130 (by decide)
                · refine x_aload_n dX5_isContent_78 rfl ?_
                  refine x_get (v := .ref 23) f_X5_9 e0 rfl dX5_isContent_79 ?_
                  refine x_aload_n dX5_isContent_82 rfl ?_
                  refine x_iload_n dX5_isContent_83 rfl ?_
                  refine x_callV m_X5_seatBehind l_X5_61 (c_seatBehind h hm ht hw (by omega)) rfl e0 (by omega) rfl rfl (Nat.le_of_ble_eq_true rfl) ⟨Nat.le_refl _, Nat.le_refl _⟩ dX5_isContent_84 (fun r131 s131 q131 => ?_)
                  obtain ⟨rfl, eq131⟩ := q131
                  obtain rfl := eq131.symm
                  refine x_stk (st' := [.int (nI ((nxS m s))), .ref 23]) rfl ?_
                  have hnx : nxS m s < 7 := by unfold nxS; split <;> omega
                  refine x_iald (n := (nxS m s)) e1 rfl (by rw [l1]; omega) dX5_isContent_87 ?_
                  refine x_topi (y := nI ((t.getD ((nxS m s)) 0))) gm_getD ?_
                  have hts3 := htb (nxS m s)
                  refine x_iload_n dX5_isContent_88 rfl ?_
                  refine x_icmpN_ne (tgt := 96) dX5_isContent_89 (by decide) (by omega) (by omega) (fun h132 => ?_) (fun h132 => ?_)
                  · refine x_iconst (v := nI 0) dX5_isContent_96 (by decide) ?_
                    refine x_istore dX5_isContent_97 (by decide) rfl ?_
                    refine x_lv (lv' := [some (.ref 22), some (.int (nI s)), some (.int (nI w)), some (.int (nI 1)), some (.int (nI 0))]) rfl ?_
                    refine x_iload_n dX5_isContent_99 rfl ?_
                    refine x_ifN_ne (tgt := 108) dX5_isContent_100 (by decide) (by omega) (fun h133 => ?_) (fun h133 => ?_)
                    · refine x_iconst (v := nI 1) dX5_isContent_108 (by decide) ?_
                      refine x_goto (tgt := 113) dX5_isContent_109 (by decide) ?_
                      exact x_zret ⟨Nat.le_refl _, Nat.le_refl _⟩ rfl (by decide) dX5_isContent_113 ⟨by rw [contB_iff hc, bI_1 (by first | omega | (simp only [h61, h129, Bool.false_eq_true, or_false, or_true, true_and, false_and, and_false] <;> omega) | exact absurd (h61.symm.trans h129) (by decide))], rfl⟩
                    · exact absurd h133 (by decide)
                  · refine x_iconst (v := nI 1) dX5_isContent_92 (by decide) ?_
                    refine x_goto (tgt := 97) dX5_isContent_93 (by decide) ?_
                    refine x_istore dX5_isContent_97 (by decide) rfl ?_
                    refine x_lv (lv' := [some (.ref 22), some (.int (nI s)), some (.int (nI w)), some (.int (nI 1)), some (.int (nI 1))]) rfl ?_
                    refine x_iload_n dX5_isContent_99 rfl ?_
                    refine x_ifN_ne (tgt := 108) dX5_isContent_100 (by decide) (by omega) (fun h134 => ?_) (fun h134 => ?_)
                    · refine x_iconst (v := nI 1) dX5_isContent_108 (by decide) ?_
                      refine x_goto (tgt := 113) dX5_isContent_109 (by decide) ?_
                      exact x_zret ⟨Nat.le_refl _, Nat.le_refl _⟩ rfl (by decide) dX5_isContent_113 ⟨by rw [contB_iff hc, bI_1 (by first | omega | (simp only [h61, h129, Bool.false_eq_true, or_false, or_true, true_and, false_and, and_false] <;> omega) | exact absurd (h61.symm.trans h129) (by decide))], rfl⟩
                    · exact absurd h134 (by decide)
    · exact absurd h2 (by omega)
set_option maxHeartbeats 4000000 in
theorem l_fw {σ : ZS} {bw am jd fd en : Int32} {m : Nat} {r : Bool} {t : List Nat} {wl : List (Option Nat)} {B Wo Ho : List Int32} (h : Se σ bw am (nI m) (bI r) jd fd en (t.map nI) (wl.map oI) B Wo Ho) (hm : m ≤ 7) (ht : T7 t) (hw : W7 wl) {d : Nat} (hd : 2 ≤ d) : ∀ (q k : Nat), k + q = m → X M_X5_firstWronged d 0 0 (fun r9 σ' => r9 = some (.int (oI (ffrom (fun s => !contB r m t wl s) q k))) ∧ σ' = σ) 0 0 2 [some (.ref 22), some (.int (nI k))] [] σ := by
  obtain ⟨e0, e1, e2, e3, e4, e5, l1, l2, l3, l4, l5⟩ := id h
  obtain ⟨ht7, htb⟩ := id ht
  obtain ⟨hw7, hwb⟩ := id hw
  intro q
  induction q with
  | zero =>
    intro k hk
    refine x_iload_n dX5_firstWronged_2 rfl ?_
    refine x_aload_n dX5_firstWronged_3 rfl ?_
    refine x_get (v := .int (nI m)) f_X5_37 e0 rfl dX5_firstWronged_4 ?_
    refine x_icmpN_ge (tgt := 26) dX5_firstWronged_7 (by decide) (by omega) (by omega) (fun h1 => ?_) (fun h1 => ?_)
    · refine x_iconst (v := (-1)) dX5_firstWronged_26 (by decide) ?_
      exact x_iret ⟨Nat.le_refl _, Nat.le_refl _⟩ rfl dX5_firstWronged_27 ⟨rfl, rfl⟩
    · exact absurd h1 (by omega)
  | succ q ih =>
    intro k hk
    refine x_iload_n dX5_firstWronged_2 rfl ?_
    refine x_aload_n dX5_firstWronged_3 rfl ?_
    refine x_get (v := .int (nI m)) f_X5_37 e0 rfl dX5_firstWronged_4 ?_
    refine x_icmpN_ge (tgt := 26) dX5_firstWronged_7 (by decide) (by omega) (by omega) (fun h1 => ?_) (fun h1 => ?_)
    · exact absurd h1 (by omega)
    · refine x_aload_n dX5_firstWronged_10 rfl ?_
      refine x_iload_n dX5_firstWronged_11 rfl ?_
      refine x_callV m_X5_isContent l_X5_64 (c_isContent h hm ht hw (by omega)) rfl e0 (by omega) rfl rfl (Nat.le_of_ble_eq_true rfl) ⟨Nat.le_refl _, Nat.le_refl _⟩ dX5_firstWronged_12 (fun r2 s2 q2 => ?_)
      obtain ⟨rfl, eq2⟩ := q2
      obtain rfl := eq2.symm
      refine x_stk (st' := [.int (bI ((contB r m t wl k)))]) rfl ?_
      refine x_ifB_ne (tgt := 20) dX5_firstWronged_15 (by decide) (fun h3 => ?_) (fun h3 => ?_)
      · refine x_iincN dX5_firstWronged_20 rfl (by decide) rfl ?_
        refine x_lv (lv' := [some (.ref 22), some (.int (nI (k + 1)))]) rfl ?_
        refine x_goto (tgt := 2) dX5_firstWronged_23 (by decide) ?_
        have e := ih (k + 1) (by omega)
        rw [ffrom, if_neg (by rw [h3]; decide)]
        exact e
      · refine x_iload_n dX5_firstWronged_18 rfl ?_
        exact x_iret ⟨Nat.le_refl _, Nat.le_refl _⟩ rfl dX5_firstWronged_19 ⟨by rw [ffrom, if_pos (by rw [h3]; rfl)]; rfl, rfl⟩
set_option maxHeartbeats 4000000 in
theorem c_firstWronged {σ : ZS} {bw am jd fd en : Int32} {m : Nat} {r : Bool} {t : List Nat} {wl : List (Option Nat)} {B Wo Ho : List Int32} (h : Se σ bw am (nI m) (bI r) jd fd en (t.map nI) (wl.map oI) B Wo Ho) (hm : m ≤ 7) (ht : T7 t) (hw : W7 wl) : Cn 2 M_X5_firstWronged 0 0 [.ref 22] σ (fun r9 σ' => r9 = some (.int (oI (ffrom (fun s => !contB r m t wl s) m 0))) ∧ σ' = σ) := by
  obtain ⟨e0, e1, e2, e3, e4, e5, l1, l2, l3, l4, l5⟩ := id h
  obtain ⟨ht7, htb⟩ := id ht
  obtain ⟨hw7, hwb⟩ := id hw
  refine Cn.intro (lv0 := [some (.ref 22), none]) rfl (Nat.le_of_ble_eq_true rfl) rfl (fun d hd => ?_)
  refine x_iconst (v := nI 0) dX5_firstWronged_0 (by decide) ?_
  refine x_istore_n dX5_firstWronged_1 (by decide) rfl ?_
  refine x_lv (lv' := [some (.ref 22), some (.int (nI 0))]) rfl ?_
  exact l_fw h hm ht hw hd m 0 (by omega)
def bearB (r : Bool) (m : Nat) (t : List Nat) (wl : List (Option Nat)) (s : Nat) : Bool := if s = 0 ∨ (s = 1 ∧ r = true) then true else contB r m t wl (s - 1)
set_option maxHeartbeats 4000000 in
theorem c_isBearable {σ : ZS} {bw am jd fd en : Int32} {m : Nat} {r : Bool} {t : List Nat} {wl : List (Option Nat)} {B Wo Ho : List Int32} (h : Se σ bw am (nI m) (bI r) jd fd en (t.map nI) (wl.map oI) B Wo Ho) (hm : m ≤ 7) (ht : T7 t) (hw : W7 wl) {s : Nat} (hs : s ≤ m) : Cn 2 M_X5_isBearable 0 0 [.ref 22, .int (nI s)] σ (fun r9 σ' => r9 = some (.int (bI (bearB r m t wl s))) ∧ σ' = σ) := by
  obtain ⟨e0, e1, e2, e3, e4, e5, l1, l2, l3, l4, l5⟩ := id h
  obtain ⟨ht7, htb⟩ := id ht
  obtain ⟨hw7, hwb⟩ := id hw
  refine Cn.intro (lv0 := [some (.ref 22), some (.int (nI s))]) rfl (Nat.le_of_ble_eq_true rfl) rfl (fun d hd => ?_)
  refine x_iload_n dX5_isBearable_0 rfl ?_
  refine x_ifN_eq (tgt := 16) dX5_isBearable_1 (by decide) (by omega) (fun h1 => ?_) (fun h1 => ?_)
  · refine x_iconst (v := nI 1) dX5_isBearable_16 (by decide) ?_
    exact x_zret ⟨Nat.le_refl _, Nat.le_refl _⟩ rfl (by decide) dX5_isBearable_17 ⟨by rw [bearB, if_pos (by omega)]; rfl, rfl⟩
  · refine x_iload_n dX5_isBearable_4 rfl ?_
    refine x_iconst (v := nI 1) dX5_isBearable_5 (by decide) ?_
    refine x_icmpN_ne (tgt := 18) dX5_isBearable_6 (by decide) (by omega) (by omega) (fun h2 => ?_) (fun h2 => ?_)
    · refine x_aload_n dX5_isBearable_18 rfl ?_
      refine x_iload_n dX5_isBearable_19 rfl ?_
      refine x_iconst (v := nI 1) dX5_isBearable_20 (by decide) ?_
      refine x_isubN (by omega) dX5_isBearable_21 ?_
      refine x_callV m_X5_isContent l_X5_64 (c_isContent h hm ht hw (by omega)) rfl e0 (by omega) rfl rfl (Nat.le_of_ble_eq_true rfl) ⟨Nat.le_refl _, Nat.le_refl _⟩ dX5_isBearable_22 (fun r3 s3 q3 => ?_)
      obtain ⟨rfl, eq3⟩ := q3
      obtain rfl := eq3.symm
      refine x_stk (st' := [.int (bI ((contB r m t wl (s - 1))))]) rfl ?_
      exact x_zret ⟨Nat.le_refl _, Nat.le_refl _⟩ rfl (bI_nar _) dX5_isBearable_25 ⟨by rw [bearB, if_neg (by rintro (q | ⟨q1, q2⟩) <;> first | omega | (rw [absurd] at q2; cases q2))], rfl⟩
    · refine x_aload_n dX5_isBearable_9 rfl ?_
      refine x_get (v := .int (bI r)) f_X5_45 e0 rfl dX5_isBearable_10 ?_
      refine x_ifB_eq (tgt := 18) dX5_isBearable_13 (by decide) (fun h4 => ?_) (fun h4 => ?_)
      · refine x_aload_n dX5_isBearable_18 rfl ?_
        refine x_iload_n dX5_isBearable_19 rfl ?_
        refine x_iconst (v := nI 1) dX5_isBearable_20 (by decide) ?_
        refine x_isubN (by omega) dX5_isBearable_21 ?_
        refine x_callV m_X5_isContent l_X5_64 (c_isContent h hm ht hw (by omega)) rfl e0 (by omega) rfl rfl (Nat.le_of_ble_eq_true rfl) ⟨Nat.le_refl _, Nat.le_refl _⟩ dX5_isBearable_22 (fun r5 s5 q5 => ?_)
        obtain ⟨rfl, eq5⟩ := q5
        obtain rfl := eq5.symm
        refine x_stk (st' := [.int (bI ((contB r m t wl (s - 1))))]) rfl ?_
        exact x_zret ⟨Nat.le_refl _, Nat.le_refl _⟩ rfl (bI_nar _) dX5_isBearable_25 ⟨by rw [bearB, if_neg (by rintro (q | ⟨q1, q2⟩) <;> first | omega | (rw [h4] at q2; cases q2))], rfl⟩
      · refine x_iconst (v := nI 1) dX5_isBearable_16 (by decide) ?_
        exact x_zret ⟨Nat.le_refl _, Nat.le_refl _⟩ rfl (by decide) dX5_isBearable_17 ⟨by rw [bearB, if_pos (by exact Or.inr ⟨by omega, h4⟩)]; rfl, rfl⟩
set_option maxHeartbeats 4000000 in
theorem c_worthPlace {σ : ZS} {a b c : Nat} : Cn 0 M_X5_worthPlace 0 0 [.int (nI a), .int (nI b), .int (nI c)] σ (fun r9 σ' => r9 = some (.int (nI ((a * 7 + b) * 7 + c))) ∧ σ' = σ) := by
  refine Cn.intro (lv0 := [some (.int (nI a)), some (.int (nI b)), some (.int (nI c))]) rfl (Nat.le_of_ble_eq_true rfl) rfl (fun d hd => ?_)
  refine x_iload_n dX5_worthPlace_0 rfl ?_
  refine x_bipush (v := nI 7) dX5_worthPlace_1 (by decide) ?_
  refine x_imulN dX5_worthPlace_3 ?_
  refine x_iload_n dX5_worthPlace_4 rfl ?_
  refine x_iaddN dX5_worthPlace_5 ?_
  refine x_bipush (v := nI 7) dX5_worthPlace_6 (by decide) ?_
  refine x_imulN dX5_worthPlace_8 ?_
  refine x_iload_n dX5_worthPlace_9 rfl ?_
  refine x_iaddN dX5_worthPlace_10 ?_
  exact x_iret ⟨Nat.le_refl _, Nat.le_refl _⟩ rfl dX5_worthPlace_11 ⟨rfl, rfl⟩
def addI (j : Bool) (t : List Nat) (Wo : List Int32) (s : Nat) : Int32 := if j = true ∧ 0 < s then Wo.getD (((s - 1) * 7 + t.getD (s - 1) 0) * 7 + t.getD s 0) 0 else nI 0
set_option maxHeartbeats 4000000 in
theorem c_added {σ : ZS} {bw am fd en : Int32} {m : Nat} {r : Bool} {t : List Nat} {wl : List (Option Nat)} {B Wo Ho : List Int32} {j : Bool} (h : Se σ bw am (nI m) (bI r) (bI j) fd en (t.map nI) (wl.map oI) B Wo Ho) (hm : m ≤ 7) (ht : T7 t) (hw : W7 wl) {s : Nat} (hs : s < m) : Cn 1 M_X5_added 0 0 [.ref 22, .int (nI s)] σ (fun r9 σ' => r9 = some (.int (addI j t Wo s)) ∧ σ' = σ) := by
  obtain ⟨e0, e1, e2, e3, e4, e5, l1, l2, l3, l4, l5⟩ := id h
  obtain ⟨ht7, htb⟩ := id ht
  obtain ⟨hw7, hwb⟩ := id hw
  refine Cn.intro (lv0 := [some (.ref 22), some (.int (nI s))]) rfl (Nat.le_of_ble_eq_true rfl) rfl (fun d hd => ?_)
  refine x_aload_n dX5_added_0 rfl ?_
  refine x_get (v := .int (bI j)) f_X5_82 e0 rfl dX5_added_1 ?_
  refine x_ifB_eq (tgt := 39) dX5_added_4 (by decide) (fun h1 => ?_) (fun h1 => ?_)
  · refine x_iconst (v := nI 0) dX5_added_39 (by decide) ?_
    exact x_iret ⟨Nat.le_refl _, Nat.le_refl _⟩ rfl dX5_added_40 ⟨by rw [addI, if_neg (fun q : j = true ∧ 0 < s => absurd q.1 (by rw [h1]; decide))], rfl⟩
  · refine x_iload_n dX5_added_7 rfl ?_
    refine x_ifN_le (tgt := 39) dX5_added_8 (by decide) (by omega) (fun h2 => ?_) (fun h2 => ?_)
    · refine x_iconst (v := nI 0) dX5_added_39 (by decide) ?_
      exact x_iret ⟨Nat.le_refl _, Nat.le_refl _⟩ rfl dX5_added_40 ⟨by rw [addI, if_neg (fun q : j = true ∧ 0 < s => by omega)], rfl⟩
    · have hts := htb s
      have hts1 := htb (s - 1)
      refine x_aload_n dX5_added_11 rfl ?_
      refine x_get (v := .ref 26) f_X5_21 e0 rfl dX5_added_12 ?_
      refine x_iload_n dX5_added_15 rfl ?_
      refine x_iconst (v := nI 1) dX5_added_16 (by decide) ?_
      refine x_isubN (by omega) dX5_added_17 ?_
      refine x_aload_n dX5_added_18 rfl ?_
      refine x_get (v := .ref 23) f_X5_9 e0 rfl dX5_added_19 ?_
      refine x_iload_n dX5_added_22 rfl ?_
      refine x_iconst (v := nI 1) dX5_added_23 (by decide) ?_
      refine x_isubN (by omega) dX5_added_24 ?_
      refine x_iald (n := s - 1) e1 rfl (by rw [l1]; omega) dX5_added_25 ?_
      refine x_topi (y := nI ((t.getD (s - 1) 0))) gm_getD ?_
      refine x_aload_n dX5_added_26 rfl ?_
      refine x_get (v := .ref 23) f_X5_9 e0 rfl dX5_added_27 ?_
      refine x_iload_n dX5_added_30 rfl ?_
      refine x_iald (n := s) e1 rfl (by rw [l1]; omega) dX5_added_31 ?_
      refine x_topi (y := nI ((t.getD s 0))) gm_getD ?_
      refine x_callS m_X5_worthPlace l_X5_109 (c_worthPlace) (by omega) rfl rfl (Nat.le_of_ble_eq_true rfl) ⟨Nat.le_refl _, Nat.le_refl _⟩ dX5_added_32 (fun r3 s3 q3 => ?_)
      obtain ⟨rfl, eq3⟩ := q3
      obtain rfl := eq3.symm
      refine x_stk (st' := [.int (nI ((((s - 1) * 7 + ((t.getD (s - 1) 0))) * 7 + ((t.getD s 0))))), .ref 26]) rfl ?_
      refine x_iald (n := (((s - 1) * 7 + ((t.getD (s - 1) 0))) * 7 + ((t.getD s 0)))) e4 rfl (by rw [l4]; omega) dX5_added_35 ?_
      refine x_goto (tgt := 40) dX5_added_36 (by decide) ?_
      exact x_iret ⟨Nat.le_refl _, Nat.le_refl _⟩ rfl dX5_added_40 ⟨by rw [addI, if_pos ⟨h1, by omega⟩], rfl⟩
