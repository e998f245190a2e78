/-! the class's sheets -/
def CSH (σ : ZS) (sh : Nat → SH) : Prop := zg σ 31 = some (.inr (.inl (3, [some 32, some 34, some 36, some 38]))) ∧ ∀ i, i < 4 → zg σ (32 + 2 * i) = some (.inr (.inr (5, [.int (sh i).1, .int (nI (sh i).2.1), .ref (33 + 2 * i)]))) ∧ zg σ (33 + 2 * i) = some (.inl (0, (sh i).2.2))
theorem CSH.fr {σ σ' : ZS} {P : Nat → Prop} {sh : Nat → SH} (h : CSH σ sh) (hF : Fr P σ σ') (hP : ∀ i, 31 ≤ i → i ≤ 39 → ¬ P i) : CSH σ' sh := ⟨hF.at (hP _ (by omega) (by omega)) h.1, fun i hi => ⟨hF.at (hP _ (by omega) (by omega)) (h.2 i hi).1, hF.at (hP _ (by omega) (by omega)) (h.2 i hi).2⟩⟩
theorem CSH.put {σ σ' : ZS} {sh : Nat → SH} {i : Nat} {s : SH} (h : CSH σ sh) (hi : i < 4) (hF : Fr (fun j => j = 32 + 2 * i ∨ j = 33 + 2 * i) σ σ') (h1 : zg σ' (32 + 2 * i) = some (.inr (.inr (5, [.int s.1, .int (nI s.2.1), .ref (33 + 2 * i)])))) (h2 : zg σ' (33 + 2 * i) = some (.inl (0, s.2.2))) : CSH σ' (up sh i s) := by
  refine ⟨hF.at (by omega) h.1, fun j hj => ?_⟩
  by_cases e : j = i
  · subst e
    rw [up_eq]
    exact ⟨h1, h2⟩
  · rw [up_ne _ _ e]
    exact ⟨hF.at (by omega) (h.2 j hj).1, hF.at (by omega) (h.2 j hj).2⟩
theorem sh_aa {i : Nat} (hi : i < 4) : [some 32, some 34, some 36, some 38][i]? = some (some (32 + 2 * i)) := by
  rcases (show i = 0 ∨ i = 1 ∨ i = 2 ∨ i = 3 by omega) with rfl | rfl | rfl | rfl <;> rfl
set_option maxHeartbeats 4000000 in
theorem c_shBecome {σ : ZS} {r s sz : Nat} {so : Int32} {row : List Int32} (g0 : zg σ r = some (.inr (.inr (5, [.int so, .int (nI sz), .ref s])))) (g1 : zg σ s = some (.inl (0, row))) (hl : row.length = 40) (hz : sz ≤ 40) (hrs : r ≠ s) {so2 : Int32} {n : Nat} : Cn 1 M_X6_become 0 0 [.ref r, .int so2, .int (nI n)] σ (fun r9 σ' => r9 = none ∧ zg σ' r = some (.inr (.inr (5, [.int so2, .int (nI n), .ref s]))) ∧ zg σ' s = some (.inl (0, List.replicate 40 0)) ∧ Fr (fun i => i = r ∨ i = s) σ σ') := by
  refine Cn.intro (lv0 := [some (.ref r), some (.int so2), some (.int (nI n))]) rfl (Nat.le_of_ble_eq_true rfl) rfl (fun d hd => ?_)
  refine x_aload_n dX6_become_0 rfl ?_
  refine x_iload_n dX6_become_1 rfl ?_
  refine x_putK f_X6_9 g0 (Nat.le_of_ble_eq_true rfl) (fun c => ⟨rfl, rfl⟩) dX6_become_2 (fun sw1 gw1 Fw1 => ?_)
  refine x_aload_n dX6_become_5 rfl ?_
  refine x_iload_n dX6_become_6 rfl ?_
  refine x_putK f_X6_15 gw1 (Nat.le_of_ble_eq_true rfl) (fun c => ⟨rfl, rfl⟩) dX6_become_7 (fun sw2 gw2 Fw2 => ?_)
  refine x_aload_n dX6_become_10 rfl ?_
  refine x_get (v := .ref s) f_X6_18 gw2 rfl dX6_become_11 ?_
  refine x_iconst (v := nI 0) dX6_become_14 (by decide) ?_
  refine x_callS m_J7_fill_53178 l_X6_22 (c_fill (Fw2.at (by omega) (Fw1.at (by omega) g1)) (by omega)) (by omega) rfl rfl (Nat.le_of_ble_eq_true rfl) ⟨Nat.le_refl _, Nat.le_refl _⟩ dX6_become_15 (fun r3 s3 q3 => ?_)
  obtain ⟨rfl, z3, F3⟩ := q3
  refine x_stk (st' := []) rfl ?_
  exact x_vret ⟨Nat.le_refl _, Nat.le_refl _⟩ rfl dX6_become_18 ⟨rfl, (F3.at (by omega) gw2), hl ▸ z3, (((Fr.rf.tr (Fw1.mono (fun i hi => by omega))).tr (Fw2.mono (fun i hi => by omega))).tr (F3.mono (fun i hi => by omega)))⟩
set_option maxHeartbeats 4000000 in
theorem c_hasItem {σ : ZS} {r s sz : Nat} {so : Int32} {row : List Int32} (g0 : zg σ r = some (.inr (.inr (5, [.int so, .int (nI sz), .ref s])))) (g1 : zg σ s = some (.inl (0, row))) (hl : row.length = 40) (hz : sz ≤ 40) (hrs : r ≠ s) {x : Int32} {p : Int} (hx : x.toInt = p) : Cn 0 M_X6_hasItem 0 0 [.ref r, .int x] σ (fun r9 σ' => r9 = some (.int (bI (decide (0 ≤ p ∧ p < ((sz : Nat) : Int))))) ∧ σ' = σ) := by
  refine Cn.intro (lv0 := [some (.ref r), some (.int x)]) rfl (Nat.le_of_ble_eq_true rfl) rfl (fun d hd => ?_)
  refine x_iload_n dX6_hasItem_0 rfl ?_
  refine x_ifT_lt (p := p) (tgt := 16) hx dX6_hasItem_1 (by decide) (fun hv1 => ?_) (fun hv1 => ?_)
  · refine x_iconst (v := nI 0) dX6_hasItem_16 (by decide) ?_
    exact x_zret ⟨Nat.le_refl _, Nat.le_refl _⟩ rfl (by decide) dX6_hasItem_17 ⟨by rw [decide_eq_false (show ¬ (0 ≤ p ∧ p < ((sz : Nat) : Int)) by omega)]; rfl, rfl⟩
  · refine x_iload_n dX6_hasItem_4 rfl ?_
    refine x_aload_n dX6_hasItem_5 rfl ?_
    refine x_get (v := .int (nI sz)) f_X6_15 g0 rfl dX6_hasItem_6 ?_
    refine x_icmpT_ge (p := p) (q := ((sz : Nat) : Int)) (tgt := 16) hx (nI_toInt (by omega)) dX6_hasItem_9 (by decide) (fun hv2 => ?_) (fun hv2 => ?_)
    · refine x_iconst (v := nI 0) dX6_hasItem_16 (by decide) ?_
      exact x_zret ⟨Nat.le_refl _, Nat.le_refl _⟩ rfl (by decide) dX6_hasItem_17 ⟨by rw [decide_eq_false (show ¬ (0 ≤ p ∧ p < ((sz : Nat) : Int)) by omega)]; rfl, rfl⟩
    · refine x_iconst (v := nI 1) dX6_hasItem_12 (by decide) ?_
      refine x_goto (tgt := 17) dX6_hasItem_13 (by decide) ?_
      exact x_zret ⟨Nat.le_refl _, Nat.le_refl _⟩ rfl (by decide) dX6_hasItem_17 ⟨by rw [decide_eq_true (show 0 ≤ p ∧ p < ((sz : Nat) : Int) by omega)]; rfl, rfl⟩
theorem isub_toInt {x : Int32} {sz : Nat} {p : Int} (hx : x.toInt = p) (h0 : 0 ≤ p) (hz : sz ≤ 40) (h : p ≤ sz) : (nI sz - x).toInt = (sz : Int) - p := by
  rw [ni_of (x := x) (by omega), pk_sub (by omega), nI_toInt (by omega)]
  omega
set_option maxHeartbeats 4000000 in
theorem c_hasItems {σ : ZS} {r s sz : Nat} {so : Int32} {row : List Int32} (g0 : zg σ r = some (.inr (.inr (5, [.int so, .int (nI sz), .ref s])))) (g1 : zg σ s = some (.inl (0, row))) (hl : row.length = 40) (hz : sz ≤ 40) (hrs : r ≠ s) {x y : Int32} {p q : Int} (hx : x.toInt = p) (hy : y.toInt = q) : Cn 0 M_X6_hasItems 0 0 [.ref r, .int x, .int y] σ (fun r9 σ' => r9 = some (.int (bI (decide (0 ≤ p ∧ 0 ≤ q ∧ p + q ≤ ((sz : Nat) : Int))))) ∧ σ' = σ) := by
  refine Cn.intro (lv0 := [some (.ref r), some (.int x), some (.int y)]) rfl (Nat.le_of_ble_eq_true rfl) rfl (fun d hd => ?_)
  refine x_iload_n dX6_hasItems_0 rfl ?_
  refine x_ifT_lt (p := p) (tgt := 30) hx dX6_hasItems_1 (by decide) (fun hv1 => ?_) (fun hv1 => ?_)
  · refine x_iconst (v := nI 0) dX6_hasItems_30 (by decide) ?_
    exact x_zret ⟨Nat.le_refl _, Nat.le_refl _⟩ rfl (by decide) dX6_hasItems_31 ⟨by rw [decide_eq_false (show ¬ (0 ≤ p ∧ 0 ≤ q ∧ p + q ≤ ((sz : Nat) : Int)) by omega)]; rfl, rfl⟩
  · refine x_iload_n dX6_hasItems_4 rfl ?_
    refine x_ifT_lt (p := q) (tgt := 30) hy dX6_hasItems_5 (by decide) (fun hv2 => ?_) (fun hv2 => ?_)
    · refine x_iconst (v := nI 0) dX6_hasItems_30 (by decide) ?_
      exact x_zret ⟨Nat.le_refl _, Nat.le_refl _⟩ rfl (by decide) dX6_hasItems_31 ⟨by rw [decide_eq_false (show ¬ (0 ≤ p ∧ 0 ≤ q ∧ p + q ≤ ((sz : Nat) : Int)) by omega)]; rfl, rfl⟩
    · refine x_iload_n dX6_hasItems_8 rfl ?_
      refine x_aload_n dX6_hasItems_9 rfl ?_
      refine x_get (v := .int (nI sz)) f_X6_15 g0 rfl dX6_hasItems_10 ?_
      refine x_icmpT_gt (p := p) (q := ((sz : Nat) : Int)) (tgt := 30) hx (nI_toInt (by omega)) dX6_hasItems_13 (by decide) (fun hv3 => ?_) (fun hv3 => ?_)
      · refine x_iconst (v := nI 0) dX6_hasItems_30 (by decide) ?_
        exact x_zret ⟨Nat.le_refl _, Nat.le_refl _⟩ rfl (by decide) dX6_hasItems_31 ⟨by rw [decide_eq_false (show ¬ (0 ≤ p ∧ 0 ≤ q ∧ p + q ≤ ((sz : Nat) : Int)) by omega)]; rfl, rfl⟩
      · refine x_iload_n dX6_hasItems_16 rfl ?_
        refine x_aload_n dX6_hasItems_17 rfl ?_
        refine x_get (v := .int (nI sz)) f_X6_15 g0 rfl dX6_hasItems_18 ?_
        refine x_iload_n dX6_hasItems_21 rfl ?_
        refine x_isub dX6_hasItems_22 ?_
        refine x_topi (y := (nI sz - x)) rfl ?_
        refine x_icmpT_gt (p := q) (q := ((sz : Nat) : Int) - p) (tgt := 30) hy (isub_toInt hx (by omega) hz (by omega)) dX6_hasItems_23 (by decide) (fun hv4 => ?_) (fun hv4 => ?_)
        · refine x_iconst (v := nI 0) dX6_hasItems_30 (by decide) ?_
          exact x_zret ⟨Nat.le_refl _, Nat.le_refl _⟩ rfl (by decide) dX6_hasItems_31 ⟨by rw [decide_eq_false (show ¬ (0 ≤ p ∧ 0 ≤ q ∧ p + q ≤ ((sz : Nat) : Int)) by omega)]; rfl, rfl⟩
        · refine x_iconst (v := nI 1) dX6_hasItems_26 (by decide) ?_
          refine x_goto (tgt := 31) dX6_hasItems_27 (by decide) ?_
          exact x_zret ⟨Nat.le_refl _, Nat.le_refl _⟩ rfl (by decide) dX6_hasItems_31 ⟨by rw [decide_eq_true (show 0 ≤ p ∧ 0 ≤ q ∧ p + q ≤ ((sz : Nat) : Int) by omega)]; rfl, rfl⟩
set_option maxHeartbeats 4000000 in
theorem c_put {σ : ZS} {r s sz : Nat} {so : Int32} {row : List Int32} (g0 : zg σ r = some (.inr (.inr (5, [.int so, .int (nI sz), .ref s])))) (g1 : zg σ s = some (.inl (0, row))) (hl : row.length = 40) (hz : sz ≤ 40) (hrs : r ≠ s) {j : Nat} (hj : j < sz) {v : Int32} : Cn 0 M_X6_put 0 0 [.ref r, .int (nI j), .int v] σ (fun r9 σ' => r9 = none ∧ zg σ' s = some (.inl (0, row.set j (putV so v))) ∧ Fr (fun i => i = s) σ σ') := by
  refine Cn.intro (lv0 := [some (.ref r), some (.int (nI j)), some (.int v)]) rfl (Nat.le_of_ble_eq_true rfl) rfl (fun d hd => ?_)
  refine x_aload_n dX6_put_0 rfl ?_
  refine x_get (v := .ref s) f_X6_18 g0 rfl dX6_put_1 ?_
  refine x_iload_n dX6_put_4 rfl ?_
  refine x_aload_n dX6_put_5 rfl ?_
  refine x_get (v := .int so) f_X6_9 g0 rfl dX6_put_6 ?_
  refine x_ifT_ne (p := (so).toInt) (tgt := 17) rfl dX6_put_9 (by decide) (fun hv1 => ?_) (fun hv1 => ?_)
  · refine x_aload_n dX6_put_17 rfl ?_
    refine x_get (v := .int so) f_X6_9 g0 rfl dX6_put_18 ?_
    refine x_iconst (v := nI 1) dX6_put_21 (by decide) ?_
    refine x_icmpT_ne (p := (so).toInt) (q := ((1 : Nat) : Int)) (tgt := 30) rfl (nI_toInt (by omega)) dX6_put_22 (by decide) (fun hv2 => ?_) (fun hv2 => ?_)
    · refine x_iload_n dX6_put_30 rfl ?_
      refine x_topi (y := (putV so v)) (by rw [putV, if_neg hv1, if_neg (by omega)]) ?_
      refine x_iastK (n := j) g1 rfl (by simp only [List.length_set, *] <;> omega) dX6_put_31 (fun sw3 gw3 Fw3 => ?_)
      exact x_vret ⟨Nat.le_refl _, Nat.le_refl _⟩ rfl dX6_put_32 ⟨rfl, gw3, (Fr.rf.tr (Fw3.mono (fun i hi => by omega)))⟩
    · refine x_iload_n dX6_put_25 rfl ?_
      refine x_i2s dX6_put_26 ?_
      refine x_goto (tgt := 31) dX6_put_27 (by decide) ?_
      refine x_topi (y := (putV so v)) (by rw [putV, if_neg hv1, if_pos (by omega)]) ?_
      refine x_iastK (n := j) g1 rfl (by simp only [List.length_set, *] <;> omega) dX6_put_31 (fun sw4 gw4 Fw4 => ?_)
      exact x_vret ⟨Nat.le_refl _, Nat.le_refl _⟩ rfl dX6_put_32 ⟨rfl, gw4, (Fr.rf.tr (Fw4.mono (fun i hi => by omega)))⟩
  · refine x_iload_n dX6_put_12 rfl ?_
    refine x_i2b dX6_put_13 ?_
    refine x_goto (tgt := 31) dX6_put_14 (by decide) ?_
    refine x_topi (y := (putV so v)) (by rw [putV, if_pos hv1]) ?_
    refine x_iastK (n := j) g1 rfl (by simp only [List.length_set, *] <;> omega) dX6_put_31 (fun sw5 gw5 Fw5 => ?_)
    exact x_vret ⟨Nat.le_refl _, Nat.le_refl _⟩ rfl dX6_put_32 ⟨rfl, gw5, (Fr.rf.tr (Fw5.mono (fun i hi => by omega)))⟩
set_option maxHeartbeats 4000000 in
theorem c_sheet {σ : ZS} {tx ik : Int32} (k0 : zg σ 0 = some (.inr (.inr (6, [.ref 1, .ref 6, .ref 11, .ref 16, .ref 22, .ref 28, .ref 31, .int tx, .int ik])))) {sh : Nat → SH} (hS : CSH σ sh) (hG : SHG sh) {i : Nat} (hi4 : i < 4) {so : Int32} (hso : 0 ≤ so.toInt ∧ so.toInt ≤ 2) {sz : Nat} (hsz : sz ≤ 40) : Cn 2 M_X7_sheet 0 0 [.ref 0, .int (nI i), .int so, .int (nI sz)] σ (fun r9 σ' => r9 = some (.int (nI 1)) ∧ CSH σ' (up sh i (so, sz, List.replicate 40 0)) ∧ Fr (fun j => j = 32 + 2 * i ∨ j = 33 + 2 * i) σ σ') := by
  obtain ⟨g31, hS2⟩ := id hS
  obtain ⟨g0, g1⟩ := hS2 i hi4
  obtain ⟨hso9, hz40, hl40⟩ := hG i hi4
  refine Cn.intro (lv0 := [some (.ref 0), some (.int (nI i)), some (.int so), some (.int (nI sz))]) rfl (Nat.le_of_ble_eq_true rfl) rfl (fun d hd => ?_)
  refine x_iload_n dX7_sheet_0 rfl ?_
  refine x_callS m_X7_isSheet l_X7_153 (c_isSheetP (p := ((i : Nat) : Int)) (nI_toInt (by omega))) (by omega) rfl rfl (Nat.le_of_ble_eq_true rfl) ⟨Nat.le_refl _, Nat.le_refl _⟩ dX7_sheet_1 (fun r1 s1 q1 => ?_)
  obtain ⟨rfl, eq1⟩ := q1
  obtain rfl := eq1.symm
  refine x_stk (st' := [.int (bI (decide (0 ≤ ((i : Nat) : Int) ∧ ((i : Nat) : Int) ≤ 3)))]) rfl ?_
  refine x_ifP_eq (P := 0 ≤ ((i : Nat) : Int) ∧ ((i : Nat) : Int) ≤ 3) inferInstance (tgt := 19) dX7_sheet_4 (by decide) (fun hv2 => ?_) (fun hv2 => ?_)
  · exact absurd hv2 (by omega)
  · refine x_iload_n dX7_sheet_7 rfl ?_
    refine x_iconst (v := (-1)) dX7_sheet_8 (by decide) ?_
    refine x_icmpT_eq (p := (so).toInt) (q := (-1)) (tgt := 22) rfl (by decide) dX7_sheet_9 (by decide) (fun hv3 => ?_) (fun hv3 => ?_)
    · exact absurd hv3 (by omega)
    · refine x_iload_n dX7_sheet_12 rfl ?_
      refine x_callS m_X7_isSort l_X7_291 (c_isSortP (p := (so).toInt) rfl) (by omega) rfl rfl (Nat.le_of_ble_eq_true rfl) ⟨Nat.le_refl _, Nat.le_refl _⟩ dX7_sheet_13 (fun r4 s4 q4 => ?_)
      obtain ⟨rfl, eq4⟩ := q4
      obtain rfl := eq4.symm
      refine x_stk (st' := [.int (bI (decide (0 ≤ (so).toInt ∧ (so).toInt ≤ 2)))]) rfl ?_
      refine x_ifP_ne (P := 0 ≤ (so).toInt ∧ (so).toInt ≤ 2) inferInstance (tgt := 22) dX7_sheet_16 (by decide) (fun hv5 => ?_) (fun hv5 => ?_)
      · refine x_iload_n dX7_sheet_22 rfl ?_
        refine x_iconst (v := (-1)) dX7_sheet_23 (by decide) ?_
        refine x_icmpT_ne (p := (so).toInt) (q := (-1)) (tgt := 40) rfl (by decide) dX7_sheet_24 (by decide) (fun hv6 => ?_) (fun hv6 => ?_)
        · refine x_iload_n dX7_sheet_40 rfl ?_
          refine x_bipush (v := nI 40) dX7_sheet_41 (by decide) ?_
          refine x_icmpN_le (tgt := 49) dX7_sheet_43 (by decide) (by omega) (by omega) (fun hv7 => ?_) (fun hv7 => ?_)
          · refine x_iload_n dX7_sheet_49 rfl ?_
            refine x_ifN_ge (tgt := 56) dX7_sheet_50 (by decide) (by omega) ?_
            refine x_aload_n dX7_sheet_56 rfl ?_
            refine x_get (v := .ref 31) f_X7_45 k0 rfl dX7_sheet_57 ?_
            refine x_iload_n dX7_sheet_60 rfl ?_
            refine x_aald (Or.inr rfl) g31 rfl (sh_aa hi4) dX7_sheet_61 ?_
            refine x_iload_n dX7_sheet_62 rfl ?_
            refine x_iload_n dX7_sheet_63 rfl ?_
            refine x_callV m_X6_become l_X7_273 (c_shBecome g0 g1 hl40 hz40 (by omega)) rfl g0 (by omega) rfl rfl (Nat.le_of_ble_eq_true rfl) ⟨Nat.le_refl _, Nat.le_refl _⟩ dX7_sheet_64 (fun r9 s9 q9 => ?_)
            obtain ⟨rfl, z9, y9, F9⟩ := q9
            refine x_stk (st' := []) rfl ?_
            refine x_iconst (v := nI 1) dX7_sheet_67 (by decide) ?_
            exact x_iret ⟨Nat.le_refl _, Nat.le_refl _⟩ rfl dX7_sheet_68 ⟨rfl, hS.put hi4 F9 z9 y9, F9⟩
          · exact absurd hv7 (by omega)
        · exact absurd hv6 (by omega)
      · exact absurd hv5 (by omega)
set_option maxHeartbeats 4000000 in
theorem c_sheet_m {σ : ZS} {tx ik : Int32} (k0 : zg σ 0 = some (.inr (.inr (6, [.ref 1, .ref 6, .ref 11, .ref 16, .ref 22, .ref 28, .ref 31, .int tx, .int ik])))) {sh : Nat → SH} (hS : CSH σ sh) (hG : SHG sh) {i : Nat} (hi4 : i < 4) {n : Int32} : Cn 2 M_X7_sheet 0 0 [.ref 0, .int (nI i), .int ((-1)), .int n] σ (fun r9 σ' => r9 = some (.int (nI 1)) ∧ CSH σ' (up sh i (-1, 0, List.replicate 40 0)) ∧ Fr (fun j => j = 32 + 2 * i ∨ j = 33 + 2 * i) σ σ') := by
  obtain ⟨g31, hS2⟩ := id hS
  obtain ⟨g0, g1⟩ := hS2 i hi4
  obtain ⟨hso9, hz40, hl40⟩ := hG i hi4
  refine Cn.intro (lv0 := [some (.ref 0), some (.int (nI i)), some (.int ((-1))), some (.int n)]) rfl (Nat.le_of_ble_eq_true rfl) rfl (fun d hd => ?_)
  refine x_iload_n dX7_sheet_0 rfl ?_
  refine x_callS m_X7_isSheet l_X7_153 (c_isSheetP (p := ((i : Nat) : Int)) (nI_toInt (by omega))) (by omega) rfl rfl (Nat.le_of_ble_eq_true rfl) ⟨Nat.le_refl _, Nat.le_refl _⟩ dX7_sheet_1 (fun r1 s1 q1 => ?_)
  obtain ⟨rfl, eq1⟩ := q1
  obtain rfl := eq1.symm
  refine x_stk (st' := [.int (bI (decide (0 ≤ ((i : Nat) : Int) ∧ ((i : Nat) : Int) ≤ 3)))]) rfl ?_
  refine x_ifP_eq (P := 0 ≤ ((i : Nat) : Int) ∧ ((i : Nat) : Int) ≤ 3) inferInstance (tgt := 19) dX7_sheet_4 (by decide) (fun hv2 => ?_) (fun hv2 => ?_)
  · exact absurd hv2 (by omega)
  · refine x_iload_n dX7_sheet_7 rfl ?_
    refine x_iconst (v := (-1)) dX7_sheet_8 (by decide) ?_
    refine x_icmpT_eq (p := (-1)) (q := (-1)) (tgt := 22) (by decide) (by decide) dX7_sheet_9 (by decide) (fun hv3 => ?_) (fun hv3 => ?_)
    · refine x_iload_n dX7_sheet_22 rfl ?_
      refine x_iconst (v := (-1)) dX7_sheet_23 (by decide) ?_
      refine x_icmpT_ne (p := (-1)) (q := (-1)) (tgt := 40) (by decide) (by decide) dX7_sheet_24 (by decide) (fun hv4 => ?_) (fun hv4 => ?_)
      · exact absurd hv4 (by omega)
      · refine x_aload_n dX7_sheet_27 rfl ?_
        refine x_get (v := .ref 31) f_X7_45 k0 rfl dX7_sheet_28 ?_
        refine x_iload_n dX7_sheet_31 rfl ?_
        refine x_aald (Or.inr rfl) g31 rfl (sh_aa hi4) dX7_sheet_32 ?_
        refine x_iconst (v := (-1)) dX7_sheet_33 (by decide) ?_
        refine x_iconst (v := nI 0) dX7_sheet_34 (by decide) ?_
        refine x_callV m_X6_become l_X7_273 (c_shBecome g0 g1 hl40 hz40 (by omega)) rfl g0 (by omega) rfl rfl (Nat.le_of_ble_eq_true rfl) ⟨Nat.le_refl _, Nat.le_refl _⟩ dX7_sheet_35 (fun r5 s5 q5 => ?_)
        obtain ⟨rfl, z5, y5, F5⟩ := q5
        refine x_stk (st' := []) rfl ?_
        refine x_iconst (v := nI 1) dX7_sheet_38 (by decide) ?_
        exact x_iret ⟨Nat.le_refl _, Nat.le_refl _⟩ rfl dX7_sheet_39 ⟨rfl, hS.put hi4 F5 z5 y5, F5⟩
    · exact absurd hv3 (by omega)
set_option maxHeartbeats 4000000 in
theorem c_sheet_b1 {σ : ZS} {tx ik : Int32} (k0 : zg σ 0 = some (.inr (.inr (6, [.ref 1, .ref 6, .ref 11, .ref 16, .ref 22, .ref 28, .ref 31, .int tx, .int ik])))) {x so n : Int32} (hb : ¬ (0 ≤ x.toInt ∧ x.toInt ≤ 3) ∨ ¬ (-1 ≤ so.toInt ∧ so.toInt ≤ 2) ∨ (0 ≤ so.toInt ∧ 40 < n.toInt)) : Cn 2 M_X7_sheet 0 0 [.ref 0, .int x, .int so, .int n] σ (fun r9 σ' => r9 = some (.int (-2)) ∧ σ' = σ) := by
  refine Cn.intro (lv0 := [some (.ref 0), some (.int x), some (.int so), some (.int n)]) rfl (Nat.le_of_ble_eq_true rfl) rfl (fun d hd => ?_)
  refine x_iload_n dX7_sheet_0 rfl ?_
  refine x_callS m_X7_isSheet l_X7_153 (c_isSheetP (p := (x).toInt) rfl) (by omega) rfl rfl (Nat.le_of_ble_eq_true rfl) ⟨Nat.le_refl _, Nat.le_refl _⟩ dX7_sheet_1 (fun r1 s1 q1 => ?_)
  obtain ⟨rfl, eq1⟩ := q1
  obtain rfl := eq1.symm
  refine x_stk (st' := [.int (bI (decide (0 ≤ (x).toInt ∧ (x).toInt ≤ 3)))]) rfl ?_
  refine x_ifP_eq (P := 0 ≤ (x).toInt ∧ (x).toInt ≤ 3) inferInstance (tgt := 19) dX7_sheet_4 (by decide) (fun hv2 => ?_) (fun hv2 => ?_)
  · refine x_bipush (v := (-2)) dX7_sheet_19 (by decide) ?_
    exact x_iret ⟨Nat.le_refl _, Nat.le_refl _⟩ rfl dX7_sheet_21 ⟨rfl, rfl⟩
  · refine x_iload_n dX7_sheet_7 rfl ?_
    refine x_iconst (v := (-1)) dX7_sheet_8 (by decide) ?_
    refine x_icmpT_eq (p := (so).toInt) (q := (-1)) (tgt := 22) rfl (by decide) dX7_sheet_9 (by decide) (fun hv3 => ?_) (fun hv3 => ?_)
    · refine x_iload_n dX7_sheet_22 rfl ?_
      refine x_iconst (v := (-1)) dX7_sheet_23 (by decide) ?_
      refine x_icmpT_ne (p := (so).toInt) (q := (-1)) (tgt := 40) rfl (by decide) dX7_sheet_24 (by decide) (fun hv4 => ?_) (fun hv4 => ?_)
      · refine x_iload_n dX7_sheet_40 rfl ?_
        refine x_bipush (v := nI 40) dX7_sheet_41 (by decide) ?_
        refine x_icmpT_le (p := (n).toInt) (q := ((40 : Nat) : Int)) (tgt := 49) rfl (nI_toInt (by omega)) dX7_sheet_43 (by decide) (fun hv5 => ?_) (fun hv5 => ?_)
        · exact absurd hv5 (by omega)
        · refine x_bipush (v := (-2)) dX7_sheet_46 (by decide) ?_
          exact x_iret ⟨Nat.le_refl _, Nat.le_refl _⟩ rfl dX7_sheet_48 ⟨rfl, rfl⟩
      · exact absurd hv4 (by omega)
    · refine x_iload_n dX7_sheet_12 rfl ?_
      refine x_callS m_X7_isSort l_X7_291 (c_isSortP (p := (so).toInt) rfl) (by omega) rfl rfl (Nat.le_of_ble_eq_true rfl) ⟨Nat.le_refl _, Nat.le_refl _⟩ dX7_sheet_13 (fun r6 s6 q6 => ?_)
      obtain ⟨rfl, eq6⟩ := q6
      obtain rfl := eq6.symm
      refine x_stk (st' := [.int (bI (decide (0 ≤ (so).toInt ∧ (so).toInt ≤ 2)))]) rfl ?_
      refine x_ifP_ne (P := 0 ≤ (so).toInt ∧ (so).toInt ≤ 2) inferInstance (tgt := 22) dX7_sheet_16 (by decide) (fun hv7 => ?_) (fun hv7 => ?_)
      · refine x_iload_n dX7_sheet_22 rfl ?_
        refine x_iconst (v := (-1)) dX7_sheet_23 (by decide) ?_
        refine x_icmpT_ne (p := (so).toInt) (q := (-1)) (tgt := 40) rfl (by decide) dX7_sheet_24 (by decide) (fun hv8 => ?_) (fun hv8 => ?_)
        · refine x_iload_n dX7_sheet_40 rfl ?_
          refine x_bipush (v := nI 40) dX7_sheet_41 (by decide) ?_
          refine x_icmpT_le (p := (n).toInt) (q := ((40 : Nat) : Int)) (tgt := 49) rfl (nI_toInt (by omega)) dX7_sheet_43 (by decide) (fun hv9 => ?_) (fun hv9 => ?_)
          · exact absurd hv9 (by omega)
          · refine x_bipush (v := (-2)) dX7_sheet_46 (by decide) ?_
            exact x_iret ⟨Nat.le_refl _, Nat.le_refl _⟩ rfl dX7_sheet_48 ⟨rfl, rfl⟩
        · exact absurd hv8 (by omega)
      · refine x_bipush (v := (-2)) dX7_sheet_19 (by decide) ?_
        exact x_iret ⟨Nat.le_refl _, Nat.le_refl _⟩ rfl dX7_sheet_21 ⟨rfl, rfl⟩
set_option maxHeartbeats 4000000 in
theorem c_sheet_b2 {σ : ZS} {tx ik : Int32} (k0 : zg σ 0 = some (.inr (.inr (6, [.ref 1, .ref 6, .ref 11, .ref 16, .ref 22, .ref 28, .ref 31, .int tx, .int ik])))) {i : Nat} (hi4 : i < 4) {so : Int32} (hso : 0 ≤ so.toInt ∧ so.toInt ≤ 2) {n : Int32} (hn : n.toInt < 0) : Cn 2 M_X7_sheet 0 0 [.ref 0, .int (nI i), .int so, .int n] σ (fun r9 σ' => r9 = some (.int (-14)) ∧ σ' = σ) := by
  refine Cn.intro (lv0 := [some (.ref 0), some (.int (nI i)), some (.int so), some (.int n)]) rfl (Nat.le_of_ble_eq_true rfl) rfl (fun d hd => ?_)
  refine x_iload_n dX7_sheet_0 rfl ?_
  refine x_callS m_X7_isSheet l_X7_153 (c_isSheetP (p := ((i : Nat) : Int)) (nI_toInt (by omega))) (by omega) rfl rfl (Nat.le_of_ble_eq_true rfl) ⟨Nat.le_refl _, Nat.le_refl _⟩ dX7_sheet_1 (fun r1 s1 q1 => ?_)
  obtain ⟨rfl, eq1⟩ := q1
  obtain rfl := eq1.symm
  refine x_stk (st' := [.int (bI (decide (0 ≤ ((i : Nat) : Int) ∧ ((i : Nat) : Int) ≤ 3)))]) rfl ?_
  refine x_ifP_eq (P := 0 ≤ ((i : Nat) : Int) ∧ ((i : Nat) : Int) ≤ 3) inferInstance (tgt := 19) dX7_sheet_4 (by decide) (fun hv2 => ?_) (fun hv2 => ?_)
  · exact absurd hv2 (by omega)
  · refine x_iload_n dX7_sheet_7 rfl ?_
    refine x_iconst (v := (-1)) dX7_sheet_8 (by decide) ?_
    refine x_icmpT_eq (p := (so).toInt) (q := (-1)) (tgt := 22) rfl (by decide) dX7_sheet_9 (by decide) (fun hv3 => ?_) (fun hv3 => ?_)
    · exact absurd hv3 (by omega)
    · refine x_iload_n dX7_sheet_12 rfl ?_
      refine x_callS m_X7_isSort l_X7_291 (c_isSortP (p := (so).toInt) rfl) (by omega) rfl rfl (Nat.le_of_ble_eq_true rfl) ⟨Nat.le_refl _, Nat.le_refl _⟩ dX7_sheet_13 (fun r4 s4 q4 => ?_)
      obtain ⟨rfl, eq4⟩ := q4
      obtain rfl := eq4.symm
      refine x_stk (st' := [.int (bI (decide (0 ≤ (so).toInt ∧ (so).toInt ≤ 2)))]) rfl ?_
      refine x_ifP_ne (P := 0 ≤ (so).toInt ∧ (so).toInt ≤ 2) inferInstance (tgt := 22) dX7_sheet_16 (by decide) (fun hv5 => ?_) (fun hv5 => ?_)
      · refine x_iload_n dX7_sheet_22 rfl ?_
        refine x_iconst (v := (-1)) dX7_sheet_23 (by decide) ?_
        refine x_icmpT_ne (p := (so).toInt) (q := (-1)) (tgt := 40) rfl (by decide) dX7_sheet_24 (by decide) (fun hv6 => ?_) (fun hv6 => ?_)
        · refine x_iload_n dX7_sheet_40 rfl ?_
          refine x_bipush (v := nI 40) dX7_sheet_41 (by decide) ?_
          refine x_icmpT_le (p := (n).toInt) (q := ((40 : Nat) : Int)) (tgt := 49) rfl (nI_toInt (by omega)) dX7_sheet_43 (by decide) (fun hv7 => ?_) (fun hv7 => ?_)
          · refine x_iload_n dX7_sheet_49 rfl ?_
            refine x_ifT_ge (p := (n).toInt) (tgt := 56) rfl dX7_sheet_50 (by decide) (fun hv8 => ?_) (fun hv8 => ?_)
            · exact absurd hv8 (by omega)
            · refine x_bipush (v := (-14)) dX7_sheet_53 (by decide) ?_
              exact x_iret ⟨Nat.le_refl _, Nat.le_refl _⟩ rfl dX7_sheet_55 ⟨rfl, rfl⟩
          · exact absurd hv7 (by omega)
        · exact absurd hv6 (by omega)
      · exact absurd hv5 (by omega)
set_option maxHeartbeats 4000000 in
theorem c_cell {σ : ZS} {tx ik : Int32} (k0 : zg σ 0 = some (.inr (.inr (6, [.ref 1, .ref 6, .ref 11, .ref 16, .ref 22, .ref 28, .ref 31, .int tx, .int ik])))) {sh : Nat → SH} (hS : CSH σ sh) (hG : SHG sh) {i : Nat} (hi4 : i < 4) (hne : ¬ (sh i).1 = -1) {j : Nat} (hj : j < (sh i).2.1) {v : Int32} : Cn 2 M_X7_cell 0 0 [.ref 0, .int (nI i), .int (nI j), .int v] σ (fun r9 σ' => r9 = some (.int (nI 1)) ∧ CSH σ' (up sh i ((sh i).1, (sh i).2.1, (sh i).2.2.set j (putV (sh i).1 v))) ∧ Fr (fun j => j = 32 + 2 * i ∨ j = 33 + 2 * i) σ σ') := by
  obtain ⟨g31, hS2⟩ := id hS
  obtain ⟨g0, g1⟩ := hS2 i hi4
  obtain ⟨hso9, hz40, hl40⟩ := hG i hi4
  have hne' : ¬ ((sh i).1).toInt = -1 := fun q => hne (Int32.toInt_inj.mp q)
  refine Cn.intro (lv0 := [some (.ref 0), some (.int (nI i)), some (.int (nI j)), some (.int v)]) rfl (Nat.le_of_ble_eq_true rfl) rfl (fun d hd => ?_)
  refine x_iload_n dX7_cell_0 rfl ?_
  refine x_callS m_X7_isSheet l_X7_153 (c_isSheetP (p := ((i : Nat) : Int)) (nI_toInt (by omega))) (by omega) rfl rfl (Nat.le_of_ble_eq_true rfl) ⟨Nat.le_refl _, Nat.le_refl _⟩ dX7_cell_1 (fun r1 s1 q1 => ?_)
  obtain ⟨rfl, eq1⟩ := q1
  obtain rfl := eq1.symm
  refine x_stk (st' := [.int (bI (decide (0 ≤ ((i : Nat) : Int) ∧ ((i : Nat) : Int) ≤ 3)))]) rfl ?_
  refine x_ifP_ne (P := 0 ≤ ((i : Nat) : Int) ∧ ((i : Nat) : Int) ≤ 3) inferInstance (tgt := 10) dX7_cell_4 (by decide) (fun hv2 => ?_) (fun hv2 => ?_)
  · refine x_aload_n dX7_cell_10 rfl ?_
    refine x_get (v := .ref 31) f_X7_45 k0 rfl dX7_cell_11 ?_
    refine x_iload_n dX7_cell_14 rfl ?_
    refine x_aald (Or.inr rfl) g31 rfl (sh_aa hi4) dX7_cell_15 ?_
    refine x_get (v := .int ((sh i).1)) f_X7_179 g0 rfl dX7_cell_16 ?_
    refine x_iconst (v := (-1)) dX7_cell_19 (by decide) ?_
    refine x_icmpT_ne (p := ((sh i).1).toInt) (q := (-1)) (tgt := 26) rfl (by decide) dX7_cell_20 (by decide) (fun hv3 => ?_) (fun hv3 => ?_)
    · refine x_aload_n dX7_cell_26 rfl ?_
      refine x_get (v := .ref 31) f_X7_45 k0 rfl dX7_cell_27 ?_
      refine x_iload_n dX7_cell_30 rfl ?_
      refine x_aald (Or.inr rfl) g31 rfl (sh_aa hi4) dX7_cell_31 ?_
      refine x_iload_n dX7_cell_32 rfl ?_
      refine x_callV m_X6_hasItem l_X7_294 (c_hasItem g0 g1 hl40 hz40 (by omega) (p := ((j : Nat) : Int)) (nI_toInt (by omega))) rfl g0 (by omega) rfl rfl (Nat.le_of_ble_eq_true rfl) ⟨Nat.le_refl _, Nat.le_refl _⟩ dX7_cell_33 (fun r4 s4 q4 => ?_)
      obtain ⟨rfl, eq4⟩ := q4
      obtain rfl := eq4.symm
      refine x_stk (st' := [.int (bI (decide (0 ≤ ((j : Nat) : Int) ∧ ((j : Nat) : Int) < (((sh i).2.1 : Nat) : Int))))]) rfl ?_
      refine x_ifP_ne (P := 0 ≤ ((j : Nat) : Int) ∧ ((j : Nat) : Int) < (((sh i).2.1 : Nat) : Int)) inferInstance (tgt := 42) dX7_cell_36 (by decide) (fun hv5 => ?_) (fun hv5 => ?_)
      · refine x_aload_n dX7_cell_42 rfl ?_
        refine x_get (v := .ref 31) f_X7_45 k0 rfl dX7_cell_43 ?_
        refine x_iload_n dX7_cell_46 rfl ?_
        refine x_aald (Or.inr rfl) g31 rfl (sh_aa hi4) dX7_cell_47 ?_
        refine x_iload_n dX7_cell_48 rfl ?_
        refine x_iload_n dX7_cell_49 rfl ?_
        refine x_callV m_X6_put l_X7_279 (c_put g0 g1 hl40 hz40 (by omega) hj) rfl g0 (by omega) rfl rfl (Nat.le_of_ble_eq_true rfl) ⟨Nat.le_refl _, Nat.le_refl _⟩ dX7_cell_50 (fun r6 s6 q6 => ?_)
        obtain ⟨rfl, z6, F6⟩ := q6
        refine x_stk (st' := []) rfl ?_
        refine x_iconst (v := nI 1) dX7_cell_53 (by decide) ?_
        exact x_iret ⟨Nat.le_refl _, Nat.le_refl _⟩ rfl dX7_cell_54 ⟨rfl, hS.put hi4 (F6.mono (fun k hk => by omega)) (F6.at (by omega) g0) z6, F6.mono (fun k hk => by omega)⟩
      · exact absurd hv5 (by omega)
    · exact absurd hv3 (by omega)
  · exact absurd hv2 (by omega)
set_option maxHeartbeats 4000000 in
theorem c_cell_b0 {σ : ZS} {tx ik : Int32} (k0 : zg σ 0 = some (.inr (.inr (6, [.ref 1, .ref 6, .ref 11, .ref 16, .ref 22, .ref 28, .ref 31, .int tx, .int ik])))) {x j v : Int32} (hx : ¬ (0 ≤ x.toInt ∧ x.toInt ≤ 3)) : Cn 2 M_X7_cell 0 0 [.ref 0, .int x, .int j, .int v] σ (fun r9 σ' => r9 = some (.int (-2)) ∧ σ' = σ) := by
  refine Cn.intro (lv0 := [some (.ref 0), some (.int x), some (.int j), some (.int v)]) rfl (Nat.le_of_ble_eq_true rfl) rfl (fun d hd => ?_)
  refine x_iload_n dX7_cell_0 rfl ?_
  refine x_callS m_X7_isSheet l_X7_153 (c_isSheetP (p := (x).toInt) rfl) (by omega) rfl rfl (Nat.le_of_ble_eq_true rfl) ⟨Nat.le_refl _, Nat.le_refl _⟩ dX7_cell_1 (fun r1 s1 q1 => ?_)
  obtain ⟨rfl, eq1⟩ := q1
  obtain rfl := eq1.symm
  refine x_stk (st' := [.int (bI (decide (0 ≤ (x).toInt ∧ (x).toInt ≤ 3)))]) rfl ?_
  refine x_ifP_ne (P := 0 ≤ (x).toInt ∧ (x).toInt ≤ 3) inferInstance (tgt := 10) dX7_cell_4 (by decide) (fun hv2 => ?_) (fun hv2 => ?_)
  · exact absurd hv2 (by omega)
  · refine x_bipush (v := (-2)) dX7_cell_7 (by decide) ?_
    exact x_iret ⟨Nat.le_refl _, Nat.le_refl _⟩ rfl dX7_cell_9 ⟨rfl, rfl⟩
set_option maxHeartbeats 4000000 in
theorem c_cell_b1 {σ : ZS} {tx ik : Int32} (k0 : zg σ 0 = some (.inr (.inr (6, [.ref 1, .ref 6, .ref 11, .ref 16, .ref 22, .ref 28, .ref 31, .int tx, .int ik])))) {sh : Nat → SH} (hS : CSH σ sh) (hG : SHG sh) {i : Nat} (hi4 : i < 4) (hb : (sh i).1 = -1) {j v : Int32} : Cn 2 M_X7_cell 0 0 [.ref 0, .int (nI i), .int j, .int v] σ (fun r9 σ' => r9 = some (.int (-11)) ∧ σ' = σ) := by
  obtain ⟨g31, hS2⟩ := id hS
  obtain ⟨g0, g1⟩ := hS2 i hi4
  obtain ⟨hso9, hz40, hl40⟩ := hG i hi4
  refine Cn.intro (lv0 := [some (.ref 0), some (.int (nI i)), some (.int j), some (.int v)]) rfl (Nat.le_of_ble_eq_true rfl) rfl (fun d hd => ?_)
  refine x_iload_n dX7_cell_0 rfl ?_
  refine x_callS m_X7_isSheet l_X7_153 (c_isSheetP (p := ((i : Nat) : Int)) (nI_toInt (by omega))) (by omega) rfl rfl (Nat.le_of_ble_eq_true rfl) ⟨Nat.le_refl _, Nat.le_refl _⟩ dX7_cell_1 (fun r1 s1 q1 => ?_)
  obtain ⟨rfl, eq1⟩ := q1
  obtain rfl := eq1.symm
  refine x_stk (st' := [.int (bI (decide (0 ≤ ((i : Nat) : Int) ∧ ((i : Nat) : Int) ≤ 3)))]) rfl ?_
  refine x_ifP_ne (P := 0 ≤ ((i : Nat) : Int) ∧ ((i : Nat) : Int) ≤ 3) inferInstance (tgt := 10) dX7_cell_4 (by decide) (fun hv2 => ?_) (fun hv2 => ?_)
  · refine x_aload_n dX7_cell_10 rfl ?_
    refine x_get (v := .ref 31) f_X7_45 k0 rfl dX7_cell_11 ?_
    refine x_iload_n dX7_cell_14 rfl ?_
    refine x_aald (Or.inr rfl) g31 rfl (sh_aa hi4) dX7_cell_15 ?_
    refine x_get (v := .int ((sh i).1)) f_X7_179 g0 rfl dX7_cell_16 ?_
    refine x_iconst (v := (-1)) dX7_cell_19 (by decide) ?_
    refine x_icmpT_ne (p := ((sh i).1).toInt) (q := (-1)) (tgt := 26) rfl (by decide) dX7_cell_20 (by decide) (fun hv3 => ?_) (fun hv3 => ?_)
    · exact absurd (by rw [hb]; decide) hv3
    · refine x_bipush (v := (-11)) dX7_cell_23 (by decide) ?_
      exact x_iret ⟨Nat.le_refl _, Nat.le_refl _⟩ rfl dX7_cell_25 ⟨rfl, rfl⟩
  · exact absurd hv2 (by omega)
set_option maxHeartbeats 4000000 in
theorem c_cell_b2 {σ : ZS} {tx ik : Int32} (k0 : zg σ 0 = some (.inr (.inr (6, [.ref 1, .ref 6, .ref 11, .ref 16, .ref 22, .ref 28, .ref 31, .int tx, .int ik])))) {sh : Nat → SH} (hS : CSH σ sh) (hG : SHG sh) {i : Nat} (hi4 : i < 4) (hne : ¬ (sh i).1 = -1) {j : Int32} (hj : ¬ (0 ≤ j.toInt ∧ j.toInt < (((sh i).2.1 : Nat) : Int))) {v : Int32} : Cn 2 M_X7_cell 0 0 [.ref 0, .int (nI i), .int j, .int v] σ (fun r9 σ' => r9 = some (.int (-12)) ∧ σ' = σ) := by
  obtain ⟨g31, hS2⟩ := id hS
  obtain ⟨g0, g1⟩ := hS2 i hi4
  obtain ⟨hso9, hz40, hl40⟩ := hG i hi4
  have hne' : ¬ ((sh i).1).toInt = -1 := fun q => hne (Int32.toInt_inj.mp q)
  refine Cn.intro (lv0 := [some (.ref 0), some (.int (nI i)), some (.int j), some (.int v)]) rfl (Nat.le_of_ble_eq_true rfl) rfl (fun d hd => ?_)
  refine x_iload_n dX7_cell_0 rfl ?_
  refine x_callS m_X7_isSheet l_X7_153 (c_isSheetP (p := ((i : Nat) : Int)) (nI_toInt (by omega))) (by omega) rfl rfl (Nat.le_of_ble_eq_true rfl) ⟨Nat.le_refl _, Nat.le_refl _⟩ dX7_cell_1 (fun r1 s1 q1 => ?_)
  obtain ⟨rfl, eq1⟩ := q1
  obtain rfl := eq1.symm
  refine x_stk (st' := [.int (bI (decide (0 ≤ ((i : Nat) : Int) ∧ ((i : Nat) : Int) ≤ 3)))]) rfl ?_
  refine x_ifP_ne (P := 0 ≤ ((i : Nat) : Int) ∧ ((i : Nat) : Int) ≤ 3) inferInstance (tgt := 10) dX7_cell_4 (by decide) (fun hv2 => ?_) (fun hv2 => ?_)
  · refine x_aload_n dX7_cell_10 rfl ?_
    refine x_get (v := .ref 31) f_X7_45 k0 rfl dX7_cell_11 ?_
    refine x_iload_n dX7_cell_14 rfl ?_
    refine x_aald (Or.inr rfl) g31 rfl (sh_aa hi4) dX7_cell_15 ?_
    refine x_get (v := .int ((sh i).1)) f_X7_179 g0 rfl dX7_cell_16 ?_
    refine x_iconst (v := (-1)) dX7_cell_19 (by decide) ?_
    refine x_icmpT_ne (p := ((sh i).1).toInt) (q := (-1)) (tgt := 26) rfl (by decide) dX7_cell_20 (by decide) (fun hv3 => ?_) (fun hv3 => ?_)
    · refine x_aload_n dX7_cell_26 rfl ?_
      refine x_get (v := .ref 31) f_X7_45 k0 rfl dX7_cell_27 ?_
      refine x_iload_n dX7_cell_30 rfl ?_
      refine x_aald (Or.inr rfl) g31 rfl (sh_aa hi4) dX7_cell_31 ?_
      refine x_iload_n dX7_cell_32 rfl ?_
      refine x_callV m_X6_hasItem l_X7_294 (c_hasItem g0 g1 hl40 hz40 (by omega) (p := (j).toInt) rfl) rfl g0 (by omega) rfl rfl (Nat.le_of_ble_eq_true rfl) ⟨Nat.le_refl _, Nat.le_refl _⟩ dX7_cell_33 (fun r4 s4 q4 => ?_)
      obtain ⟨rfl, eq4⟩ := q4
      obtain rfl := eq4.symm
      refine x_stk (st' := [.int (bI (decide (0 ≤ (j).toInt ∧ (j).toInt < (((sh i).2.1 : Nat) : Int))))]) rfl ?_
      refine x_ifP_ne (P := 0 ≤ (j).toInt ∧ (j).toInt < (((sh i).2.1 : Nat) : Int)) inferInstance (tgt := 42) dX7_cell_36 (by decide) (fun hv5 => ?_) (fun hv5 => ?_)
      · exact absurd hv5 (by omega)
      · refine x_bipush (v := (-12)) dX7_cell_39 (by decide) ?_
        exact x_iret ⟨Nat.le_refl _, Nat.le_refl _⟩ rfl dX7_cell_41 ⟨rfl, rfl⟩
    · exact absurd hv3 (by omega)
  · exact absurd hv2 (by omega)
