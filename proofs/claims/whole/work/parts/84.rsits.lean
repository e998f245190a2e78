/-! tables that sheets tell -/
abbrev SH : Type := Int32 × Nat × List Int32
def tbS (n : Nat) (row : List Int32) : Nat → Option Nat
  | 0 => some 0
  | i + 1 => match tbS n row i with
    | none => none
    | some A => if (0 ≤ (row.getD i 0).toInt ∧ (row.getD i 0).toInt < (n : Int)) ∧ A.testBit (row.getD i 0).toInt.toNat = false then some (A ||| 2 ^ (row.getD i 0).toInt.toNat) else none
def tOf (row : List Int32) (m : Nat) : List Nat := (List.range 7).map (fun i => if i < m then (row.getD i 0).toInt.toNat % 7 else 0)
theorem tOf_get {row : List Int32} {m i : Nat} (hi : i < 7) : (tOf row m).getD i 0 = if i < m then (row.getD i 0).toInt.toNat % 7 else 0 := by
  rw [tOf, List.getD_eq_getElem?_getD, List.getElem?_map, List.getElem?_range hi]
  rfl
theorem tOf_7 (row : List Int32) (m : Nat) : T7 (tOf row m) := by
  refine ⟨by simp [tOf], fun i => ?_⟩
  by_cases hi : i < 7
  · rw [tOf_get hi]
    split <;> omega
  · rw [List.getD_eq_getElem?_getD, List.getElem?_eq_none (by simp [tOf]; omega)]
    decide
theorem popc_new : ∀ A, A < 128 → ∀ p, p < 7 → A.testBit p = false → popc (A ||| 2 ^ p) = popc A + 1 := by decide +kernel
theorem popc_n : ∀ n, n < 8 → ∀ A, A < 2 ^ n → popc A ≤ n := by decide +kernel
theorem tbS_ok {n : Nat} (hn : n ≤ 7) {row : List Int32} : ∀ {m A : Nat}, tbS n row m = some A → m ≤ n ∧ A < 2 ^ n ∧ popc A = m ∧ (∀ i, i < m → 0 ≤ (row.getD i 0).toInt ∧ (row.getD i 0).toInt < (n : Int)) ∧ (∀ i, i < m → (tOf row m).getD i 0 = (row.getD i 0).toInt.toNat) ∧ setS (tOf row m) m = A ∧ Dis n m (tOf row m)
  | 0, A, h => by
    cases h
    exact ⟨Nat.zero_le _, Nat.two_pow_pos n, popc00, fun i hi => absurd hi (by omega), fun i hi => absurd hi (by omega), rfl, fun i hi => absurd hi (by omega), fun i j _ hj => absurd hj (by omega)⟩
  | m + 1, A, h => by
    rw [tbS] at h
    cases hx : tbS n row m with
    | none => rw [hx] at h; cases h
    | some A0 =>
      rw [hx] at h
      simp only at h
      obtain ⟨h1, h2, h3, h4, h5, h6, h7⟩ := tbS_ok hn hx
      by_cases hc : (0 ≤ (row.getD m 0).toInt ∧ (row.getD m 0).toInt < (n : Int)) ∧ A0.testBit (row.getD m 0).toInt.toNat = false
      · rw [if_pos hc] at h
        cases h
        have h2n := two_le hn
        have hp : (row.getD m 0).toInt.toNat < n := by omega
        have ha : A0 ||| 2 ^ (row.getD m 0).toInt.toNat < 2 ^ n := Nat.or_lt_two_pow h2 (Nat.pow_lt_pow_right (by decide) hp)
        have hpc := popc_new A0 (by omega) _ (show (row.getD m 0).toInt.toNat < 7 by omega) hc.2
        have hpn := popc_n n (by omega) _ ha
        have hm : m < 7 := by omega
        have g : ∀ i, i < m + 1 → (tOf row (m + 1)).getD i 0 = (row.getD i 0).toInt.toNat := by
          intro i hi
          rw [tOf_get (by omega), if_pos hi]
          by_cases e : i = m
          · rw [e]; exact Nat.mod_eq_of_lt (by omega)
          · have := h4 i (by omega)
            exact Nat.mod_eq_of_lt (by omega)
        have gm : EqM m (tOf row (m + 1)) (tOf row m) := fun i hi => by rw [g i (by omega), h5 i hi]
        have hs : setS (tOf row (m + 1)) (m + 1) = A0 ||| 2 ^ (row.getD m 0).toInt.toNat := by rw [setS, setS_eqm gm, h6, g m (by omega)]
        refine ⟨by omega, ha, by omega, fun i hi => ?_, g, hs, ⟨fun i hi => ?_, fun i j hij hj => ?_⟩⟩
        · by_cases e : i = m
          · rw [e]; exact hc.1
          · exact h4 i (by omega)
        · by_cases e : i = m
          · rw [e, g m (by omega)]; exact hp
          · rw [gm i (by omega)]; exact h7.1 i (by omega)
        · by_cases e : j = m
          · rw [e, g m (by omega), gm i (by omega)]
            intro q
            have hb := setS_bit (t := tOf row m) (m := m) (k := i) (by omega)
            rw [h6, q, hc.2] at hb
            cases hb
          · rw [gm i (by omega), gm j (by omega)]; exact h7.2 i j hij (by omega)
      · rw [if_neg hc] at h; cases h
/-- the sheets of the reference -/
def RSH (b : Nat → List Int32) (sh : Nat → SH) : Prop := ∀ i, i < 4 → (b 13).getD i 0 = bI (decide (¬ (sh i).1 = -1)) ∧ (¬ (sh i).1 = -1 → (b 14).getD i 0 = (sh i).1 ∧ (b 15).getD i 0 = nI (sh i).2.1 ∧ ∀ j, j < (sh i).2.1 → (b 16).getD (i * 40 + j) 0 = (sh i).2.2.getD j 0)
def SHG (sh : Nat → SH) : Prop := ∀ i, i < 4 → ((sh i).1 = -1 ∨ (sh i).1 = nI 0 ∨ (sh i).1 = nI 1 ∨ (sh i).1 = nI 2) ∧ (sh i).2.1 ≤ 40 ∧ (sh i).2.2.length = 40
theorem RSH.fr {b b' : Nat → List Int32} {sh : Nat → SH} (h : RSH b sh) (h13 : b' 13 = b 13) (h14 : b' 14 = b 14) (h15 : b' 15 = b 15) (h16 : b' 16 = b 16) : RSH b' sh := by
  intro i hi
  rw [h13, h14, h15, h16]
  exact h i hi
set_option maxHeartbeats 4000000 in
theorem r_isSheet {σ : ZS} {x : Int32} {p : Int} (hx : x.toInt = p) : Cn 1 M_X8_isSheet 0 0 [.int x] σ (fun r9 σ' => r9 = some (.int (bI (decide (0 ≤ p ∧ p ≤ 3)))) ∧ σ' = σ) := by
  refine Cn.intro (lv0 := [some (.int x)]) rfl (Nat.le_of_ble_eq_true rfl) rfl (fun d hd => ?_)
  refine x_iload_n dX8_isSheet_0 rfl ?_
  refine x_i2l dX8_isSheet_1 ?_
  refine x_lconst (v := 0) dX8_isSheet_2 (by decide) ?_
  refine x_ldc2 (v := (3)) cl_X8_97 dX8_isSheet_3 ?_
  refine x_callS m_X8_in l_X8_85 (r_in (p := p) (q := 0) (r := (3)) (tL hx) (by decide) (by decide)) (by omega) rfl rfl (Nat.le_of_ble_eq_true rfl) ⟨Nat.le_refl _, Nat.le_refl _⟩ dX8_isSheet_6 (fun r1 s1 q1 => ?_)
  obtain ⟨rfl, eq1⟩ := q1
  obtain rfl := eq1.symm
  refine x_stk (st' := [.int (bI (decide (0 ≤ p ∧ p ≤ (3))))]) rfl ?_
  exact x_zret ⟨Nat.le_refl _, Nat.le_refl _⟩ rfl (bI_nar _) dX8_isSheet_9 ⟨rfl, rfl⟩
theorem tbS_none {n : Nat} {row : List Int32} {k : Nat} : ∀ {m : Nat}, k ≤ m → tbS n row k = none → tbS n row m = none
  | 0, hk, h => by rw [show k = 0 by omega] at h; exact h
  | m + 1, hk, h => by
    by_cases e : k = m + 1
    · rw [← e]; exact h
    · rw [tbS, tbS_none (show k ≤ m by omega) h]
theorem RC.b7 {a : Nat → Int32} {b b' : Nat → List Int32} {rr n : Nat} {K N : List Nat} {W : List Int32} {D : List Nat} {fr : Int32} (h : RC a b rr n K N W D fr) (hB : Fb 7 b b') : RC a b' rr n K N W D fr := h.frr FrR.rf hB.q7
set_option maxHeartbeats 4000000 in
theorem lr_sits {σ0 : ZS} {a : Nat → Int32} {tw : Int64} {b0 : Nat → List Int32} {rr n : Nat} {K N : List Nat} {W : List Int32} {D : List Nat} {fr : Int32} (hC : RC a b0 rr n K N W D fr) {sh : Nat → SH} (hS : RSH b0 sh) {i : Nat} (hi4 : i < 4) (hne : ¬ (sh i).1 = -1) (hz40 : (sh i).2.1 ≤ 40) {d : Nat} (hd : 2 ≤ d) : ∀ (q k : Nat) (b : Nat → List Int32) (σ : ZS) (A : Nat) (hR : RM σ0 σ a tw b) (hB : Fb 7 b0 b) (hA : tbS n (sh i).2.2 k = some A) (hP : ∀ j, j < k → (b 7).getD j 0 = (sh i).2.2.getD j 0), k + q = (sh i).2.1 → X M_X8_sits d 0 0 (fun r9 σ' => r9 = some (.int (bI (tbS n (sh i).2.2 (sh i).2.1).isSome)) ∧ ∃ (a' : Nat → Int32) (b' : Nat → List Int32), RM σ0 σ' a' tw b' ∧ FrR a a' ∧ Fb 7 b0 b' ∧ ((tbS n (sh i).2.2 (sh i).2.1).isSome = true → a' 31 = nI (sh i).2.1 ∧ ∀ j, j < (sh i).2.1 → (b' 7).getD j 0 = (sh i).2.2.getD j 0)) 0 0 4 [some (.ref 1000), some (.int (nI i)), some (.int (nI A)), some (.int (nI k)), none] [] σ := by
  obtain ⟨c7, hrr, c13, hn7, c14, cK, cN, cW, cD, hN7, hW7, hD49, hK5, hN9, hD999⟩ := id hC
  intro q
  induction q with
  | zero =>
    intro k b σ A hR hB hA hP hk
    have hC0 : RC a b rr n K N W D fr := hC.b7 hB
    have hA2 := (tbS_ok hn7 hA).2.1
    have h2n := two_le hn7
    have hA9 : k = (sh i).2.1 → tbS n (sh i).2.2 (sh i).2.1 = some A := fun e => e ▸ hA
    refine x_iload_n dX8_sits_4 rfl ?_
    refine x_aload_n dX8_sits_5 rfl ?_
    refine x_rget f_X8_69 hR rfl dX8_sits_6 ?_
    refine x_iload_n dX8_sits_9 rfl ?_
    refine x_rald (j := 15) (n := i) hR rfl (by decide) rfl rfl (rlt hR (m := 4) (by decide) rfl (by omega)) dX8_sits_10 ?_
    refine x_topi (y := nI ((sh i).2.1)) (by rw [hB 15 (by decide)]; exact ((hS i hi4).2 hne).2.1) ?_
    refine x_icmpN_ge (tgt := 69) dX8_sits_11 (by decide) (by omega) (by omega) (fun hv1 => ?_) (fun hv1 => ?_)
    · refine x_aload_n dX8_sits_69 rfl ?_
      refine x_aload_n dX8_sits_70 rfl ?_
      refine x_rget f_X8_69 hR rfl dX8_sits_71 ?_
      refine x_iload_n dX8_sits_74 rfl ?_
      refine x_rald (j := 15) (n := i) hR rfl (by decide) rfl rfl (rlt hR (m := 4) (by decide) rfl (by omega)) dX8_sits_75 ?_
      refine x_topi (y := nI ((sh i).2.1)) (by rw [hB 15 (by decide)]; exact ((hS i hi4).2 hne).2.1) ?_
      refine x_rput (up a 31 (nI ((sh i).2.1))) tw f_X8_255 hR (by decide) rfl (fun c => ⟨rfl, rfl⟩) dX8_sits_76 (fun sw2 Rw2 => ?_)
      refine x_iconst (v := nI 1) dX8_sits_79 (by decide) ?_
      exact x_zret ⟨Nat.le_refl _, Nat.le_refl _⟩ rfl (by decide) dX8_sits_80 ⟨by rw [hA9 (by omega)]; rfl, _, _, Rw2, FrR.rf.up (by omega), hB, fun _ => ⟨rfl, fun j hj => hP j (by omega)⟩⟩
    · exact absurd hv1 (by omega)
  | succ q ih =>
    intro k b σ A hR hB hA hP hk
    have hC0 : RC a b rr n K N W D fr := hC.b7 hB
    have hA2 := (tbS_ok hn7 hA).2.1
    have h2n := two_le hn7
    have hA9 : k = (sh i).2.1 → tbS n (sh i).2.2 (sh i).2.1 = some A := fun e => e ▸ hA
    refine x_iload_n dX8_sits_4 rfl ?_
    refine x_aload_n dX8_sits_5 rfl ?_
    refine x_rget f_X8_69 hR rfl dX8_sits_6 ?_
    refine x_iload_n dX8_sits_9 rfl ?_
    refine x_rald (j := 15) (n := i) hR rfl (by decide) rfl rfl (rlt hR (m := 4) (by decide) rfl (by omega)) dX8_sits_10 ?_
    refine x_topi (y := nI ((sh i).2.1)) (by rw [hB 15 (by decide)]; exact ((hS i hi4).2 hne).2.1) ?_
    refine x_icmpN_ge (tgt := 69) dX8_sits_11 (by decide) (by omega) (by omega) (fun hv1 => ?_) (fun hv1 => ?_)
    · exact absurd hv1 (by omega)
    · refine x_aload_n dX8_sits_14 rfl ?_
      refine x_rget f_X8_72 hR rfl dX8_sits_15 ?_
      refine x_bipush (v := nI 40) dX8_sits_18 (by decide) ?_
      refine x_iload_n dX8_sits_20 rfl ?_
      refine x_imulN dX8_sits_21 ?_
      refine x_topi (y := nI (i * 40)) (by rw [Nat.mul_comm]) ?_
      refine x_iload_n dX8_sits_22 rfl ?_
      refine x_iaddN dX8_sits_23 ?_
      refine x_rald (j := 16) (n := (i * 40) + k) hR rfl (by decide) rfl rfl (rlt hR (m := 160) (by decide) rfl (by omega)) dX8_sits_24 ?_
      refine x_topi (y := ((sh i).2.2.getD k 0)) (by rw [hB 16 (by decide)]; exact ((hS i hi4).2 hne).2.2 _ (by omega)) ?_
      refine x_istore dX8_sits_25 (by decide) rfl ?_
      refine x_lv (lv' := [some (.ref 1000), some (.int (nI i)), some (.int (nI A)), some (.int (nI k)), some (.int (((sh i).2.2.getD k 0)))]) rfl ?_
      refine x_aload_n dX8_sits_27 rfl ?_
      refine x_iload dX8_sits_28 rfl ?_
      refine x_callV m_X8_isOne l_X8_89 (r_isOne hR hC0 rfl) rfl hR.2.1 (by omega) rfl rfl (Nat.le_of_ble_eq_true rfl) ⟨Nat.le_refl _, Nat.le_refl _⟩ dX8_sits_30 (fun r2 s2 q2 => ?_)
      obtain ⟨rfl, eq2⟩ := q2
      obtain rfl := eq2.symm
      refine x_stk (st' := [.int (bI (decide (0 ≤ (((sh i).2.2.getD k 0)).toInt ∧ (((sh i).2.2.getD k 0)).toInt < ((n : Nat) : Int))))]) rfl ?_
      refine x_ifP_eq (P := 0 ≤ (((sh i).2.2.getD k 0)).toInt ∧ (((sh i).2.2.getD k 0)).toInt < ((n : Nat) : Int)) inferInstance (tgt := 46) dX8_sits_33 (by decide) (fun hv3 => ?_) (fun hv3 => ?_)
      · have hno : tbS n (sh i).2.2 (sh i).2.1 = none := tbS_none (k := k + 1) (by omega) (by rw [tbS, hA]; simp only; rw [if_neg (fun z => hv3 z.1)])
        refine x_iconst (v := nI 0) dX8_sits_46 (by decide) ?_
        exact x_zret ⟨Nat.le_refl _, Nat.le_refl _⟩ rfl (by decide) dX8_sits_47 ⟨by rw [hno]; rfl, a, b, hR, FrR.rf, hB, fun z => by rw [hno] at z; cases z⟩
      · have hp9 : ((sh i).2.2.getD k 0) = nI ((sh i).2.2.getD k 0).toInt.toNat := ni_of hv3.1
        have hp7 : ((sh i).2.2.getD k 0).toInt.toNat < n := by have := hv3; omega
        rw [hp9]
        refine x_lv (lv' := [some (.ref 1000), some (.int (nI i)), some (.int (nI A)), some (.int (nI k)), some (.int (nI (((sh i).2.2.getD k 0).toInt.toNat)))]) rfl ?_
        refine x_iload_n dX8_sits_36 rfl ?_
        refine x_iload dX8_sits_37 rfl ?_
        refine x_ishr dX8_sits_39 ?_
        refine x_iconst (v := nI 1) dX8_sits_40 (by decide) ?_
        refine x_iand dX8_sits_41 ?_
        refine x_topi (y := nI ((A / 2 ^ ((sh i).2.2.getD k 0).toInt.toNat % 2))) (z_bit (by omega) (by omega)) ?_
        refine x_iconst (v := nI 1) dX8_sits_42 (by decide) ?_
        refine x_icmpN_ne (tgt := 48) dX8_sits_43 (by decide) (by omega) (by omega) (fun hv4 => ?_) (fun hv4 => ?_)
        · have hb0 : A.testBit ((sh i).2.2.getD k 0).toInt.toNat = false := by rw [tb_dm]; exact decide_eq_false hv4
          have hA9 : tbS n (sh i).2.2 (k + 1) = some (A ||| 2 ^ ((sh i).2.2.getD k 0).toInt.toNat) := by rw [tbS, hA]; simp only; rw [if_pos ⟨hv3, hb0⟩]
          have hk7 := (tbS_ok hn7 hA9).1
          refine x_iload_n dX8_sits_48 rfl ?_
          refine x_iconst (v := nI 1) dX8_sits_49 (by decide) ?_
          refine x_iload dX8_sits_50 rfl ?_
          refine x_ishl dX8_sits_52 ?_
          refine x_topi (y := nI (2 ^ ((sh i).2.2.getD k 0).toInt.toNat)) (z_shl1 (by omega)) ?_
          refine x_iorN dX8_sits_53 ?_
          refine x_istore_n dX8_sits_54 (by decide) rfl ?_
          refine x_lv (lv' := [some (.ref 1000), some (.int (nI i)), some (.int (nI (A ||| (2 ^ ((sh i).2.2.getD k 0).toInt.toNat)))), some (.int (nI k)), some (.int (nI (((sh i).2.2.getD k 0).toInt.toNat)))]) rfl ?_
          refine x_aload_n dX8_sits_55 rfl ?_
          refine x_rget f_X8_41 hR rfl dX8_sits_56 ?_
          refine x_iload_n dX8_sits_59 rfl ?_
          refine x_iload dX8_sits_60 rfl ?_
          refine x_rast (j := 7) (n := k) hR rfl (by decide) rfl rfl (rlt hR (m := 7) (by decide) rfl (by omega)) dX8_sits_62 (fun sw5 Rw5 => ?_)
          refine x_iincN dX8_sits_63 rfl (by decide) rfl ?_
          refine x_lv (lv' := [some (.ref 1000), some (.int (nI i)), some (.int (nI (A ||| (2 ^ ((sh i).2.2.getD k 0).toInt.toNat)))), some (.int (nI (k + 1))), some (.int (nI (((sh i).2.2.getD k 0).toInt.toNat)))]) rfl ?_
          refine x_goto (tgt := 4) dX8_sits_66 (by decide) ?_
          refine x_drop 4 ?_
          refine ih (k + 1) (up b 7 ((b 7).set k (nI (((sh i).2.2.getD k 0).toInt.toNat)))) sw5 _ Rw5 (hB.tr Fb.ups) hA9 (fun j hj => ?_) (by omega)
          rw [up_eq, gset (by rw [hR.rlen (j := 7) (by decide) (m := 7) rfl]; omega)]
          by_cases e : j = k
          · rw [if_pos e, e]; exact hp9.symm
          · rw [if_neg e]; exact hP j (by omega)
        · have hno : tbS n (sh i).2.2 (sh i).2.1 = none := tbS_none (k := k + 1) (by omega) (by rw [tbS, hA]; simp only; rw [if_neg (fun z => by have z2 := z.2; rw [tb_dm, decide_eq_false_iff_not] at z2; exact z2 hv4)])
          refine x_iconst (v := nI 0) dX8_sits_46 (by decide) ?_
          exact x_zret ⟨Nat.le_refl _, Nat.le_refl _⟩ rfl (by decide) dX8_sits_47 ⟨by rw [hno]; rfl, a, b, hR, FrR.rf, hB, fun z => by rw [hno] at z; cases z⟩
set_option maxHeartbeats 4000000 in
theorem r_sits {σ0 σ : ZS} {a : Nat → Int32} {tw : Int64} {b : Nat → List Int32} {rr n : Nat} {K N : List Nat} {W : List Int32} {D : List Nat} {fr : Int32} (hR : RM σ0 σ a tw b) (hC : RC a b rr n K N W D fr) {sh : Nat → SH} (hS : RSH b sh) {i : Nat} (hi4 : i < 4) (hne : ¬ (sh i).1 = -1) (hz40 : (sh i).2.1 ≤ 40) : Cn 2 M_X8_sits 0 0 [.ref 1000, .int (nI i)] σ (fun r9 σ' => r9 = some (.int (bI (tbS n (sh i).2.2 (sh i).2.1).isSome)) ∧ ∃ (a' : Nat → Int32) (b' : Nat → List Int32), RM σ0 σ' a' tw b' ∧ FrR a a' ∧ Fb 7 b b' ∧ ((tbS n (sh i).2.2 (sh i).2.1).isSome = true → a' 31 = nI (sh i).2.1 ∧ ∀ j, j < (sh i).2.1 → (b' 7).getD j 0 = (sh i).2.2.getD j 0)) := by
  refine Cn.intro (lv0 := [some (.ref 1000), some (.int (nI i)), none, none, none]) rfl (Nat.le_of_ble_eq_true rfl) rfl (fun d hd => ?_)
  refine x_iconst (v := nI 0) dX8_sits_0 (by decide) ?_
  refine x_istore_n dX8_sits_1 (by decide) rfl ?_
  refine x_lv (lv' := [some (.ref 1000), some (.int (nI i)), some (.int (nI 0)), none, none]) rfl ?_
  refine x_iconst (v := nI 0) dX8_sits_2 (by decide) ?_
  refine x_istore_n dX8_sits_3 (by decide) rfl ?_
  refine x_lv (lv' := [some (.ref 1000), some (.int (nI i)), some (.int (nI 0)), some (.int (nI 0)), none]) rfl ?_
  exact lr_sits hC hS hi4 hne hz40 hd (sh i).2.1 0 b σ 0 hR Fb.rf rfl (fun j hj => absurd hj (by omega)) (by omega)
