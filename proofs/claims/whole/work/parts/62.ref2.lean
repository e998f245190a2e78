theorem mustB_iff {k nu d : Nat} : mustB k nu d = true ↔ ((k = 1 ∧ 10 * nu < d) ∨ (k = 3 ∧ nu % 2 = 0 ∧ 10 * nu < d) ∨ (k = 4 ∧ 500 < d) ∨ (k = 5 ∧ d % 2 = 1) ∨ (k ≠ 1 ∧ k ≠ 2 ∧ k ≠ 3 ∧ k ≠ 4 ∧ k ≠ 5)) := by
  unfold mustB
  by_cases h1 : k = 1
  · rw [if_pos h1, decide_eq_true_iff]; omega
  rw [if_neg h1]
  by_cases h2 : k = 2
  · rw [if_pos h2]; constructor
    · intro h; cases h
    · omega
  rw [if_neg h2]
  by_cases h3 : k = 3
  · rw [if_pos h3, Bool.and_eq_true, beq_iff_eq, decide_eq_true_iff]; omega
  rw [if_neg h3]
  by_cases h4 : k = 4
  · rw [if_pos h4, decide_eq_true_iff]; omega
  rw [if_neg h4]
  by_cases h5 : k = 5
  · rw [if_pos h5, beq_iff_eq]; omega
  rw [if_neg h5]
  simp [h1, h2, h3, h4, h5]
def bsP (rr m a b : Nat) : Prop := (a = b + 1 ∨ b = a + 1) ∨ (rr = 1 ∧ (a = b + (m - 1) ∨ b = a + (m - 1)) ∧ a ≠ b)
def bsB (rr m a b : Nat) : Bool := decide ((a = b + 1 ∨ b = a + 1) ∨ (rr = 1 ∧ (a = b + (m - 1) ∨ b = a + (m - 1)) ∧ a ≠ b))
def hsB (rr m : Nat) (t : List Nat) (k w : Nat) : Nat → Bool
  | 0 => false
  | j + 1 => hsB rr m t k w j || (decide (t.getD j 0 = w) && bsB rr m k j)
/-- whether the one on seat k has whom they must have beside, as the reference looks for it -/
def rfB (rr m : Nat) (t : List Nat) (wl : List (Option Nat)) (k : Nat) : Bool := match wl.getD (t.getD k 0) none with
  | none => true
  | some w => hsB rr m t k w m
def setS (t : List Nat) : Nat → Nat
  | 0 => 0
  | k + 1 => setS t k ||| 2 ^ t.getD k 0
theorem setS_bit {t : List Nat} : ∀ {m k : Nat}, k < m → (setS t m).testBit (t.getD k 0) = true
  | 0, k, h => absurd h (by omega)
  | m + 1, k, h => by
    rw [setS, Nat.testBit_or]
    by_cases e : k = m
    · rw [e, Nat.testBit_two_pow_self, Bool.or_true]
    · rw [setS_bit (show k < m by omega), Bool.true_or]
theorem setS_lt {t : List Nat} (ht : T7 t) : ∀ m, setS t m < 128
  | 0 => by show 0 < 128; decide
  | m + 1 => by rw [setS]; exact or128 (setS_lt ht m) (ht.2 m)
theorem wl_seat {K N D : List Nat} {n : Nat} {fr : Int32} {t : List Nat} {m k : Nat} (ht : T7 t) (hk : k < m) : (wlS K N D n (setS t m) fr).getD (t.getD k 0) none = if ¬ ((t.getD k 0 : Nat) : Int) = fr.toInt then wishO K N D n (t.getD k 0) (setS t m) else none := by
  rw [wlS_get (ht.2 k), setS_bit hk]
  by_cases h : ((t.getD k 0 : Nat) : Int) = fr.toInt
  · rw [if_neg (fun q => q.2 h), if_neg (fun q => q h)]
  · rw [if_pos ⟨rfl, h⟩, if_pos h]
set_option maxHeartbeats 4000000 in
theorem r_must {σ0 σ : ZS} {a : Nat → Int32} {tw : Int64} {b : Nat → List Int32} {rr n : Nat} {K N : List Nat} {W : List Int32} {D : List Nat} {fr : Int32} (hR : RM σ0 σ a tw b) (hC : RC a b rr n K N W D fr) {p c : Nat} (hp : p < n) (hc : c < 7) : Cn 0 M_X8_must 0 0 [.ref 1000, .int (nI p), .int (nI c)] σ (fun r9 σ' => r9 = some (.int (bI (decide (¬ ((p : Nat) : Int) = fr.toInt ∧ mustB (K.getD p 0) (N.getD p 0) (D.getD (p * 7 + c) 0) = true)))) ∧ σ' = σ) := by
  obtain ⟨c7, hrr, c13, hn7, c14, cK, cN, cW, cD, hN7, hW7, hD49, hK5, hN9, hD999⟩ := id hC
  refine Cn.intro (lv0 := [some (.ref 1000), some (.int (nI p)), some (.int (nI c)), none, none]) rfl (Nat.le_of_ble_eq_true rfl) rfl (fun d hd => ?_)
  refine x_iload_n dX8_must_0 rfl ?_
  refine x_iconst (v := (-1)) dX8_must_1 (by decide) ?_
  refine x_icmpT_eq (p := ((c : Nat) : Int)) (q := (-1)) (tgt := 13) (nI_toInt (by omega)) (by decide) dX8_must_2 (by decide) (fun hv1 => ?_) (fun hv1 => ?_)
  · exact absurd hv1 (by omega)
  · refine x_iload_n dX8_must_5 rfl ?_
    refine x_aload_n dX8_must_6 rfl ?_
    refine x_rget (v := .int fr) f_X8_38 hR (rg c14) dX8_must_7 ?_
    refine x_icmpT_ne (p := ((p : Nat) : Int)) (q := (fr).toInt) (tgt := 15) (nI_toInt (by omega)) rfl dX8_must_10 (by decide) (fun hv2 => ?_) (fun hv2 => ?_)
    · refine x_aload_n dX8_must_15 rfl ?_
      refine x_rget f_X8_26 hR rfl dX8_must_16 ?_
      refine x_iload_n dX8_must_19 rfl ?_
      refine x_rald (j := 3) (n := p) hR rfl (by decide) rfl rfl (rlt hR (m := 7) (by decide) rfl (by omega)) dX8_must_20 ?_
      refine x_topi (y := nI ((K.getD p 0))) (cK _ (by omega)) ?_
      have hk5 := hK5 p
      have hn9 := hN9 p
      have hd9 := hD999 (p * 7 + c)
      refine x_istore_n dX8_must_21 (by decide) rfl ?_
      refine x_lv (lv' := [some (.ref 1000), some (.int (nI p)), some (.int (nI c)), some (.int (nI ((K.getD p 0)))), none]) rfl ?_
      refine x_aload_n dX8_must_22 rfl ?_
      refine x_rget f_X8_35 hR rfl dX8_must_23 ?_
      refine x_bipush (v := nI 7) dX8_must_26 (by decide) ?_
      refine x_iload_n dX8_must_28 rfl ?_
      refine x_imulN dX8_must_29 ?_
      refine x_topi (y := nI (p * 7)) (by rw [Nat.mul_comm]) ?_
      refine x_iload_n dX8_must_30 rfl ?_
      refine x_iaddN dX8_must_31 ?_
      refine x_rald (j := 6) (n := (p * 7) + c) hR rfl (by decide) rfl rfl (rlt hR (m := 49) (by decide) rfl (by omega)) dX8_must_32 ?_
      refine x_topi (y := nI ((D.getD ((p * 7) + c) 0))) (rgN cD) ?_
      refine x_istore dX8_must_33 (by decide) rfl ?_
      refine x_lv (lv' := [some (.ref 1000), some (.int (nI p)), some (.int (nI c)), some (.int (nI ((K.getD p 0)))), some (.int (nI ((D.getD ((p * 7) + c) 0))))]) rfl ?_
      refine x_iload_n dX8_must_35 rfl ?_
      refine x_iconst (v := nI 1) dX8_must_36 (by decide) ?_
      refine x_icmpN_eq (tgt := 45) dX8_must_37 (by decide) (by omega) (by omega) (fun hv3 => ?_) (fun hv3 => ?_)
      · refine x_iload dX8_must_45 rfl ?_
        refine x_bipush (v := nI 10) dX8_must_47 (by decide) ?_
        refine x_aload_n dX8_must_49 rfl ?_
        refine x_rget f_X8_29 hR rfl dX8_must_50 ?_
        refine x_iload_n dX8_must_53 rfl ?_
        refine x_rald (j := 4) (n := p) hR rfl (by decide) rfl rfl (rlt hR (m := 7) (by decide) rfl (by omega)) dX8_must_54 ?_
        refine x_topi (y := nI ((N.getD p 0))) (rgN cN) ?_
        refine x_imulN dX8_must_55 ?_
        refine x_topi (y := nI (((N.getD p 0)) * 10)) (by rw [Nat.mul_comm]) ?_
        refine x_icmpN_le (tgt := 79) dX8_must_56 (by decide) (by omega) (by omega) (fun hv4 => ?_) (fun hv4 => ?_)
        · refine x_iconst (v := nI 0) dX8_must_79 (by decide) ?_
          exact x_zret ⟨Nat.le_refl _, Nat.le_refl _⟩ rfl (by decide) dX8_must_80 ⟨by rw [bI_0 (by rw [mustB_iff]; omega)], rfl⟩
        · refine x_iload_n dX8_must_59 rfl ?_
          refine x_iconst (v := nI 1) dX8_must_60 (by decide) ?_
          refine x_icmpN_eq (tgt := 75) dX8_must_61 (by decide) (by omega) (by omega) (fun hv5 => ?_) (fun hv5 => ?_)
          · refine x_iconst (v := nI 1) dX8_must_75 (by decide) ?_
            refine x_goto (tgt := 80) dX8_must_76 (by decide) ?_
            exact x_zret ⟨Nat.le_refl _, Nat.le_refl _⟩ rfl (by decide) dX8_must_80 ⟨by rw [bI_1 (by rw [mustB_iff]; omega)], rfl⟩
          · refine x_aload_n dX8_must_64 rfl ?_
            refine x_rget f_X8_29 hR rfl dX8_must_65 ?_
            refine x_iload_n dX8_must_68 rfl ?_
            refine x_rald (j := 4) (n := p) hR rfl (by decide) rfl rfl (rlt hR (m := 7) (by decide) rfl (by omega)) dX8_must_69 ?_
            refine x_topi (y := nI ((N.getD p 0))) (rgN cN) ?_
            refine x_iconst (v := nI 2) dX8_must_70 (by decide) ?_
            refine x_iremN (by omega) (by omega) (by omega) dX8_must_71 ?_
            refine x_ifN_ne (tgt := 79) dX8_must_72 (by decide) (by omega) (fun hv6 => ?_) (fun hv6 => ?_)
            · refine x_iconst (v := nI 0) dX8_must_79 (by decide) ?_
              exact x_zret ⟨Nat.le_refl _, Nat.le_refl _⟩ rfl (by decide) dX8_must_80 ⟨by rw [bI_0 (by rw [mustB_iff]; omega)], rfl⟩
            · refine x_iconst (v := nI 1) dX8_must_75 (by decide) ?_
              refine x_goto (tgt := 80) dX8_must_76 (by decide) ?_
              exact x_zret ⟨Nat.le_refl _, Nat.le_refl _⟩ rfl (by decide) dX8_must_80 ⟨by rw [bI_1 (by rw [mustB_iff]; omega)], rfl⟩
      · refine x_iload_n dX8_must_40 rfl ?_
        refine x_iconst (v := nI 3) dX8_must_41 (by decide) ?_
        refine x_icmpN_ne (tgt := 81) dX8_must_42 (by decide) (by omega) (by omega) (fun hv7 => ?_) (fun hv7 => ?_)
        · refine x_iload_n dX8_must_81 rfl ?_
          refine x_ifN_eq (tgt := 114) dX8_must_82 (by decide) (by omega) (fun hv8 => ?_) (fun hv8 => ?_)
          · refine x_iconst (v := nI 1) dX8_must_114 (by decide) ?_
            refine x_goto (tgt := 119) dX8_must_115 (by decide) ?_
            exact x_zret ⟨Nat.le_refl _, Nat.le_refl _⟩ rfl (by decide) dX8_must_119 ⟨by rw [bI_1 (by rw [mustB_iff]; omega)], rfl⟩
          · refine x_iload_n dX8_must_85 rfl ?_
            refine x_iconst (v := nI 4) dX8_must_86 (by decide) ?_
            refine x_icmpN_ne (tgt := 101) dX8_must_87 (by decide) (by omega) (by omega) (fun hv9 => ?_) (fun hv9 => ?_)
            · refine x_iload_n dX8_must_101 rfl ?_
              refine x_iconst (v := nI 5) dX8_must_102 (by decide) ?_
              refine x_icmpN_ne (tgt := 118) dX8_must_103 (by decide) (by omega) (by omega) (fun hv10 => ?_) (fun hv10 => ?_)
              · refine x_iconst (v := nI 0) dX8_must_118 (by decide) ?_
                exact x_zret ⟨Nat.le_refl _, Nat.le_refl _⟩ rfl (by decide) dX8_must_119 ⟨by rw [bI_0 (by rw [mustB_iff]; omega)], rfl⟩
              · refine x_iload dX8_must_106 rfl ?_
                refine x_iconst (v := nI 2) dX8_must_108 (by decide) ?_
                refine x_iremN (by omega) (by omega) (by omega) dX8_must_109 ?_
                refine x_iconst (v := nI 1) dX8_must_110 (by decide) ?_
                refine x_icmpN_ne (tgt := 118) dX8_must_111 (by decide) (by omega) (by omega) (fun hv11 => ?_) (fun hv11 => ?_)
                · refine x_iconst (v := nI 0) dX8_must_118 (by decide) ?_
                  exact x_zret ⟨Nat.le_refl _, Nat.le_refl _⟩ rfl (by decide) dX8_must_119 ⟨by rw [bI_0 (by rw [mustB_iff]; omega)], rfl⟩
                · refine x_iconst (v := nI 1) dX8_must_114 (by decide) ?_
                  refine x_goto (tgt := 119) dX8_must_115 (by decide) ?_
                  exact x_zret ⟨Nat.le_refl _, Nat.le_refl _⟩ rfl (by decide) dX8_must_119 ⟨by rw [bI_1 (by rw [mustB_iff]; omega)], rfl⟩
            · refine x_iload dX8_must_90 rfl ?_
              refine x_sipush (v := nI 500) dX8_must_92 (by decide) ?_
              refine x_icmpN_le (tgt := 118) dX8_must_95 (by decide) (by omega) (by omega) (fun hv12 => ?_) (fun hv12 => ?_)
              · refine x_iconst (v := nI 0) dX8_must_118 (by decide) ?_
                exact x_zret ⟨Nat.le_refl _, Nat.le_refl _⟩ rfl (by decide) dX8_must_119 ⟨by rw [bI_0 (by rw [mustB_iff]; omega)], rfl⟩
              · refine x_goto (tgt := 114) dX8_must_98 (by decide) ?_
                refine x_iconst (v := nI 1) dX8_must_114 (by decide) ?_
                refine x_goto (tgt := 119) dX8_must_115 (by decide) ?_
                exact x_zret ⟨Nat.le_refl _, Nat.le_refl _⟩ rfl (by decide) dX8_must_119 ⟨by rw [bI_1 (by rw [mustB_iff]; omega)], rfl⟩
        · refine x_iload dX8_must_45 rfl ?_
          refine x_bipush (v := nI 10) dX8_must_47 (by decide) ?_
          refine x_aload_n dX8_must_49 rfl ?_
          refine x_rget f_X8_29 hR rfl dX8_must_50 ?_
          refine x_iload_n dX8_must_53 rfl ?_
          refine x_rald (j := 4) (n := p) hR rfl (by decide) rfl rfl (rlt hR (m := 7) (by decide) rfl (by omega)) dX8_must_54 ?_
          refine x_topi (y := nI ((N.getD p 0))) (rgN cN) ?_
          refine x_imulN dX8_must_55 ?_
          refine x_topi (y := nI (((N.getD p 0)) * 10)) (by rw [Nat.mul_comm]) ?_
          refine x_icmpN_le (tgt := 79) dX8_must_56 (by decide) (by omega) (by omega) (fun hv13 => ?_) (fun hv13 => ?_)
          · refine x_iconst (v := nI 0) dX8_must_79 (by decide) ?_
            exact x_zret ⟨Nat.le_refl _, Nat.le_refl _⟩ rfl (by decide) dX8_must_80 ⟨by rw [bI_0 (by rw [mustB_iff]; omega)], rfl⟩
          · refine x_iload_n dX8_must_59 rfl ?_
            refine x_iconst (v := nI 1) dX8_must_60 (by decide) ?_
            refine x_icmpN_eq (tgt := 75) dX8_must_61 (by decide) (by omega) (by omega) (fun hv14 => ?_) (fun hv14 => ?_)
            · refine x_iconst (v := nI 1) dX8_must_75 (by decide) ?_
              refine x_goto (tgt := 80) dX8_must_76 (by decide) ?_
              exact x_zret ⟨Nat.le_refl _, Nat.le_refl _⟩ rfl (by decide) dX8_must_80 ⟨by rw [bI_1 (by rw [mustB_iff]; omega)], rfl⟩
            · refine x_aload_n dX8_must_64 rfl ?_
              refine x_rget f_X8_29 hR rfl dX8_must_65 ?_
              refine x_iload_n dX8_must_68 rfl ?_
              refine x_rald (j := 4) (n := p) hR rfl (by decide) rfl rfl (rlt hR (m := 7) (by decide) rfl (by omega)) dX8_must_69 ?_
              refine x_topi (y := nI ((N.getD p 0))) (rgN cN) ?_
              refine x_iconst (v := nI 2) dX8_must_70 (by decide) ?_
              refine x_iremN (by omega) (by omega) (by omega) dX8_must_71 ?_
              refine x_ifN_ne (tgt := 79) dX8_must_72 (by decide) (by omega) (fun hv15 => ?_) (fun hv15 => ?_)
              · refine x_iconst (v := nI 0) dX8_must_79 (by decide) ?_
                exact x_zret ⟨Nat.le_refl _, Nat.le_refl _⟩ rfl (by decide) dX8_must_80 ⟨by rw [bI_0 (by rw [mustB_iff]; omega)], rfl⟩
              · refine x_iconst (v := nI 1) dX8_must_75 (by decide) ?_
                refine x_goto (tgt := 80) dX8_must_76 (by decide) ?_
                exact x_zret ⟨Nat.le_refl _, Nat.le_refl _⟩ rfl (by decide) dX8_must_80 ⟨by rw [bI_1 (by rw [mustB_iff]; omega)], rfl⟩
    · refine x_iconst (v := nI 0) dX8_must_13 (by decide) ?_
      exact x_zret ⟨Nat.le_refl _, Nat.le_refl _⟩ rfl (by decide) dX8_must_14 ⟨by rw [bI_0 (by rw [mustB_iff]; omega)], rfl⟩
set_option maxHeartbeats 4000000 in
theorem r_must0 {σ0 σ : ZS} {a : Nat → Int32} {tw : Int64} {b : Nat → List Int32} {rr n : Nat} {K N : List Nat} {W : List Int32} {D : List Nat} {fr : Int32} (hR : RM σ0 σ a tw b) (hC : RC a b rr n K N W D fr) {p : Nat} (hp : p < n) : Cn 0 M_X8_must 0 0 [.ref 1000, .int (nI p), .int ((-1))] σ (fun r9 σ' => r9 = some (.int (nI 0)) ∧ σ' = σ) := by
  obtain ⟨c7, hrr, c13, hn7, c14, cK, cN, cW, cD, hN7, hW7, hD49, hK5, hN9, hD999⟩ := id hC
  refine Cn.intro (lv0 := [some (.ref 1000), some (.int (nI p)), some (.int ((-1))), none, none]) rfl (Nat.le_of_ble_eq_true rfl) rfl (fun d hd => ?_)
  refine x_iload_n dX8_must_0 rfl ?_
  refine x_iconst (v := (-1)) dX8_must_1 (by decide) ?_
  refine x_icmpT_eq (p := (-1)) (q := (-1)) (tgt := 13) (by decide) (by decide) dX8_must_2 (by decide) (fun hv1 => ?_) (fun hv1 => ?_)
  · refine x_iconst (v := nI 0) dX8_must_13 (by decide) ?_
    exact x_zret ⟨Nat.le_refl _, Nat.le_refl _⟩ rfl (by decide) dX8_must_14 ⟨rfl, rfl⟩
  · exact absurd rfl hv1
set_option maxHeartbeats 4000000 in
theorem r_beside {σ0 σ : ZS} {a : Nat → Int32} {tw : Int64} {b : Nat → List Int32} {rr n : Nat} {K N : List Nat} {W : List Int32} {D : List Nat} {fr : Int32} (hR : RM σ0 σ a tw b) (hC : RC a b rr n K N W D fr) {m x y : Nat} (c31 : a 31 = nI m) (hm : m ≤ 7) (hx : x < m) (hy : y < m) : Cn 0 M_X8_beside 0 0 [.ref 1000, .int (nI x), .int (nI y)] σ (fun r9 σ' => r9 = some (.int (bI (bsB rr m x y))) ∧ σ' = σ) := by
  obtain ⟨c7, hrr, c13, hn7, c14, cK, cN, cW, cD, hN7, hW7, hD49, hK5, hN9, hD999⟩ := id hC
  refine Cn.intro (lv0 := [some (.ref 1000), some (.int (nI x)), some (.int (nI y)), none]) rfl (Nat.le_of_ble_eq_true rfl) rfl (fun d hd => ?_)
  refine x_iload_n dX8_beside_0 rfl ?_
  refine x_iload_n dX8_beside_1 rfl ?_
  refine x_icmpN_le (tgt := 11) dX8_beside_2 (by decide) (by omega) (by omega) (fun hv1 => ?_) (fun hv1 => ?_)
  · refine x_iload_n dX8_beside_11 rfl ?_
    refine x_iload_n dX8_beside_12 rfl ?_
    refine x_isubN (by omega) dX8_beside_13 ?_
    refine x_istore_n dX8_beside_14 (by decide) rfl ?_
    refine x_lv (lv' := [some (.ref 1000), some (.int (nI x)), some (.int (nI y)), some (.int (nI (y - x)))]) rfl ?_
    refine x_iload_n dX8_beside_15 rfl ?_
    refine x_iconst (v := nI 1) dX8_beside_16 (by decide) ?_
    refine x_icmpN_eq (tgt := 42) dX8_beside_17 (by decide) (by omega) (by omega) (fun hv2 => ?_) (fun hv2 => ?_)
    · refine x_iconst (v := nI 1) dX8_beside_42 (by decide) ?_
      refine x_goto (tgt := 47) dX8_beside_43 (by decide) ?_
      exact x_zret ⟨Nat.le_refl _, Nat.le_refl _⟩ rfl (by decide) dX8_beside_47 ⟨by rw [bsB, bI_1 (by omega)], rfl⟩
    · refine x_aload_n dX8_beside_20 rfl ?_
      refine x_rget (v := .int (nI rr)) f_X8_23 hR (rg c7) dX8_beside_21 ?_
      refine x_iconst (v := nI 1) dX8_beside_24 (by decide) ?_
      refine x_icmpN_ne (tgt := 46) dX8_beside_25 (by decide) (by omega) (by omega) (fun hv3 => ?_) (fun hv3 => ?_)
      · refine x_iconst (v := nI 0) dX8_beside_46 (by decide) ?_
        exact x_zret ⟨Nat.le_refl _, Nat.le_refl _⟩ rfl (by decide) dX8_beside_47 ⟨by rw [bsB, bI_0 (by omega)], rfl⟩
      · refine x_iload_n dX8_beside_28 rfl ?_
        refine x_aload_n dX8_beside_29 rfl ?_
        refine x_rget (v := .int (nI m)) f_X8_255 hR (rg c31) dX8_beside_30 ?_
        refine x_iconst (v := nI 1) dX8_beside_33 (by decide) ?_
        refine x_isubN (by omega) dX8_beside_34 ?_
        refine x_icmpN_ne (tgt := 46) dX8_beside_35 (by decide) (by omega) (by omega) (fun hv4 => ?_) (fun hv4 => ?_)
        · refine x_iconst (v := nI 0) dX8_beside_46 (by decide) ?_
          exact x_zret ⟨Nat.le_refl _, Nat.le_refl _⟩ rfl (by decide) dX8_beside_47 ⟨by rw [bsB, bI_0 (by omega)], rfl⟩
        · refine x_iload_n dX8_beside_38 rfl ?_
          refine x_ifN_le (tgt := 46) dX8_beside_39 (by decide) (by omega) (fun hv5 => ?_) (fun hv5 => ?_)
          · refine x_iconst (v := nI 0) dX8_beside_46 (by decide) ?_
            exact x_zret ⟨Nat.le_refl _, Nat.le_refl _⟩ rfl (by decide) dX8_beside_47 ⟨by rw [bsB, bI_0 (by omega)], rfl⟩
          · refine x_iconst (v := nI 1) dX8_beside_42 (by decide) ?_
            refine x_goto (tgt := 47) dX8_beside_43 (by decide) ?_
            exact x_zret ⟨Nat.le_refl _, Nat.le_refl _⟩ rfl (by decide) dX8_beside_47 ⟨by rw [bsB, bI_1 (by omega)], rfl⟩
  · refine x_iload_n dX8_beside_5 rfl ?_
    refine x_iload_n dX8_beside_6 rfl ?_
    refine x_isubN (by omega) dX8_beside_7 ?_
    refine x_goto (tgt := 14) dX8_beside_8 (by decide) ?_
    refine x_istore_n dX8_beside_14 (by decide) rfl ?_
    refine x_lv (lv' := [some (.ref 1000), some (.int (nI x)), some (.int (nI y)), some (.int (nI (x - y)))]) rfl ?_
    refine x_iload_n dX8_beside_15 rfl ?_
    refine x_iconst (v := nI 1) dX8_beside_16 (by decide) ?_
    refine x_icmpN_eq (tgt := 42) dX8_beside_17 (by decide) (by omega) (by omega) (fun hv6 => ?_) (fun hv6 => ?_)
    · refine x_iconst (v := nI 1) dX8_beside_42 (by decide) ?_
      refine x_goto (tgt := 47) dX8_beside_43 (by decide) ?_
      exact x_zret ⟨Nat.le_refl _, Nat.le_refl _⟩ rfl (by decide) dX8_beside_47 ⟨by rw [bsB, bI_1 (by omega)], rfl⟩
    · refine x_aload_n dX8_beside_20 rfl ?_
      refine x_rget (v := .int (nI rr)) f_X8_23 hR (rg c7) dX8_beside_21 ?_
      refine x_iconst (v := nI 1) dX8_beside_24 (by decide) ?_
      refine x_icmpN_ne (tgt := 46) dX8_beside_25 (by decide) (by omega) (by omega) (fun hv7 => ?_) (fun hv7 => ?_)
      · refine x_iconst (v := nI 0) dX8_beside_46 (by decide) ?_
        exact x_zret ⟨Nat.le_refl _, Nat.le_refl _⟩ rfl (by decide) dX8_beside_47 ⟨by rw [bsB, bI_0 (by omega)], rfl⟩
      · refine x_iload_n dX8_beside_28 rfl ?_
        refine x_aload_n dX8_beside_29 rfl ?_
        refine x_rget (v := .int (nI m)) f_X8_255 hR (rg c31) dX8_beside_30 ?_
        refine x_iconst (v := nI 1) dX8_beside_33 (by decide) ?_
        refine x_isubN (by omega) dX8_beside_34 ?_
        refine x_icmpN_ne (tgt := 46) dX8_beside_35 (by decide) (by omega) (by omega) (fun hv8 => ?_) (fun hv8 => ?_)
        · refine x_iconst (v := nI 0) dX8_beside_46 (by decide) ?_
          exact x_zret ⟨Nat.le_refl _, Nat.le_refl _⟩ rfl (by decide) dX8_beside_47 ⟨by rw [bsB, bI_0 (by omega)], rfl⟩
        · refine x_iload_n dX8_beside_38 rfl ?_
          refine x_ifN_le (tgt := 46) dX8_beside_39 (by decide) (by omega) (fun hv9 => ?_) (fun hv9 => ?_)
          · refine x_iconst (v := nI 0) dX8_beside_46 (by decide) ?_
            exact x_zret ⟨Nat.le_refl _, Nat.le_refl _⟩ rfl (by decide) dX8_beside_47 ⟨by rw [bsB, bI_0 (by omega)], rfl⟩
          · refine x_iconst (v := nI 1) dX8_beside_42 (by decide) ?_
            refine x_goto (tgt := 47) dX8_beside_43 (by decide) ?_
            exact x_zret ⟨Nat.le_refl _, Nat.le_refl _⟩ rfl (by decide) dX8_beside_47 ⟨by rw [bsB, bI_1 (by omega)], rfl⟩
set_option maxHeartbeats 4000000 in
theorem lr_set {σ0 σ : ZS} {a : Nat → Int32} {tw : Int64} {b : Nat → List Int32} {rr n : Nat} {K N : List Nat} {W : List Int32} {D : List Nat} {fr : Int32} (hR : RM σ0 σ a tw b) (hC : RC a b rr n K N W D fr) {m : Nat} {t : List Nat} (c31 : a 31 = nI m) (hm : m ≤ 7) (cT : ∀ i, i < m → (b 7).getD i 0 = nI (t.getD i 0)) (ht : T7 t) {d : Nat} (hd : 0 ≤ d) : ∀ (q k : Nat), k + q = m → X M_X8_seatedSet d 0 0 (fun r9 σ' => r9 = some (.int (nI (setS t m))) ∧ σ' = σ) 0 0 4 [some (.ref 1000), some (.int (nI ((setS t k)))), some (.int (nI k))] [] σ := by
  obtain ⟨c7, hrr, c13, hn7, c14, cK, cN, cW, cD, hN7, hW7, hD49, hK5, hN9, hD999⟩ := id hC
  obtain ⟨ht7, htb⟩ := id ht
  intro q
  induction q with
  | zero =>
    intro k hk
    refine x_iload_n dX8_seatedSet_4 rfl ?_
    refine x_aload_n dX8_seatedSet_5 rfl ?_
    refine x_rget (v := .int (nI m)) f_X8_255 hR (rg c31) dX8_seatedSet_6 ?_
    refine x_icmpN_ge (tgt := 29) dX8_seatedSet_9 (by decide) (by omega) (by omega) (fun hv1 => ?_) (fun hv1 => ?_)
    · refine x_iload_n dX8_seatedSet_29 rfl ?_
      exact x_iret ⟨Nat.le_refl _, Nat.le_refl _⟩ rfl dX8_seatedSet_30 ⟨by rw [show k = m by omega], rfl⟩
    · exact absurd hv1 (by omega)
  | succ q ih =>
    intro k hk
    refine x_iload_n dX8_seatedSet_4 rfl ?_
    refine x_aload_n dX8_seatedSet_5 rfl ?_
    refine x_rget (v := .int (nI m)) f_X8_255 hR (rg c31) dX8_seatedSet_6 ?_
    refine x_icmpN_ge (tgt := 29) dX8_seatedSet_9 (by decide) (by omega) (by omega) (fun hv1 => ?_) (fun hv1 => ?_)
    · exact absurd hv1 (by omega)
    · refine x_iload_n dX8_seatedSet_12 rfl ?_
      refine x_iconst (v := nI 1) dX8_seatedSet_13 (by decide) ?_
      refine x_aload_n dX8_seatedSet_14 rfl ?_
      refine x_rget f_X8_41 hR rfl dX8_seatedSet_15 ?_
      refine x_iload_n dX8_seatedSet_18 rfl ?_
      refine x_rald (j := 7) (n := k) hR rfl (by decide) rfl rfl (rlt hR (m := 7) (by decide) rfl (by omega)) dX8_seatedSet_19 ?_
      refine x_topi (y := nI ((t.getD k 0))) (cT _ (by omega)) ?_
      have htk := htb k
      refine x_ishl dX8_seatedSet_20 ?_
      refine x_topi (y := nI (2 ^ (t.getD k 0))) (z_shl1 (by omega)) ?_
      refine x_iorN dX8_seatedSet_21 ?_
      refine x_istore_n dX8_seatedSet_22 (by decide) rfl ?_
      refine x_lv (lv' := [some (.ref 1000), some (.int (nI (((setS t k)) ||| (2 ^ (t.getD k 0))))), some (.int (nI k))]) rfl ?_
      refine x_iincN dX8_seatedSet_23 rfl (by decide) rfl ?_
      refine x_lv (lv' := [some (.ref 1000), some (.int (nI (((setS t k)) ||| (2 ^ (t.getD k 0))))), some (.int (nI (k + 1)))]) rfl ?_
      refine x_goto (tgt := 4) dX8_seatedSet_26 (by decide) ?_
      exact ih (k + 1) (by omega)
set_option maxHeartbeats 4000000 in
theorem r_seatedSet {σ0 σ : ZS} {a : Nat → Int32} {tw : Int64} {b : Nat → List Int32} {rr n : Nat} {K N : List Nat} {W : List Int32} {D : List Nat} {fr : Int32} (hR : RM σ0 σ a tw b) (hC : RC a b rr n K N W D fr) {m : Nat} {t : List Nat} (c31 : a 31 = nI m) (hm : m ≤ 7) (cT : ∀ i, i < m → (b 7).getD i 0 = nI (t.getD i 0)) (ht : T7 t) : Cn 0 M_X8_seatedSet 0 0 [.ref 1000] σ (fun r9 σ' => r9 = some (.int (nI (setS t m))) ∧ σ' = σ) := by
  obtain ⟨c7, hrr, c13, hn7, c14, cK, cN, cW, cD, hN7, hW7, hD49, hK5, hN9, hD999⟩ := id hC
  obtain ⟨ht7, htb⟩ := id ht
  refine Cn.intro (lv0 := [some (.ref 1000), none, none]) rfl (Nat.le_of_ble_eq_true rfl) rfl (fun d hd => ?_)
  refine x_iconst (v := nI 0) dX8_seatedSet_0 (by decide) ?_
  refine x_istore_n dX8_seatedSet_1 (by decide) rfl ?_
  refine x_lv (lv' := [some (.ref 1000), some (.int (nI 0)), none]) rfl ?_
  refine x_iconst (v := nI 0) dX8_seatedSet_2 (by decide) ?_
  refine x_istore_n dX8_seatedSet_3 (by decide) rfl ?_
  refine x_lv (lv' := [some (.ref 1000), some (.int (nI 0)), some (.int (nI 0))]) rfl ?_
  exact lr_set hR hC c31 hm cT ht hd m 0 (by omega)
set_option maxHeartbeats 4000000 in
theorem lr_has {Q : Option Value → ZS → Prop} {σ0 σ : ZS} {a : Nat → Int32} {tw : Int64} {b : Nat → List Int32} {rr n : Nat} {K N : List Nat} {W : List Int32} {D : List Nat} {fr : Int32} (hR : RM σ0 σ a tw b) (hC : RC a b rr n K N W D fr) {m : Nat} {t : List Nat} (c31 : a 31 = nI m) (hm : m ≤ 7) (cT : ∀ i, i < m → (b 7).getD i 0 = nI (t.getD i 0)) (ht : T7 t) (hTn : ∀ i, i < m → t.getD i 0 < n) {k c : Nat} (hk : k < m) (hc : c < 7) {d : Nat} (hd : 1 ≤ d) (hout : X M_X8_unlawful d 0 0 Q 0 0 95 [some (.ref 1000), some (.int (nI ((setS t m)))), some (.int (nI k)), some (.int (nI c)), some (.int (bI ((hsB rr m t k c m)))), some (.int (nI m))] [] σ) : ∀ (q j : Nat), j + q = m → X M_X8_unlawful d 0 0 (Q) 0 0 47 [some (.ref 1000), some (.int (nI ((setS t m)))), some (.int (nI k)), some (.int (nI c)), some (.int (bI ((hsB rr m t k c j)))), some (.int (nI j))] [] σ := by
  obtain ⟨c7, hrr, c13, hn7, c14, cK, cN, cW, cD, hN7, hW7, hD49, hK5, hN9, hD999⟩ := id hC
  obtain ⟨ht7, htb⟩ := id ht
  intro q
  induction q with
  | zero =>
    intro j hjk
    refine x_iload dX8_unlawful_47 rfl ?_
    refine x_aload_n dX8_unlawful_49 rfl ?_
    refine x_rget (v := .int (nI m)) f_X8_255 hR (rg c31) dX8_unlawful_50 ?_
    refine x_icmpN_ge (tgt := 95) dX8_unlawful_53 (by decide) (by omega) (by omega) (fun hv1 => ?_) (fun hv1 => ?_)
    · rw [show j = m by omega]
      exact hout
    · exact absurd hv1 (by omega)
  | succ q ih =>
    intro j hjk
    refine x_iload dX8_unlawful_47 rfl ?_
    refine x_aload_n dX8_unlawful_49 rfl ?_
    refine x_rget (v := .int (nI m)) f_X8_255 hR (rg c31) dX8_unlawful_50 ?_
    refine x_icmpN_ge (tgt := 95) dX8_unlawful_53 (by decide) (by omega) (by omega) (fun hv1 => ?_) (fun hv1 => ?_)
    · exact absurd hv1 (by omega)
    · refine x_iload dX8_unlawful_56 rfl ?_
      refine x_ifB_ne (tgt := 82) dX8_unlawful_58 (by decide) (fun hv2 => ?_) (fun hv2 => ?_)
      · refine x_iconst (v := nI 1) dX8_unlawful_82 (by decide) ?_
        refine x_goto (tgt := 87) dX8_unlawful_83 (by decide) ?_
        refine x_istore dX8_unlawful_87 (by decide) rfl ?_
        refine x_lv (lv' := [some (.ref 1000), some (.int (nI ((setS t m)))), some (.int (nI k)), some (.int (nI c)), some (.int (nI 1)), some (.int (nI j))]) rfl ?_
        refine x_iincN dX8_unlawful_89 rfl (by decide) rfl ?_
        refine x_lv (lv' := [some (.ref 1000), some (.int (nI ((setS t m)))), some (.int (nI k)), some (.int (nI c)), some (.int (nI 1)), some (.int (nI (j + 1)))]) rfl ?_
        refine x_goto (tgt := 47) dX8_unlawful_92 (by decide) ?_
        have e : hsB rr m t k c (j + 1) = true := by rw [hsB, hv2]; rfl
        refine x_lv (lv' := [some (.ref 1000), some (.int (nI ((setS t m)))), some (.int (nI k)), some (.int (nI c)), some (.int (bI ((hsB rr m t k c (j + 1))))), some (.int (nI (j + 1)))]) (by rw [e, bI_t]) ?_
        exact ih (j + 1) (by omega)
      · refine x_aload_n dX8_unlawful_61 rfl ?_
        refine x_rget f_X8_41 hR rfl dX8_unlawful_62 ?_
        refine x_iload dX8_unlawful_65 rfl ?_
        refine x_rald (j := 7) (n := j) hR rfl (by decide) rfl rfl (rlt hR (m := 7) (by decide) rfl (by omega)) dX8_unlawful_67 ?_
        refine x_topi (y := nI ((t.getD j 0))) (cT _ (by omega)) ?_
        have htj := htb j
        refine x_iload_n dX8_unlawful_68 rfl ?_
        refine x_icmpN_ne (tgt := 86) dX8_unlawful_69 (by decide) (by omega) (by omega) (fun hv3 => ?_) (fun hv3 => ?_)
        · refine x_iconst (v := nI 0) dX8_unlawful_86 (by decide) ?_
          refine x_istore dX8_unlawful_87 (by decide) rfl ?_
          refine x_lv (lv' := [some (.ref 1000), some (.int (nI ((setS t m)))), some (.int (nI k)), some (.int (nI c)), some (.int (nI 0)), some (.int (nI j))]) rfl ?_
          refine x_iincN dX8_unlawful_89 rfl (by decide) rfl ?_
          refine x_lv (lv' := [some (.ref 1000), some (.int (nI ((setS t m)))), some (.int (nI k)), some (.int (nI c)), some (.int (nI 0)), some (.int (nI (j + 1)))]) rfl ?_
          refine x_goto (tgt := 47) dX8_unlawful_92 (by decide) ?_
          have e : hsB rr m t k c (j + 1) = false := by rw [hsB, hv2, decide_eq_false hv3]; rfl
          refine x_lv (lv' := [some (.ref 1000), some (.int (nI ((setS t m)))), some (.int (nI k)), some (.int (nI c)), some (.int (bI ((hsB rr m t k c (j + 1))))), some (.int (nI (j + 1)))]) (by rw [e, bI_f]) ?_
          exact ih (j + 1) (by omega)
        · refine x_aload_n dX8_unlawful_72 rfl ?_
          refine x_iload_n dX8_unlawful_73 rfl ?_
          refine x_iload dX8_unlawful_74 rfl ?_
          refine x_callV m_X8_beside l_X8_268 (r_beside hR hC c31 hm (by omega) (by omega)) rfl hR.2.1 (by omega) rfl rfl (Nat.le_of_ble_eq_true rfl) ⟨Nat.le_refl _, Nat.le_refl _⟩ dX8_unlawful_76 (fun r4 s4 q4 => ?_)
          obtain ⟨rfl, eq4⟩ := q4
          obtain rfl := eq4.symm
          refine x_stk (st' := [.int (bI ((bsB rr m k j)))]) rfl ?_
          refine x_ifB_eq (tgt := 86) dX8_unlawful_79 (by decide) (fun hv5 => ?_) (fun hv5 => ?_)
          · refine x_iconst (v := nI 0) dX8_unlawful_86 (by decide) ?_
            refine x_istore dX8_unlawful_87 (by decide) rfl ?_
            refine x_lv (lv' := [some (.ref 1000), some (.int (nI ((setS t m)))), some (.int (nI k)), some (.int (nI c)), some (.int (nI 0)), some (.int (nI j))]) rfl ?_
            refine x_iincN dX8_unlawful_89 rfl (by decide) rfl ?_
            refine x_lv (lv' := [some (.ref 1000), some (.int (nI ((setS t m)))), some (.int (nI k)), some (.int (nI c)), some (.int (nI 0)), some (.int (nI (j + 1)))]) rfl ?_
            refine x_goto (tgt := 47) dX8_unlawful_92 (by decide) ?_
            have e : hsB rr m t k c (j + 1) = false := by rw [hsB, hv2, hv5, Bool.and_false]; rfl
            refine x_lv (lv' := [some (.ref 1000), some (.int (nI ((setS t m)))), some (.int (nI k)), some (.int (nI c)), some (.int (bI ((hsB rr m t k c (j + 1))))), some (.int (nI (j + 1)))]) (by rw [e, bI_f]) ?_
            exact ih (j + 1) (by omega)
          · refine x_iconst (v := nI 1) dX8_unlawful_82 (by decide) ?_
            refine x_goto (tgt := 87) dX8_unlawful_83 (by decide) ?_
            refine x_istore dX8_unlawful_87 (by decide) rfl ?_
            refine x_lv (lv' := [some (.ref 1000), some (.int (nI ((setS t m)))), some (.int (nI k)), some (.int (nI c)), some (.int (nI 1)), some (.int (nI j))]) rfl ?_
            refine x_iincN dX8_unlawful_89 rfl (by decide) rfl ?_
            refine x_lv (lv' := [some (.ref 1000), some (.int (nI ((setS t m)))), some (.int (nI k)), some (.int (nI c)), some (.int (nI 1)), some (.int (nI (j + 1)))]) rfl ?_
            refine x_goto (tgt := 47) dX8_unlawful_92 (by decide) ?_
            have e : hsB rr m t k c (j + 1) = true := by rw [hsB, hv2, hv5, decide_eq_true hv3]; rfl
            refine x_lv (lv' := [some (.ref 1000), some (.int (nI ((setS t m)))), some (.int (nI k)), some (.int (nI c)), some (.int (bI ((hsB rr m t k c (j + 1))))), some (.int (nI (j + 1)))]) (by rw [e, bI_t]) ?_
            exact ih (j + 1) (by omega)
set_option maxHeartbeats 4000000 in
theorem lr_unl {σ0 σ : ZS} {a : Nat → Int32} {tw : Int64} {b : Nat → List Int32} {rr n : Nat} {K N : List Nat} {W : List Int32} {D : List Nat} {fr : Int32} (hR : RM σ0 σ a tw b) (hC : RC a b rr n K N W D fr) {m : Nat} {t : List Nat} (c31 : a 31 = nI m) (hm : m ≤ 7) (cT : ∀ i, i < m → (b 7).getD i 0 = nI (t.getD i 0)) (ht : T7 t) (hTn : ∀ i, i < m → t.getD i 0 < n) {d : Nat} (hd : 2 ≤ d) : ∀ (q k : Nat), k + q = m → X M_X8_unlawful d 0 0 (fun r9 σ' => r9 = some (.int (oI (ffrom (fun s => !rfB rr m t (wlS K N D n (setS t m) fr) s) q k))) ∧ σ' = σ) 0 0 7 [some (.ref 1000), some (.int (nI ((setS t m)))), some (.int (nI k)), none, none, none] [] σ := by
  obtain ⟨c7, hrr, c13, hn7, c14, cK, cN, cW, cD, hN7, hW7, hD49, hK5, hN9, hD999⟩ := id hC
  obtain ⟨ht7, htb⟩ := id ht
  have hset := setS_lt ht m
  intro q
  induction q with
  | zero =>
    intro k hk
    refine x_iload_n dX8_unlawful_7 rfl ?_
    refine x_aload_n dX8_unlawful_8 rfl ?_
    refine x_rget (v := .int (nI m)) f_X8_255 hR (rg c31) dX8_unlawful_9 ?_
    refine x_icmpN_ge (tgt := 108) dX8_unlawful_12 (by decide) (by omega) (by omega) (fun hv1 => ?_) (fun hv1 => ?_)
    · refine x_iconst (v := (-1)) dX8_unlawful_108 (by decide) ?_
      exact x_iret ⟨Nat.le_refl _, Nat.le_refl _⟩ rfl dX8_unlawful_109 ⟨rfl, rfl⟩
    · exact absurd hv1 (by omega)
  | succ q ih =>
    intro k hk
    refine x_iload_n dX8_unlawful_7 rfl ?_
    refine x_aload_n dX8_unlawful_8 rfl ?_
    refine x_rget (v := .int (nI m)) f_X8_255 hR (rg c31) dX8_unlawful_9 ?_
    refine x_icmpN_ge (tgt := 108) dX8_unlawful_12 (by decide) (by omega) (by omega) (fun hv1 => ?_) (fun hv1 => ?_)
    · exact absurd hv1 (by omega)
    · refine x_aload_n dX8_unlawful_15 rfl ?_
      refine x_aload_n dX8_unlawful_16 rfl ?_
      refine x_rget f_X8_41 hR rfl dX8_unlawful_17 ?_
      refine x_iload_n dX8_unlawful_20 rfl ?_
      refine x_rald (j := 7) (n := k) hR rfl (by decide) rfl rfl (rlt hR (m := 7) (by decide) rfl (by omega)) dX8_unlawful_21 ?_
      refine x_topi (y := nI ((t.getD k 0))) (cT _ (by omega)) ?_
      have htk := htb k
      have htn := hTn k (by omega)
      refine x_iload_n dX8_unlawful_22 rfl ?_
      refine x_callV m_X8_creditor l_X8_126 (r_creditor hR hC (by omega) (by omega)) rfl hR.2.1 (by omega) rfl rfl (Nat.le_of_ble_eq_true rfl) ⟨Nat.le_refl _, Nat.le_refl _⟩ dX8_unlawful_23 (fun r2 s2 q2 => ?_)
      obtain ⟨rfl, eq2⟩ := q2
      obtain rfl := eq2.symm
      refine x_stk (st' := [.int ((oI (cred D n (t.getD k 0) (setS t m))))]) rfl ?_
      rcases hcr : cred D n (t.getD k 0) (setS t m) with _ | c
      · refine x_topi (y := (-1)) rfl ?_
        refine x_istore_n dX8_unlawful_26 (by decide) rfl ?_
        refine x_lv (lv' := [some (.ref 1000), some (.int (nI ((setS t m)))), some (.int (nI k)), some (.int ((-1))), none, none]) rfl ?_
        refine x_aload_n dX8_unlawful_27 rfl ?_
        refine x_aload_n dX8_unlawful_28 rfl ?_
        refine x_rget f_X8_41 hR rfl dX8_unlawful_29 ?_
        refine x_iload_n dX8_unlawful_32 rfl ?_
        refine x_rald (j := 7) (n := k) hR rfl (by decide) rfl rfl (rlt hR (m := 7) (by decide) rfl (by omega)) dX8_unlawful_33 ?_
        refine x_topi (y := nI ((t.getD k 0))) (cT _ (by omega)) ?_
        refine x_iload_n dX8_unlawful_34 rfl ?_
        refine x_callV m_X8_must l_X8_129 (r_must0 hR hC (by omega)) rfl hR.2.1 (by omega) rfl rfl (Nat.le_of_ble_eq_true rfl) ⟨Nat.le_refl _, Nat.le_refl _⟩ dX8_unlawful_35 (fun r3 s3 q3 => ?_)
        obtain ⟨rfl, eq3⟩ := q3
        obtain rfl := eq3.symm
        refine x_stk (st' := [.int (nI 0)]) rfl ?_
        refine x_ifN_eq (tgt := 102) dX8_unlawful_38 (by decide) (by omega) (fun hv4 => ?_) (fun hv4 => ?_)
        · refine x_iincN dX8_unlawful_102 rfl (by decide) rfl ?_
          refine x_lv (lv' := [some (.ref 1000), some (.int (nI ((setS t m)))), some (.int (nI (k + 1))), some (.int ((-1))), none, none]) rfl ?_
          refine x_goto (tgt := 7) dX8_unlawful_105 (by decide) ?_
          have e1 : (wlS K N D n (setS t m) fr).getD (t.getD k 0) none = none := by
            rw [wl_seat ht (by omega)]
            split
            · rw [wishO, hcr]
            · rfl
          refine x_drop 3 ?_
          rw [ffrom, if_neg (by rw [rfB, e1]; exact Bool.false_ne_true)]
          exact ih (k + 1) (by omega)
        · exact absurd hv4 (by decide)
      · have hc3 := (credF_ok D (t.getD k 0) (setS t m) n).2 c hcr
        refine x_topi (y := nI c) rfl ?_
        refine x_istore_n dX8_unlawful_26 (by decide) rfl ?_
        refine x_lv (lv' := [some (.ref 1000), some (.int (nI ((setS t m)))), some (.int (nI k)), some (.int (nI c)), none, none]) rfl ?_
        refine x_aload_n dX8_unlawful_27 rfl ?_
        refine x_aload_n dX8_unlawful_28 rfl ?_
        refine x_rget f_X8_41 hR rfl dX8_unlawful_29 ?_
        refine x_iload_n dX8_unlawful_32 rfl ?_
        refine x_rald (j := 7) (n := k) hR rfl (by decide) rfl rfl (rlt hR (m := 7) (by decide) rfl (by omega)) dX8_unlawful_33 ?_
        refine x_topi (y := nI ((t.getD k 0))) (cT _ (by omega)) ?_
        refine x_iload_n dX8_unlawful_34 rfl ?_
        refine x_callV m_X8_must l_X8_129 (r_must hR hC (by omega) (by omega)) rfl hR.2.1 (by omega) rfl rfl (Nat.le_of_ble_eq_true rfl) ⟨Nat.le_refl _, Nat.le_refl _⟩ dX8_unlawful_35 (fun r5 s5 q5 => ?_)
        obtain ⟨rfl, eq5⟩ := q5
        obtain rfl := eq5.symm
        refine x_stk (st' := [.int (bI (decide (¬ ((t.getD k 0 : Nat) : Int) = fr.toInt ∧ mustB (K.getD (t.getD k 0) 0) (N.getD (t.getD k 0) 0) (D.getD (t.getD k 0 * 7 + c) 0) = true)))]) rfl ?_
        refine x_ifP_eq (P := ¬ ((t.getD k 0 : Nat) : Int) = fr.toInt ∧ mustB (K.getD (t.getD k 0) 0) (N.getD (t.getD k 0) 0) (D.getD (t.getD k 0 * 7 + c) 0) = true) inferInstance (tgt := 102) dX8_unlawful_38 (by decide) (fun hv6 => ?_) (fun hv6 => ?_)
        · refine x_iincN dX8_unlawful_102 rfl (by decide) rfl ?_
          refine x_lv (lv' := [some (.ref 1000), some (.int (nI ((setS t m)))), some (.int (nI (k + 1))), some (.int (nI c)), none, none]) rfl ?_
          refine x_goto (tgt := 7) dX8_unlawful_105 (by decide) ?_
          have e1 : (wlS K N D n (setS t m) fr).getD (t.getD k 0) none = none := by
            rw [wl_seat ht (by omega)]
            by_cases hf : ¬ ((t.getD k 0 : Nat) : Int) = fr.toInt
            · rw [if_pos hf, wishO, hcr]
              simp only
              rw [if_neg (fun q => hv6 ⟨hf, q⟩)]
            · rw [if_neg hf]
          refine x_drop 3 ?_
          rw [ffrom, if_neg (by rw [rfB, e1]; exact Bool.false_ne_true)]
          exact ih (k + 1) (by omega)
        · refine x_iconst (v := nI 0) dX8_unlawful_41 (by decide) ?_
          refine x_istore dX8_unlawful_42 (by decide) rfl ?_
          refine x_lv (lv' := [some (.ref 1000), some (.int (nI ((setS t m)))), some (.int (nI k)), some (.int (nI c)), some (.int (nI 0)), none]) rfl ?_
          refine x_iconst (v := nI 0) dX8_unlawful_44 (by decide) ?_
          refine x_istore dX8_unlawful_45 (by decide) rfl ?_
          refine x_lv (lv' := [some (.ref 1000), some (.int (nI ((setS t m)))), some (.int (nI k)), some (.int (nI c)), some (.int (nI 0)), some (.int (nI 0))]) rfl ?_
          have e1 : (wlS K N D n (setS t m) fr).getD (t.getD k 0) none = some c := by rw [wl_seat ht (by omega), if_pos hv6.1, wishO, hcr]; simp only; rw [if_pos hv6.2]
          refine x_lv (lv' := [some (.ref 1000), some (.int (nI ((setS t m)))), some (.int (nI k)), some (.int (nI c)), some (.int (bI ((hsB rr m t k c 0)))), some (.int (nI 0))]) rfl ?_
          refine lr_has hR hC c31 hm cT ht hTn (by omega) (by omega) (by omega) ?_ m 0 (by omega)
          refine x_iload dX8_unlawful_95 rfl ?_
          refine x_ifB_ne (tgt := 102) dX8_unlawful_97 (by decide) (fun hv401 => ?_) (fun hv401 => ?_)
          · refine x_iincN dX8_unlawful_102 rfl (by decide) rfl ?_
            refine x_lv (lv' := [some (.ref 1000), some (.int (nI ((setS t m)))), some (.int (nI (k + 1))), some (.int (nI c)), some (.int (bI ((hsB rr m t k c m)))), some (.int (nI m))]) rfl ?_
            refine x_goto (tgt := 7) dX8_unlawful_105 (by decide) ?_
            refine x_drop 3 (x_drop 4 (x_drop 5 ?_))
            rw [ffrom, if_neg (by rw [rfB, e1]; simp only; rw [hv401]; decide)]
            exact ih (k + 1) (by omega)
          · refine x_iload_n dX8_unlawful_100 rfl ?_
            exact x_iret ⟨Nat.le_refl _, Nat.le_refl _⟩ rfl dX8_unlawful_101 ⟨by rw [ffrom, if_pos (by rw [rfB, e1]; simp only; rw [hv401]; rfl)]; rfl, rfl⟩
set_option maxHeartbeats 4000000 in
theorem r_unlawful {σ0 σ : ZS} {a : Nat → Int32} {tw : Int64} {b : Nat → List Int32} {rr n : Nat} {K N : List Nat} {W : List Int32} {D : List Nat} {fr : Int32} (hR : RM σ0 σ a tw b) (hC : RC a b rr n K N W D fr) {m : Nat} {t : List Nat} (c31 : a 31 = nI m) (hm : m ≤ 7) (cT : ∀ i, i < m → (b 7).getD i 0 = nI (t.getD i 0)) (ht : T7 t) (hTn : ∀ i, i < m → t.getD i 0 < n) : Cn 2 M_X8_unlawful 0 0 [.ref 1000] σ (fun r9 σ' => r9 = some (.int (oI (ffrom (fun s => !rfB rr m t (wlS K N D n (setS t m) fr) s) m 0))) ∧ σ' = σ) := by
  obtain ⟨c7, hrr, c13, hn7, c14, cK, cN, cW, cD, hN7, hW7, hD49, hK5, hN9, hD999⟩ := id hC
  obtain ⟨ht7, htb⟩ := id ht
  refine Cn.intro (lv0 := [some (.ref 1000), none, none, none, none, none]) rfl (Nat.le_of_ble_eq_true rfl) rfl (fun d hd => ?_)
  refine x_aload_n dX8_unlawful_0 rfl ?_
  refine x_callV m_X8_seatedSet l_X8_265 (r_seatedSet hR hC c31 hm cT ht) rfl hR.2.1 (by omega) rfl rfl (Nat.le_of_ble_eq_true rfl) ⟨Nat.le_refl _, Nat.le_refl _⟩ dX8_unlawful_1 (fun r1 s1 q1 => ?_)
  obtain ⟨rfl, eq1⟩ := q1
  obtain rfl := eq1.symm
  refine x_stk (st' := [.int (nI ((setS t m)))]) rfl ?_
  refine x_istore_n dX8_unlawful_4 (by decide) rfl ?_
  refine x_lv (lv' := [some (.ref 1000), some (.int (nI ((setS t m)))), none, none, none, none]) rfl ?_
  refine x_iconst (v := nI 0) dX8_unlawful_5 (by decide) ?_
  refine x_istore_n dX8_unlawful_6 (by decide) rfl ?_
  refine x_lv (lv' := [some (.ref 1000), some (.int (nI ((setS t m)))), some (.int (nI 0)), none, none, none]) rfl ?_
  exact lr_unl hR hC c31 hm cT ht hTn hd m 0 (by omega)
