theorem rK4 {L : List Nat} {p : Nat} (h : rK L p = 4) : tkK L p = 1 := by
  unfold rK at h
  unfold tkK
  by_cases e : L.length ≤ lexP L p
  · rw [if_pos e] at h; cases h
  · rw [if_neg e] at h ⊢
    by_cases e2 : isLt (L.getD (lexP L p) 0) = true
    · rw [if_pos e2] at h; cases h
    · rw [if_neg e2] at h ⊢
      by_cases e3 : isDg (L.getD (lexP L p) 0) = true
      · rw [if_pos e3] at h ⊢
        by_cases e4 : 4 < skip isDg L (lexP L p) - lexP L p
        · rw [if_pos e4]
        · rw [if_neg e4] at h; cases h
      · rw [if_neg e3] at h ⊢
        by_cases e4 : isSg (L.getD (lexP L p) 0) = true
        · rw [if_pos e4] at h; cases h
        · rw [if_neg e4]
theorem tk_sign {L : List Nat} {p s : Nat} (hs : 40 ≤ s) : tkK L p = s ↔ (rK L p = 3 ∧ L.getD (lexP L p) 0 = s) := by
  unfold rK tkK
  by_cases e : L.length ≤ lexP L p
  · rw [if_pos e, if_pos e]; omega
  · rw [if_neg e, if_neg e]
    by_cases e2 : isLt (L.getD (lexP L p) 0) = true
    · rw [if_pos e2, if_pos e2]
      have : wK (wIx (wordAt L (lexP L p)) 12) < 40 := by
        cases h : wIx (wordAt L (lexP L p)) 12 with
        | none => decide
        | some k =>
          have := (wIx_lt h).1
          rw [wK]
          split <;> omega
      omega
    · rw [if_neg e2, if_neg e2]
      by_cases e3 : isDg (L.getD (lexP L p) 0) = true
      · rw [if_pos e3, if_pos e3]
        split <;> omega
      · rw [if_neg e3, if_neg e3]
        by_cases e4 : isSg (L.getD (lexP L p) 0) = true
        · rw [if_pos e4, if_pos e4]
          omega
        · rw [if_neg e4, if_neg e4]; omega
theorem tk_word {L : List Nat} {p : Nat} (h : rK L p = 1) : lexP L p < L.length ∧ isLt (L.getD (lexP L p) 0) = true ∧ tkK L p = wK (wIx (wordAt L (lexP L p)) 12) ∧ tkV L p = wV (wIx (wordAt L (lexP L p)) 12) ∧ tkN L p = skip isLt L (lexP L p) := by
  unfold rK at h
  by_cases e : L.length ≤ lexP L p
  · rw [if_pos e] at h; cases h
  · rw [if_neg e] at h
    by_cases e2 : isLt (L.getD (lexP L p) 0) = true
    · exact ⟨by omega, e2, by rw [tkK, if_neg e, if_pos e2], by rw [tkV, if_pos e2], by rw [tkN, if_neg e, if_pos e2]⟩
    · rw [if_neg e2] at h
      by_cases e3 : isDg (L.getD (lexP L p) 0) = true
      · rw [if_pos e3] at h
        split at h <;> cases h
      · rw [if_neg e3] at h
        split at h <;> cases h
theorem tk_num {L : List Nat} {p : Nat} : tkK L p = 2 ↔ rK L p = 2 := by
  unfold rK tkK
  by_cases e : L.length ≤ lexP L p
  · rw [if_pos e, if_pos e]
  · rw [if_neg e, if_neg e]
    by_cases e2 : isLt (L.getD (lexP L p) 0) = true
    · rw [if_pos e2, if_pos e2]
      constructor
      · intro q; exact absurd q (wK_ne _)
      · intro q; cases q
    · rw [if_neg e2, if_neg e2]
      by_cases e3 : isDg (L.getD (lexP L p) 0) = true
      · rw [if_pos e3, if_pos e3]
        split <;> omega
      · rw [if_neg e3, if_neg e3]
        by_cases e4 : isSg (L.getD (lexP L p) 0) = true
        · rw [if_pos e4, if_pos e4]
          have := of_decide_eq_true e4
          omega
        · rw [if_neg e4, if_neg e4]; omega
theorem tk_end {L : List Nat} {p : Nat} : tkK L p = 0 ↔ rK L p = 0 := by
  unfold rK tkK
  by_cases e : L.length ≤ lexP L p
  · rw [if_pos e, if_pos e]
  · rw [if_neg e, if_neg e]
    by_cases e2 : isLt (L.getD (lexP L p) 0) = true
    · rw [if_pos e2, if_pos e2]
      have : wK (wIx (wordAt L (lexP L p)) 12) ≠ 0 := by
        cases h : wIx (wordAt L (lexP L p)) 12 with
        | none => decide
        | some k => rw [wK]; split <;> omega
      omega
    · rw [if_neg e2, if_neg e2]
      by_cases e3 : isDg (L.getD (lexP L p) 0) = true
      · rw [if_pos e3, if_pos e3]
        split <;> omega
      · rw [if_neg e3, if_neg e3]
        by_cases e4 : isSg (L.getD (lexP L p) 0) = true
        · rw [if_pos e4, if_pos e4]
          have := of_decide_eq_true e4
          omega
        · rw [if_neg e4, if_neg e4]; omega
theorem wIx_self : ∀ k, k < 12 → wIx (WD.getD k []) 12 = some k := by decide
theorem chr_pos : ∀ k, k < 12 → ∀ i, i < 8 → (chr k i ≠ 0 ↔ i < (WD.getD k []).length) := by decide
theorem WD_len : ∀ k, k < 12 → (WD.getD k []).length ≤ 8 := by decide
def ltP (L : List Nat) (q e i c : Nat) : Prop := (q + i < e ∧ L.getD (q + i) 0 = c) ∨ (e ≤ q + i ∧ c = 0)
/-- a word, letter by letter, is that one -/
theorem word8 {L : List Nat} {q k : Nat} (hk : k < 12) (hq : q < L.length) : wordAt L q = WD.getD k [] ↔ (skip isLt L q ≤ q + 8 ∧ ∀ i, i < 8 → ltP L q (skip isLt L q) i (chr k i)) := by
  have hb := skip_b isLt (show q ≤ L.length by omega)
  have hl := WD_len k hk
  have hlen : (wordAt L q).length = skip isLt L q - q := sub_len hb.2
  constructor
  · intro h
    rw [h] at hlen
    refine ⟨by omega, fun i hi => ?_⟩
    by_cases hi2 : q + i < skip isLt L q
    · refine Or.inl ⟨hi2, ?_⟩
      have e := sub_get (L := L) (q := q) (e := skip isLt L q) (i := i) (by omega) hb.2
      rw [show sub L q (skip isLt L q) = WD.getD k [] from h] at e
      unfold chr
      rw [List.getD_eq_getElem?_getD (l := WD.getD k []), e]
      rfl
    · refine Or.inr ⟨by omega, ?_⟩
      by_cases e : chr k i = 0
      · exact e
      · have := (chr_pos k hk i hi).mp e
        omega
  · rintro ⟨h1, h2⟩
    have hl2 : (WD.getD k []).length = skip isLt L q - q := by
      have a1 : ∀ i, i < 8 → (i < (WD.getD k []).length ↔ i < skip isLt L q - q) := by
        intro i hi
        rw [← chr_pos k hk i hi]
        rcases h2 i hi with ⟨e1, e2⟩ | ⟨e1, e2⟩
        · have e3 := skp_all isLt L (L.length - q) q (q + i) (by omega) e1
          have e4 := of_decide_eq_true e3
          omega
        · omega
      by_cases c1 : (WD.getD k []).length < skip isLt L q - q
      · have := a1 (WD.getD k []).length (by omega)
        omega
      · by_cases c2 : skip isLt L q - q < (WD.getD k []).length
        · have := a1 (skip isLt L q - q) (by omega)
          omega
        · omega
    refine List.ext_getElem? (fun i => ?_)
    by_cases hi : i < skip isLt L q - q
    · rw [show wordAt L q = sub L q (skip isLt L q) from rfl, sub_get hi hb.2]
      rcases h2 i (by omega) with ⟨e1, e2⟩ | ⟨e1, e2⟩
      · rw [e2]
        unfold chr
        rw [List.getD_eq_getElem?_getD (l := WD.getD k []), List.getElem?_eq_getElem (by omega)]
        rfl
      · omega
    · rw [List.getElem?_eq_none (by omega), List.getElem?_eq_none (by omega)]
def RPok (a : Nat → Int32) (tw : Int64) (b : Nat → List Int32) (L : List Nat) (p op : Nat) : Prop := RTx a b L ∧ RTk a tw L p ∧ a 27 = nI op ∧ a 28 = nI 0
def RPft (a : Nat → Int32) (f : Nat) : Prop := a 28 = nI 1 ∧ a 29 = nI f
set_option maxHeartbeats 4000000 in
theorem r_isLetter {σ0 σ : ZS} {a : Nat → Int32} {tw : Int64} {b : Nat → List Int32} {L : List Nat} {q e i c : Nat} (hR : RM σ0 σ a tw b) (hx : RTx a b L) (c25 : a 25 = nI q) (c23 : a 23 = nI e) (he : e ≤ L.length) (hi : i < 8) (hq : q ≤ L.length) (hc : c ≤ 255) : Cn 1 M_X8_isLetter 0 0 [.ref 1000, .int (nI i), .int (nI c)] σ (fun r9 σ' => r9 = some (.int (bI (decide ((q + i < e ∧ L.getD (q + i) 0 = c) ∨ (e ≤ q + i ∧ c = 0))))) ∧ σ' = σ) := by
  obtain ⟨f0, hx1, hx2, hx3, hx4, hx5, hx6⟩ := id hx
  refine Cn.intro (lv0 := [some (.ref 1000), some (.int (nI i)), some (.int (nI c))]) rfl (Nat.le_of_ble_eq_true rfl) rfl (fun d hd => ?_)
  refine x_aload_n dX8_isLetter_0 rfl ?_
  refine x_rget (v := .int (nI q)) f_X8_153 hR (rg c25) dX8_isLetter_1 ?_
  refine x_iload_n dX8_isLetter_4 rfl ?_
  refine x_iaddN dX8_isLetter_5 ?_
  refine x_aload_n dX8_isLetter_6 rfl ?_
  refine x_rget (v := .int (nI e)) f_X8_147 hR (rg c23) dX8_isLetter_7 ?_
  refine x_icmpN_ge (tgt := 35) dX8_isLetter_10 (by decide) (by omega) (by omega) (fun hv1 => ?_) (fun hv1 => ?_)
  · refine x_iload_n dX8_isLetter_35 rfl ?_
    refine x_ifN_ne (tgt := 43) dX8_isLetter_36 (by decide) (by omega) (fun hv2 => ?_) (fun hv2 => ?_)
    · refine x_iconst (v := nI 0) dX8_isLetter_43 (by decide) ?_
      exact x_zret ⟨Nat.le_refl _, Nat.le_refl _⟩ rfl (by decide) dX8_isLetter_44 ⟨by rw [bI_0 (by omega)], rfl⟩
    · refine x_iconst (v := nI 1) dX8_isLetter_39 (by decide) ?_
      refine x_goto (tgt := 44) dX8_isLetter_40 (by decide) ?_
      exact x_zret ⟨Nat.le_refl _, Nat.le_refl _⟩ rfl (by decide) dX8_isLetter_44 ⟨by rw [bI_1 (by omega)], rfl⟩
  · refine x_aload_n dX8_isLetter_13 rfl ?_
    refine x_aload_n dX8_isLetter_14 rfl ?_
    refine x_rget (v := .int (nI q)) f_X8_153 hR (rg c25) dX8_isLetter_15 ?_
    refine x_iload_n dX8_isLetter_18 rfl ?_
    refine x_iaddN dX8_isLetter_19 ?_
    refine x_callV m_X8_byteAt l_X8_150 (r_byteAt hR hx (by omega)) rfl hR.2.1 (by omega) rfl rfl (Nat.le_of_ble_eq_true rfl) ⟨Nat.le_refl _, Nat.le_refl _⟩ dX8_isLetter_20 (fun r3 s3 q3 => ?_)
    obtain ⟨rfl, eq3⟩ := q3
    obtain rfl := eq3.symm
    refine x_stk (st' := [.int ((byI L (q + i)))]) rfl ?_
    refine x_topi (y := nI ((L.getD (q + i) 0))) (by rw [byI, if_pos (by omega)]) ?_
    have hb9 := hx6 (q + i)
    refine x_iload_n dX8_isLetter_23 rfl ?_
    refine x_icmpN_ne (tgt := 31) dX8_isLetter_24 (by decide) (by omega) (by omega) (fun hv4 => ?_) (fun hv4 => ?_)
    · refine x_iconst (v := nI 0) dX8_isLetter_31 (by decide) ?_
      refine x_goto (tgt := 44) dX8_isLetter_32 (by decide) ?_
      exact x_zret ⟨Nat.le_refl _, Nat.le_refl _⟩ rfl (by decide) dX8_isLetter_44 ⟨by rw [bI_0 (by omega)], rfl⟩
    · refine x_iconst (v := nI 1) dX8_isLetter_27 (by decide) ?_
      refine x_goto (tgt := 44) dX8_isLetter_28 (by decide) ?_
      exact x_zret ⟨Nat.le_refl _, Nat.le_refl _⟩ rfl (by decide) dX8_isLetter_44 ⟨by rw [bI_1 (by omega)], rfl⟩
set_option maxHeartbeats 4000000 in
theorem r_isWord {σ0 σ : ZS} {a : Nat → Int32} {tw : Int64} {b : Nat → List Int32} {L : List Nat} {p op k : Nat} (hR : RM σ0 σ a tw b) (hO : RPok a tw b L p op) (hp : p ≤ L.length) (hk : k < 12) : Cn 2 M_X8_isWord 0 0 [.ref 1000, .int (nI ((chr k 0))), .int (nI ((chr k 1))), .int (nI ((chr k 2))), .int (nI ((chr k 3))), .int (nI ((chr k 4))), .int (nI ((chr k 5))), .int (nI ((chr k 6))), .int (nI ((chr k 7)))] σ (fun r9 σ' => r9 = some (.int (bI (decide (rK L p = 1 ∧ wordAt L (lexP L p) = WD.getD k [])))) ∧ σ' = σ) := by
  obtain ⟨hx, ⟨t25, t24, t23, t2, t3⟩, t27, t28⟩ := id hO
  obtain ⟨f0, hx1, hx2, hx3, hx4, hx5, hx6⟩ := id hx
  have hrk := rK_le L p
  have hlp := lexP_b hp
  refine Cn.intro (lv0 := [some (.ref 1000), some (.int (nI ((chr k 0)))), some (.int (nI ((chr k 1)))), some (.int (nI ((chr k 2)))), some (.int (nI ((chr k 3)))), some (.int (nI ((chr k 4)))), some (.int (nI ((chr k 5)))), some (.int (nI ((chr k 6)))), some (.int (nI ((chr k 7))))]) rfl (Nat.le_of_ble_eq_true rfl) rfl (fun d hd => ?_)
  refine x_aload_n dX8_isWord_0 rfl ?_
  refine x_rget (v := .int (nI 0)) f_X8_171 hR (rg t28) dX8_isWord_1 ?_
  refine x_ifN_ne (tgt := 112) dX8_isWord_4 (by decide) (by omega) (fun hv1 => ?_) (fun hv1 => ?_)
  · exact absurd hv1 (by decide)
  · refine x_aload_n dX8_isWord_7 rfl ?_
    refine x_rget (v := .int (nI ((rK L p)))) f_X8_156 hR (rg t24) dX8_isWord_8 ?_
    refine x_iconst (v := nI 1) dX8_isWord_11 (by decide) ?_
    refine x_icmpN_ne (tgt := 112) dX8_isWord_12 (by decide) (by omega) (by omega) (fun hv2 => ?_) (fun hv2 => ?_)
    · refine x_iconst (v := nI 0) dX8_isWord_112 (by decide) ?_
      exact x_zret ⟨Nat.le_refl _, Nat.le_refl _⟩ rfl (by decide) dX8_isWord_113 ⟨by rw [bI_0 (fun q => by omega)], rfl⟩
    · obtain ⟨hw1, hw2, hw3, hw4, hw5⟩ := tk_word (show rK L p = 1 by omega)
      have hsb := skip_b isLt (show lexP L p ≤ L.length by omega)
      refine x_aload_n dX8_isWord_15 rfl ?_
      refine x_rget (v := .int (nI ((skip isLt L (lexP L p))))) f_X8_147 hR (rg ((t23 (by omega)).trans (by rw [hw5]))) dX8_isWord_16 ?_
      refine x_aload_n dX8_isWord_19 rfl ?_
      refine x_rget (v := .int (nI ((lexP L p)))) f_X8_153 hR (rg t25) dX8_isWord_20 ?_
      refine x_bipush (v := nI 8) dX8_isWord_23 (by decide) ?_
      refine x_iaddN dX8_isWord_25 ?_
      refine x_icmpN_gt (tgt := 112) dX8_isWord_26 (by decide) (by omega) (by omega) (fun hv3 => ?_) (fun hv3 => ?_)
      · refine x_iconst (v := nI 0) dX8_isWord_112 (by decide) ?_
        exact x_zret ⟨Nat.le_refl _, Nat.le_refl _⟩ rfl (by decide) dX8_isWord_113 ⟨by rw [bI_0 (fun q => by have := ((word8 hk hw1).mp q.2).1; omega)], rfl⟩
      · refine x_aload_n dX8_isWord_29 rfl ?_
        refine x_iconst (v := nI 0) dX8_isWord_30 (by decide) ?_
        refine x_iload_n dX8_isWord_31 rfl ?_
        refine x_callV m_X8_isLetter l_X8_178 (r_isLetter hR hx t25 ((t23 (by omega)).trans (by rw [hw5])) (by omega) (by omega) (by omega) (chr_le k hk 0 (by omega))) rfl hR.2.1 (by omega) rfl rfl (Nat.le_of_ble_eq_true rfl) ⟨Nat.le_refl _, Nat.le_refl _⟩ dX8_isWord_32 (fun r4 s4 q4 => ?_)
        obtain ⟨rfl, eq4⟩ := q4
        obtain rfl := eq4.symm
        refine x_stk (st' := [.int (bI (decide ((lexP L p + 0 < skip isLt L (lexP L p) ∧ L.getD (lexP L p + 0) 0 = chr k 0) ∨ (skip isLt L (lexP L p) ≤ lexP L p + 0 ∧ chr k 0 = 0))))]) rfl ?_
        refine x_ifP_eq (P := (lexP L p + 0 < skip isLt L (lexP L p) ∧ L.getD (lexP L p + 0) 0 = chr k 0) ∨ (skip isLt L (lexP L p) ≤ lexP L p + 0 ∧ chr k 0 = 0)) inferInstance (tgt := 112) dX8_isWord_35 (by decide) (fun hv5 => ?_) (fun hv5 => ?_)
        · refine x_iconst (v := nI 0) dX8_isWord_112 (by decide) ?_
          exact x_zret ⟨Nat.le_refl _, Nat.le_refl _⟩ rfl (by decide) dX8_isWord_113 ⟨by rw [bI_0 (fun q => hv5 (((word8 hk hw1).mp q.2).2 0 (by omega)))], rfl⟩
        · refine x_aload_n dX8_isWord_38 rfl ?_
          refine x_iconst (v := nI 1) dX8_isWord_39 (by decide) ?_
          refine x_iload_n dX8_isWord_40 rfl ?_
          refine x_callV m_X8_isLetter l_X8_178 (r_isLetter hR hx t25 ((t23 (by omega)).trans (by rw [hw5])) (by omega) (by omega) (by omega) (chr_le k hk 1 (by omega))) rfl hR.2.1 (by omega) rfl rfl (Nat.le_of_ble_eq_true rfl) ⟨Nat.le_refl _, Nat.le_refl _⟩ dX8_isWord_41 (fun r6 s6 q6 => ?_)
          obtain ⟨rfl, eq6⟩ := q6
          obtain rfl := eq6.symm
          refine x_stk (st' := [.int (bI (decide ((lexP L p + 1 < skip isLt L (lexP L p) ∧ L.getD (lexP L p + 1) 0 = chr k 1) ∨ (skip isLt L (lexP L p) ≤ lexP L p + 1 ∧ chr k 1 = 0))))]) rfl ?_
          refine x_ifP_eq (P := (lexP L p + 1 < skip isLt L (lexP L p) ∧ L.getD (lexP L p + 1) 0 = chr k 1) ∨ (skip isLt L (lexP L p) ≤ lexP L p + 1 ∧ chr k 1 = 0)) inferInstance (tgt := 112) dX8_isWord_44 (by decide) (fun hv7 => ?_) (fun hv7 => ?_)
          · refine x_iconst (v := nI 0) dX8_isWord_112 (by decide) ?_
            exact x_zret ⟨Nat.le_refl _, Nat.le_refl _⟩ rfl (by decide) dX8_isWord_113 ⟨by rw [bI_0 (fun q => hv7 (((word8 hk hw1).mp q.2).2 1 (by omega)))], rfl⟩
          · refine x_aload_n dX8_isWord_47 rfl ?_
            refine x_iconst (v := nI 2) dX8_isWord_48 (by decide) ?_
            refine x_iload_n dX8_isWord_49 rfl ?_
            refine x_callV m_X8_isLetter l_X8_178 (r_isLetter hR hx t25 ((t23 (by omega)).trans (by rw [hw5])) (by omega) (by omega) (by omega) (chr_le k hk 2 (by omega))) rfl hR.2.1 (by omega) rfl rfl (Nat.le_of_ble_eq_true rfl) ⟨Nat.le_refl _, Nat.le_refl _⟩ dX8_isWord_50 (fun r8 s8 q8 => ?_)
            obtain ⟨rfl, eq8⟩ := q8
            obtain rfl := eq8.symm
            refine x_stk (st' := [.int (bI (decide ((lexP L p + 2 < skip isLt L (lexP L p) ∧ L.getD (lexP L p + 2) 0 = chr k 2) ∨ (skip isLt L (lexP L p) ≤ lexP L p + 2 ∧ chr k 2 = 0))))]) rfl ?_
            refine x_ifP_eq (P := (lexP L p + 2 < skip isLt L (lexP L p) ∧ L.getD (lexP L p + 2) 0 = chr k 2) ∨ (skip isLt L (lexP L p) ≤ lexP L p + 2 ∧ chr k 2 = 0)) inferInstance (tgt := 112) dX8_isWord_53 (by decide) (fun hv9 => ?_) (fun hv9 => ?_)
            · refine x_iconst (v := nI 0) dX8_isWord_112 (by decide) ?_
              exact x_zret ⟨Nat.le_refl _, Nat.le_refl _⟩ rfl (by decide) dX8_isWord_113 ⟨by rw [bI_0 (fun q => hv9 (((word8 hk hw1).mp q.2).2 2 (by omega)))], rfl⟩
            · refine x_aload_n dX8_isWord_56 rfl ?_
              refine x_iconst (v := nI 3) dX8_isWord_57 (by decide) ?_
              refine x_iload dX8_isWord_58 rfl ?_
              refine x_callV m_X8_isLetter l_X8_178 (r_isLetter hR hx t25 ((t23 (by omega)).trans (by rw [hw5])) (by omega) (by omega) (by omega) (chr_le k hk 3 (by omega))) rfl hR.2.1 (by omega) rfl rfl (Nat.le_of_ble_eq_true rfl) ⟨Nat.le_refl _, Nat.le_refl _⟩ dX8_isWord_60 (fun r10 s10 q10 => ?_)
              obtain ⟨rfl, eq10⟩ := q10
              obtain rfl := eq10.symm
              refine x_stk (st' := [.int (bI (decide ((lexP L p + 3 < skip isLt L (lexP L p) ∧ L.getD (lexP L p + 3) 0 = chr k 3) ∨ (skip isLt L (lexP L p) ≤ lexP L p + 3 ∧ chr k 3 = 0))))]) rfl ?_
              refine x_ifP_eq (P := (lexP L p + 3 < skip isLt L (lexP L p) ∧ L.getD (lexP L p + 3) 0 = chr k 3) ∨ (skip isLt L (lexP L p) ≤ lexP L p + 3 ∧ chr k 3 = 0)) inferInstance (tgt := 112) dX8_isWord_63 (by decide) (fun hv11 => ?_) (fun hv11 => ?_)
              · refine x_iconst (v := nI 0) dX8_isWord_112 (by decide) ?_
                exact x_zret ⟨Nat.le_refl _, Nat.le_refl _⟩ rfl (by decide) dX8_isWord_113 ⟨by rw [bI_0 (fun q => hv11 (((word8 hk hw1).mp q.2).2 3 (by omega)))], rfl⟩
              · refine x_aload_n dX8_isWord_66 rfl ?_
                refine x_iconst (v := nI 4) dX8_isWord_67 (by decide) ?_
                refine x_iload dX8_isWord_68 rfl ?_
                refine x_callV m_X8_isLetter l_X8_178 (r_isLetter hR hx t25 ((t23 (by omega)).trans (by rw [hw5])) (by omega) (by omega) (by omega) (chr_le k hk 4 (by omega))) rfl hR.2.1 (by omega) rfl rfl (Nat.le_of_ble_eq_true rfl) ⟨Nat.le_refl _, Nat.le_refl _⟩ dX8_isWord_70 (fun r12 s12 q12 => ?_)
                obtain ⟨rfl, eq12⟩ := q12
                obtain rfl := eq12.symm
                refine x_stk (st' := [.int (bI (decide ((lexP L p + 4 < skip isLt L (lexP L p) ∧ L.getD (lexP L p + 4) 0 = chr k 4) ∨ (skip isLt L (lexP L p) ≤ lexP L p + 4 ∧ chr k 4 = 0))))]) rfl ?_
                refine x_ifP_eq (P := (lexP L p + 4 < skip isLt L (lexP L p) ∧ L.getD (lexP L p + 4) 0 = chr k 4) ∨ (skip isLt L (lexP L p) ≤ lexP L p + 4 ∧ chr k 4 = 0)) inferInstance (tgt := 112) dX8_isWord_73 (by decide) (fun hv13 => ?_) (fun hv13 => ?_)
                · refine x_iconst (v := nI 0) dX8_isWord_112 (by decide) ?_
                  exact x_zret ⟨Nat.le_refl _, Nat.le_refl _⟩ rfl (by decide) dX8_isWord_113 ⟨by rw [bI_0 (fun q => hv13 (((word8 hk hw1).mp q.2).2 4 (by omega)))], rfl⟩
                · refine x_aload_n dX8_isWord_76 rfl ?_
                  refine x_iconst (v := nI 5) dX8_isWord_77 (by decide) ?_
                  refine x_iload dX8_isWord_78 rfl ?_
                  refine x_callV m_X8_isLetter l_X8_178 (r_isLetter hR hx t25 ((t23 (by omega)).trans (by rw [hw5])) (by omega) (by omega) (by omega) (chr_le k hk 5 (by omega))) rfl hR.2.1 (by omega) rfl rfl (Nat.le_of_ble_eq_true rfl) ⟨Nat.le_refl _, Nat.le_refl _⟩ dX8_isWord_80 (fun r14 s14 q14 => ?_)
                  obtain ⟨rfl, eq14⟩ := q14
                  obtain rfl := eq14.symm
                  refine x_stk (st' := [.int (bI (decide ((lexP L p + 5 < skip isLt L (lexP L p) ∧ L.getD (lexP L p + 5) 0 = chr k 5) ∨ (skip isLt L (lexP L p) ≤ lexP L p + 5 ∧ chr k 5 = 0))))]) rfl ?_
                  refine x_ifP_eq (P := (lexP L p + 5 < skip isLt L (lexP L p) ∧ L.getD (lexP L p + 5) 0 = chr k 5) ∨ (skip isLt L (lexP L p) ≤ lexP L p + 5 ∧ chr k 5 = 0)) inferInstance (tgt := 112) dX8_isWord_83 (by decide) (fun hv15 => ?_) (fun hv15 => ?_)
                  · refine x_iconst (v := nI 0) dX8_isWord_112 (by decide) ?_
                    exact x_zret ⟨Nat.le_refl _, Nat.le_refl _⟩ rfl (by decide) dX8_isWord_113 ⟨by rw [bI_0 (fun q => hv15 (((word8 hk hw1).mp q.2).2 5 (by omega)))], rfl⟩
                  · refine x_aload_n dX8_isWord_86 rfl ?_
                    refine x_bipush (v := nI 6) dX8_isWord_87 (by decide) ?_
                    refine x_iload dX8_isWord_89 rfl ?_
                    refine x_callV m_X8_isLetter l_X8_178 (r_isLetter hR hx t25 ((t23 (by omega)).trans (by rw [hw5])) (by omega) (by omega) (by omega) (chr_le k hk 6 (by omega))) rfl hR.2.1 (by omega) rfl rfl (Nat.le_of_ble_eq_true rfl) ⟨Nat.le_refl _, Nat.le_refl _⟩ dX8_isWord_91 (fun r16 s16 q16 => ?_)
                    obtain ⟨rfl, eq16⟩ := q16
                    obtain rfl := eq16.symm
                    refine x_stk (st' := [.int (bI (decide ((lexP L p + 6 < skip isLt L (lexP L p) ∧ L.getD (lexP L p + 6) 0 = chr k 6) ∨ (skip isLt L (lexP L p) ≤ lexP L p + 6 ∧ chr k 6 = 0))))]) rfl ?_
                    refine x_ifP_eq (P := (lexP L p + 6 < skip isLt L (lexP L p) ∧ L.getD (lexP L p + 6) 0 = chr k 6) ∨ (skip isLt L (lexP L p) ≤ lexP L p + 6 ∧ chr k 6 = 0)) inferInstance (tgt := 112) dX8_isWord_94 (by decide) (fun hv17 => ?_) (fun hv17 => ?_)
                    · refine x_iconst (v := nI 0) dX8_isWord_112 (by decide) ?_
                      exact x_zret ⟨Nat.le_refl _, Nat.le_refl _⟩ rfl (by decide) dX8_isWord_113 ⟨by rw [bI_0 (fun q => hv17 (((word8 hk hw1).mp q.2).2 6 (by omega)))], rfl⟩
                    · refine x_aload_n dX8_isWord_97 rfl ?_
                      refine x_bipush (v := nI 7) dX8_isWord_98 (by decide) ?_
                      refine x_iload dX8_isWord_100 rfl ?_
                      refine x_callV m_X8_isLetter l_X8_178 (r_isLetter hR hx t25 ((t23 (by omega)).trans (by rw [hw5])) (by omega) (by omega) (by omega) (chr_le k hk 7 (by omega))) rfl hR.2.1 (by omega) rfl rfl (Nat.le_of_ble_eq_true rfl) ⟨Nat.le_refl _, Nat.le_refl _⟩ dX8_isWord_102 (fun r18 s18 q18 => ?_)
                      obtain ⟨rfl, eq18⟩ := q18
                      obtain rfl := eq18.symm
                      refine x_stk (st' := [.int (bI (decide ((lexP L p + 7 < skip isLt L (lexP L p) ∧ L.getD (lexP L p + 7) 0 = chr k 7) ∨ (skip isLt L (lexP L p) ≤ lexP L p + 7 ∧ chr k 7 = 0))))]) rfl ?_
                      refine x_ifP_eq (P := (lexP L p + 7 < skip isLt L (lexP L p) ∧ L.getD (lexP L p + 7) 0 = chr k 7) ∨ (skip isLt L (lexP L p) ≤ lexP L p + 7 ∧ chr k 7 = 0)) inferInstance (tgt := 112) dX8_isWord_105 (by decide) (fun hv19 => ?_) (fun hv19 => ?_)
                      · refine x_iconst (v := nI 0) dX8_isWord_112 (by decide) ?_
                        exact x_zret ⟨Nat.le_refl _, Nat.le_refl _⟩ rfl (by decide) dX8_isWord_113 ⟨by rw [bI_0 (fun q => hv19 (((word8 hk hw1).mp q.2).2 7 (by omega)))], rfl⟩
                      · refine x_iconst (v := nI 1) dX8_isWord_108 (by decide) ?_
                        refine x_goto (tgt := 113) dX8_isWord_109 (by decide) ?_
                        exact x_zret ⟨Nat.le_refl _, Nat.le_refl _⟩ rfl (by decide) dX8_isWord_113 ⟨by
    rw [bI_1 ⟨by omega, (word8 hk hw1).mpr ⟨by omega, fun i hi => by
      rcases (show i = 0 ∨ i = 1 ∨ i = 2 ∨ i = 3 ∨ i = 4 ∨ i = 5 ∨ i = 6 ∨ i = 7 by omega) with rfl | rfl | rfl | rfl | rfl | rfl | rfl | rfl
      · exact hv5
      · exact hv7
      · exact hv9
      · exact hv11
      · exact hv13
      · exact hv15
      · exact hv17
      · exact hv19⟩⟩], rfl⟩
set_option maxHeartbeats 4000000 in
theorem r_isWord_ft {σ0 σ : ZS} {a : Nat → Int32} {tw : Int64} {b : Nat → List Int32} {f : Nat} {c0 c1 c2 c3 c4 c5 c6 c7 : Int32} (hR : RM σ0 σ a tw b) (hO : RPft a f) : Cn 0 M_X8_isWord 0 0 [.ref 1000, .int c0, .int c1, .int c2, .int c3, .int c4, .int c5, .int c6, .int c7] σ (fun r9 σ' => r9 = some (.int (nI 0)) ∧ σ' = σ) := by
  obtain ⟨t28, t29⟩ := id hO
  refine Cn.intro (lv0 := [some (.ref 1000), some (.int c0), some (.int c1), some (.int c2), some (.int c3), some (.int c4), some (.int c5), some (.int c6), some (.int c7)]) rfl (Nat.le_of_ble_eq_true rfl) rfl (fun d hd => ?_)
  refine x_aload_n dX8_isWord_0 rfl ?_
  refine x_rget (v := .int (nI 1)) f_X8_171 hR (rg t28) dX8_isWord_1 ?_
  refine x_ifN_ne (tgt := 112) dX8_isWord_4 (by decide) (by omega) (fun hv1 => ?_) (fun hv1 => ?_)
  · refine x_iconst (v := nI 0) dX8_isWord_112 (by decide) ?_
    exact x_zret ⟨Nat.le_refl _, Nat.le_refl _⟩ rfl (by decide) dX8_isWord_113 ⟨rfl, rfl⟩
  · exact absurd hv1 (by decide)
set_option maxHeartbeats 4000000 in
theorem r_isSign {σ0 σ : ZS} {a : Nat → Int32} {tw : Int64} {b : Nat → List Int32} {L : List Nat} {p op s : Nat} (hR : RM σ0 σ a tw b) (hO : RPok a tw b L p op) (hp : p ≤ L.length) (hs : 40 ≤ s ∧ s < 100) : Cn 0 M_X8_isSign 0 0 [.ref 1000, .int (nI s)] σ (fun r9 σ' => r9 = some (.int (bI (decide (tkK L p = s)))) ∧ σ' = σ) := by
  obtain ⟨hx, ⟨t25, t24, t23, t2, t3⟩, t27, t28⟩ := id hO
  obtain ⟨f0, hx1, hx2, hx3, hx4, hx5, hx6⟩ := id hx
  have hrk := rK_le L p
  refine Cn.intro (lv0 := [some (.ref 1000), some (.int (nI s))]) rfl (Nat.le_of_ble_eq_true rfl) rfl (fun d hd => ?_)
  refine x_aload_n dX8_isSign_0 rfl ?_
  refine x_rget (v := .int (nI 0)) f_X8_171 hR (rg t28) dX8_isSign_1 ?_
  refine x_ifN_ne (tgt := 29) dX8_isSign_4 (by decide) (by omega) (fun hv1 => ?_) (fun hv1 => ?_)
  · exact absurd hv1 (by decide)
  · refine x_aload_n dX8_isSign_7 rfl ?_
    refine x_rget (v := .int (nI ((rK L p)))) f_X8_156 hR (rg t24) dX8_isSign_8 ?_
    refine x_iconst (v := nI 3) dX8_isSign_11 (by decide) ?_
    refine x_icmpN_ne (tgt := 29) dX8_isSign_12 (by decide) (by omega) (by omega) (fun hv2 => ?_) (fun hv2 => ?_)
    · refine x_iconst (v := nI 0) dX8_isSign_29 (by decide) ?_
      exact x_zret ⟨Nat.le_refl _, Nat.le_refl _⟩ rfl (by decide) dX8_isSign_30 ⟨by first | rw [bI_0 (by rw [tk_sign (by omega)]; omega)] | (exfalso; omega), rfl⟩
    · refine x_aload_n dX8_isSign_15 rfl ?_
      refine x_rget f_X8_167 hR rfl dX8_isSign_16 ?_
      refine x_iload_n dX8_isSign_19 rfl ?_
      refine x_i2l dX8_isSign_20 ?_
      refine x_lcmp dX8_isSign_21 ?_
      have hts := t3 (by omega)
      have hb8 := hx6 (lexP L p)
      have hsl : ((nI s).toInt64).toInt = ((s : Nat) : Int) := tL (nI_toInt (by omega))
      rcases (show tw.toInt < ((nI s).toInt64).toInt ∨ tw.toInt = ((nI s).toInt64).toInt ∨ ((nI s).toInt64).toInt < tw.toInt by omega) with hc | hc | hc
      · refine x_topi (y := (-1)) (lcmp_lt (by omega)) ?_
        refine x_ifT_ne (p := (-1)) (tgt := 29) (by decide) dX8_isSign_22 (by decide) (fun hv3 => ?_) (fun hv3 => ?_)
        · refine x_iconst (v := nI 0) dX8_isSign_29 (by decide) ?_
          exact x_zret ⟨Nat.le_refl _, Nat.le_refl _⟩ rfl (by decide) dX8_isSign_30 ⟨by first | rw [bI_0 (by rw [tk_sign (by omega)]; omega)] | (exfalso; omega), rfl⟩
        · refine x_iconst (v := nI 1) dX8_isSign_25 (by decide) ?_
          refine x_goto (tgt := 30) dX8_isSign_26 (by decide) ?_
          exact x_zret ⟨Nat.le_refl _, Nat.le_refl _⟩ rfl (by decide) dX8_isSign_30 ⟨by first | rw [bI_1 (by rw [tk_sign (by omega)]; omega)] | (exfalso; omega), rfl⟩
      · refine x_topi (y := nI 0) (lcmp_eq (by omega)) ?_
        refine x_ifN_ne (tgt := 29) dX8_isSign_22 (by decide) (by omega) (fun hv4 => ?_) (fun hv4 => ?_)
        · exact absurd hv4 (by decide)
        · refine x_iconst (v := nI 1) dX8_isSign_25 (by decide) ?_
          refine x_goto (tgt := 30) dX8_isSign_26 (by decide) ?_
          exact x_zret ⟨Nat.le_refl _, Nat.le_refl _⟩ rfl (by decide) dX8_isSign_30 ⟨by first | rw [bI_1 (by rw [tk_sign (by omega)]; omega)] | (exfalso; omega), rfl⟩
      · refine x_topi (y := nI 1) (lcmp_gt (by omega)) ?_
        refine x_ifN_ne (tgt := 29) dX8_isSign_22 (by decide) (by omega) (fun hv5 => ?_) (fun hv5 => ?_)
        · refine x_iconst (v := nI 0) dX8_isSign_29 (by decide) ?_
          exact x_zret ⟨Nat.le_refl _, Nat.le_refl _⟩ rfl (by decide) dX8_isSign_30 ⟨by first | rw [bI_0 (by rw [tk_sign (by omega)]; omega)] | (exfalso; omega), rfl⟩
        · exact absurd hv5 (by decide)
set_option maxHeartbeats 4000000 in
theorem r_isSign_ft {σ0 σ : ZS} {a : Nat → Int32} {tw : Int64} {b : Nat → List Int32} {f : Nat} {s : Int32} (hR : RM σ0 σ a tw b) (hO : RPft a f) : Cn 0 M_X8_isSign 0 0 [.ref 1000, .int s] σ (fun r9 σ' => r9 = some (.int (nI 0)) ∧ σ' = σ) := by
  obtain ⟨t28, t29⟩ := id hO
  refine Cn.intro (lv0 := [some (.ref 1000), some (.int s)]) rfl (Nat.le_of_ble_eq_true rfl) rfl (fun d hd => ?_)
  refine x_aload_n dX8_isSign_0 rfl ?_
  refine x_rget (v := .int (nI 1)) f_X8_171 hR (rg t28) dX8_isSign_1 ?_
  refine x_ifN_ne (tgt := 29) dX8_isSign_4 (by decide) (by omega) (fun hv1 => ?_) (fun hv1 => ?_)
  · refine x_iconst (v := nI 0) dX8_isSign_29 (by decide) ?_
    exact x_zret ⟨Nat.le_refl _, Nat.le_refl _⟩ rfl (by decide) dX8_isSign_30 ⟨rfl, rfl⟩
  · exact absurd hv1 (by decide)
set_option maxHeartbeats 4000000 in
theorem r_fail {σ0 σ : ZS} {a : Nat → Int32} {tw : Int64} {b : Nat → List Int32} {L : List Nat} {p op : Nat} (hR : RM σ0 σ a tw b) (hO : RPok a tw b L p op) (hp : p ≤ L.length) : Cn 0 M_X8_fail 0 0 [.ref 1000] σ (fun r9 σ' => r9 = none ∧ ∃ a', RM σ0 σ' a' tw b ∧ FrA a a' ∧ RPft a' (lexP L p)) := by
  obtain ⟨hx, ⟨t25, t24, t23, t2, t3⟩, t27, t28⟩ := id hO
  refine Cn.intro (lv0 := [some (.ref 1000)]) rfl (Nat.le_of_ble_eq_true rfl) rfl (fun d hd => ?_)
  refine x_aload_n dX8_fail_0 rfl ?_
  refine x_rget (v := .int (nI 0)) f_X8_171 hR (rg t28) dX8_fail_1 ?_
  refine x_ifN_ne (tgt := 20) dX8_fail_4 (by decide) (by omega) (fun hv1 => ?_) (fun hv1 => ?_)
  · exact absurd hv1 (by decide)
  · refine x_aload_n dX8_fail_7 rfl ?_
    refine x_iconst (v := nI 1) dX8_fail_8 (by decide) ?_
    refine x_rput (up a 28 (nI 1)) tw f_X8_171 hR (by decide) rfl (fun c => zb1) dX8_fail_9 (fun sw2 Rw2 => ?_)
    refine x_aload_n dX8_fail_12 rfl ?_
    refine x_aload_n dX8_fail_13 rfl ?_
    refine x_rget (v := .int (nI ((lexP L p)))) f_X8_153 Rw2 (rg t25) dX8_fail_14 ?_
    refine x_rput (up (up a 28 (nI 1)) 29 (nI ((lexP L p)))) tw f_X8_175 Rw2 (by decide) rfl (fun c => ⟨rfl, rfl⟩) dX8_fail_17 (fun sw3 Rw3 => ?_)
    exact x_vret ⟨Nat.le_refl _, Nat.le_refl _⟩ rfl dX8_fail_20 ⟨rfl, _, Rw3, (FrA.rf.up (by omega)).up (by omega), rfl, rfl⟩
set_option maxHeartbeats 4000000 in
theorem r_fail_ft {σ0 σ : ZS} {a : Nat → Int32} {tw : Int64} {b : Nat → List Int32} {f : Nat} (hR : RM σ0 σ a tw b) (hO : RPft a f) : Cn 0 M_X8_fail 0 0 [.ref 1000] σ (fun r9 σ' => r9 = none ∧ σ' = σ) := by
  obtain ⟨t28, t29⟩ := id hO
  refine Cn.intro (lv0 := [some (.ref 1000)]) rfl (Nat.le_of_ble_eq_true rfl) rfl (fun d hd => ?_)
  refine x_aload_n dX8_fail_0 rfl ?_
  refine x_rget (v := .int (nI 1)) f_X8_171 hR (rg t28) dX8_fail_1 ?_
  refine x_ifN_ne (tgt := 20) dX8_fail_4 (by decide) (by omega) (fun hv1 => ?_) (fun hv1 => ?_)
  · exact x_vret ⟨Nat.le_refl _, Nat.le_refl _⟩ rfl dX8_fail_20 ⟨rfl, rfl⟩
  · exact absurd hv1 (by decide)
