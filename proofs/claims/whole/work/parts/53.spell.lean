def Rd (σ : ZS) (sz ap tk tp tv fa sc lf jf : Int32) (Tp St : List Int32) : Prop := zg σ 28 = some (.inr (.inr (2, [.ref 29, .int sz, .int ap, .int tk, .int tp, .int tv, .int fa, .ref 30, .int sc, .int lf, .int jf]))) ∧ zg σ 29 = some (.inl (0, Tp)) ∧ zg σ 30 = some (.inl (0, St)) ∧ Tp.length = 160 ∧ St.length = 160
theorem Rd.fr {σ σ' : ZS} {sz ap tk tp tv fa sc lf jf : Int32} {Tp St : List Int32} {P : Nat → Prop} (h : Rd σ sz ap tk tp tv fa sc lf jf Tp St) (hF : Fr P σ σ') (hP : ∀ i, 28 ≤ i ∧ i ≤ 30 → ¬ P i) : Rd σ' sz ap tk tp tv fa sc lf jf Tp St := by
  obtain ⟨h1, h2, h3, h4⟩ := h
  exact ⟨hF.at (hP _ (by omega)) h1, hF.at (hP _ (by omega)) h2, hF.at (hP _ (by omega)) h3, h4⟩
def TxL (L : List Nat) (Tp : List Int32) : Prop := L.length ≤ 160 ∧ (∀ i, i < L.length → Tp.getD i 0 = nI (L.getD i 0)) ∧ (∀ i, L.getD i 0 ≤ 255)
theorem sub_get {L : List Nat} {q e i : Nat} (hi : i < e - q) (he : e ≤ L.length) : (sub L q e)[i]? = some (L.getD (q + i) 0) := by
  rw [sub, List.getElem?_take, if_pos hi, List.getElem?_drop, List.getD_eq_getElem?_getD, List.getElem?_eq_getElem (by omega)]
  rfl
theorem sub_len {L : List Nat} {q e : Nat} (he : e ≤ L.length) : (sub L q e).length = e - q := by
  rw [sub, List.length_take, List.length_drop]
  omega
set_option maxHeartbeats 4000000 in
theorem l_blank {Q : Option Value → ZS → Prop} {σ0 : ZS} {p0 : Nat} {tk tp tv fa sc lf jf : Int32} {St : List Int32} {L : List Nat} {Tp : List Int32} (hT : TxL L Tp) {d : Nat} (hd : 1 ≤ d) (hout : ∀ (σ : ZS), Rd σ (nI L.length) (nI (skip isBl L p0)) tk tp tv fa sc lf jf Tp St → Fr (fun i => i = 28) σ0 σ → X M_X3_next d 0 0 Q 0 0 39 [some (.ref 28)] [] σ) : ∀ (q p : Nat) (σ : ZS) (h : Rd σ (nI L.length) (nI p) tk tp tv fa sc lf jf Tp St) (hF : Fr (fun i => i = 28) σ0 σ), p + q = L.length → skip isBl L p0 = skip isBl L p → p ≤ L.length → X M_X3_next d 0 0 (Q) 0 0 0 [some (.ref 28)] [] σ := by
  intro q
  induction q with
  | zero =>
    intro p σ h hF hpq hsk hk
    obtain ⟨d0, d1, d2, lt1, lt2⟩ := id h
    have hL := hT.1
    refine x_aload_n dX3_next_0 rfl ?_
    refine x_get (v := .int (nI p)) f_X3_22 d0 rfl dX3_next_1 ?_
    refine x_aload_n dX3_next_4 rfl ?_
    refine x_get (v := .int (nI L.length)) f_X3_15 d0 rfl dX3_next_5 ?_
    refine x_icmpN_ge (tgt := 39) dX3_next_8 (by decide) (by omega) (by omega) (fun hv1 => ?_) (fun hv1 => ?_)
    · exact hout σ (by rw [hsk, skip_e (by omega)] ; exact h) hF
    · exact absurd hv1 (by omega)
  | succ q ih =>
    intro p σ h hF hpq hsk hk
    obtain ⟨d0, d1, d2, lt1, lt2⟩ := id h
    have hL := hT.1
    refine x_aload_n dX3_next_0 rfl ?_
    refine x_get (v := .int (nI p)) f_X3_22 d0 rfl dX3_next_1 ?_
    refine x_aload_n dX3_next_4 rfl ?_
    refine x_get (v := .int (nI L.length)) f_X3_15 d0 rfl dX3_next_5 ?_
    refine x_icmpN_ge (tgt := 39) dX3_next_8 (by decide) (by omega) (by omega) (fun hv1 => ?_) (fun hv1 => ?_)
    · exact absurd hv1 (by omega)
    · refine x_aload_n dX3_next_11 rfl ?_
      refine x_get (v := .ref 29) f_X3_11 d0 rfl dX3_next_12 ?_
      refine x_aload_n dX3_next_15 rfl ?_
      refine x_get (v := .int (nI p)) f_X3_22 d0 rfl dX3_next_16 ?_
      refine x_iald (n := p) d1 rfl (by rw [lt1]; omega) dX3_next_19 ?_
      refine x_topi (y := nI ((L.getD p 0))) (hT.2.1 p (by omega)) ?_
      refine x_callS m_X3_isBlank l_X3_92 (c_isBlank (hT.2.2 _)) (by omega) rfl rfl (Nat.le_of_ble_eq_true rfl) ⟨Nat.le_refl _, Nat.le_refl _⟩ dX3_next_20 (fun r2 s2 q2 => ?_)
      obtain ⟨rfl, eq2⟩ := q2
      obtain rfl := eq2.symm
      refine x_stk (st' := [.int (bI ((isBl ((L.getD p 0)))))]) rfl ?_
      refine x_ifB_eq (tgt := 39) dX3_next_23 (by decide) (fun hv3 => ?_) (fun hv3 => ?_)
      · exact hout σ (by rw [hsk, skip_f hv3] ; exact h) hF
      · refine x_aload_n dX3_next_26 rfl ?_
        refine x_dup dX3_next_27 rfl ?_
        refine x_get (v := .int (nI p)) f_X3_22 d0 rfl dX3_next_28 ?_
        refine x_iconst (v := nI 1) dX3_next_31 (by decide) ?_
        refine x_iaddN dX3_next_32 ?_
        refine x_putK f_X3_22 d0 (Nat.le_of_ble_eq_true rfl) (fun c => ⟨rfl, rfl⟩) dX3_next_33 (fun sw4 gw4 Fw4 => ?_)
        refine x_goto (tgt := 0) dX3_next_36 (by decide) ?_
        exact ih (p + 1) sw4 ⟨gw4, (Fw4.at (by omega) d1), (Fw4.at (by omega) d2), lt1, (by first | exact lt2 | (rw [List.length_set]; exact lt2))⟩ (hF.tr (Fr.rf.tr (Fw4.mono (fun i hi => by omega)))) (by omega) (by rw [hsk, skip_t (by omega) hv3]) (by omega)
set_option maxHeartbeats 4000000 in
theorem l_word {Q : Option Value → ZS → Prop} {σ0 : ZS} {p0 : Nat} {tk tp tv fa sc lf jf : Int32} {St : List Int32} {L : List Nat} {Tp : List Int32} (hT : TxL L Tp) {d : Nat} (hd : 1 ≤ d) (hout : ∀ (σ : ZS), Rd σ (nI L.length) (nI (skip isLt L p0)) tk tp tv fa sc lf jf Tp St → Fr (fun i => i = 28) σ0 σ → X M_X3_readWord d 0 0 Q 0 0 39 [some (.ref 28), none] [] σ) : ∀ (q p : Nat) (σ : ZS) (h : Rd σ (nI L.length) (nI p) tk tp tv fa sc lf jf Tp St) (hF : Fr (fun i => i = 28) σ0 σ), p + q = L.length → skip isLt L p0 = skip isLt L p → p ≤ L.length → X M_X3_readWord d 0 0 (Q) 0 0 0 [some (.ref 28), none] [] σ := by
  intro q
  induction q with
  | zero =>
    intro p σ h hF hpq hsk hk
    obtain ⟨d0, d1, d2, lt1, lt2⟩ := id h
    have hL := hT.1
    refine x_aload_n dX3_readWord_0 rfl ?_
    refine x_get (v := .int (nI p)) f_X3_22 d0 rfl dX3_readWord_1 ?_
    refine x_aload_n dX3_readWord_4 rfl ?_
    refine x_get (v := .int (nI L.length)) f_X3_15 d0 rfl dX3_readWord_5 ?_
    refine x_icmpN_ge (tgt := 39) dX3_readWord_8 (by decide) (by omega) (by omega) (fun hv1 => ?_) (fun hv1 => ?_)
    · exact hout σ (by rw [hsk, skip_e (by omega)] ; exact h) hF
    · exact absurd hv1 (by omega)
  | succ q ih =>
    intro p σ h hF hpq hsk hk
    obtain ⟨d0, d1, d2, lt1, lt2⟩ := id h
    have hL := hT.1
    refine x_aload_n dX3_readWord_0 rfl ?_
    refine x_get (v := .int (nI p)) f_X3_22 d0 rfl dX3_readWord_1 ?_
    refine x_aload_n dX3_readWord_4 rfl ?_
    refine x_get (v := .int (nI L.length)) f_X3_15 d0 rfl dX3_readWord_5 ?_
    refine x_icmpN_ge (tgt := 39) dX3_readWord_8 (by decide) (by omega) (by omega) (fun hv1 => ?_) (fun hv1 => ?_)
    · exact absurd hv1 (by omega)
    · refine x_aload_n dX3_readWord_11 rfl ?_
      refine x_get (v := .ref 29) f_X3_11 d0 rfl dX3_readWord_12 ?_
      refine x_aload_n dX3_readWord_15 rfl ?_
      refine x_get (v := .int (nI p)) f_X3_22 d0 rfl dX3_readWord_16 ?_
      refine x_iald (n := p) d1 rfl (by rw [lt1]; omega) dX3_readWord_19 ?_
      refine x_topi (y := nI ((L.getD p 0))) (hT.2.1 p (by omega)) ?_
      refine x_callS m_X3_isSmallLetter l_X3_95 (c_isSmall (hT.2.2 _)) (by omega) rfl rfl (Nat.le_of_ble_eq_true rfl) ⟨Nat.le_refl _, Nat.le_refl _⟩ dX3_readWord_20 (fun r2 s2 q2 => ?_)
      obtain ⟨rfl, eq2⟩ := q2
      obtain rfl := eq2.symm
      refine x_stk (st' := [.int (bI ((isLt ((L.getD p 0)))))]) rfl ?_
      refine x_ifB_eq (tgt := 39) dX3_readWord_23 (by decide) (fun hv3 => ?_) (fun hv3 => ?_)
      · exact hout σ (by rw [hsk, skip_f hv3] ; exact h) hF
      · refine x_aload_n dX3_readWord_26 rfl ?_
        refine x_dup dX3_readWord_27 rfl ?_
        refine x_get (v := .int (nI p)) f_X3_22 d0 rfl dX3_readWord_28 ?_
        refine x_iconst (v := nI 1) dX3_readWord_31 (by decide) ?_
        refine x_iaddN dX3_readWord_32 ?_
        refine x_putK f_X3_22 d0 (Nat.le_of_ble_eq_true rfl) (fun c => ⟨rfl, rfl⟩) dX3_readWord_33 (fun sw4 gw4 Fw4 => ?_)
        refine x_goto (tgt := 0) dX3_readWord_36 (by decide) ?_
        exact ih (p + 1) sw4 ⟨gw4, (Fw4.at (by omega) d1), (Fw4.at (by omega) d2), lt1, (by first | exact lt2 | (rw [List.length_set]; exact lt2))⟩ (hF.tr (Fr.rf.tr (Fw4.mono (fun i hi => by omega)))) (by omega) (by rw [hsk, skip_t (by omega) hv3]) (by omega)
def spB (L : List Nat) (q e w : Nat) : Bool := decide (WD.getD w [] = sub L q e)
def spN (L : List Nat) (q w : Nat) (k : Nat) : Prop := ∀ i, i < k → L.getD (q + i) 0 = chr w i
theorem spB_iff {L : List Nat} {q e w : Nat} (hw : w < 12) (he : e ≤ L.length) : (WD.getD w [] = sub L q e) ↔ (zlen.getD w 0 = e - q ∧ spN L q w (zlen.getD w 0)) := by
  rw [zlen_eq w hw]
  constructor
  · intro h
    have hl : (WD.getD w []).length = e - q := by rw [h, sub_len he]
    refine ⟨hl, fun i hi => ?_⟩
    have e1 := sub_get (L := L) (q := q) (e := e) (i := i) (by omega) he
    rw [← h] at e1
    unfold chr
    rw [List.getD_eq_getElem?_getD (l := WD.getD w []), e1]
    rfl
  · rintro ⟨h1, h2⟩
    refine List.ext_getElem? (fun i => ?_)
    by_cases hi : i < e - q
    · rw [sub_get hi he, h2 i (by omega)]
      unfold chr
      rw [List.getD_eq_getElem?_getD (l := WD.getD w []), List.getElem?_eq_getElem (by omega)]
      rfl
    · rw [List.getElem?_eq_none (by omega), List.getElem?_eq_none (by rw [sub_len he]; omega)]
set_option maxHeartbeats 4000000 in
theorem l_spelled {σ : ZS} {q e w : Nat} {tk tv fa sc lf jf : Int32} {St : List Int32} {L : List Nat} {Tp : List Int32} (hT : TxL L Tp) (h : Rd σ (nI L.length) (nI e) tk (nI q) tv fa sc lf jf Tp St) (hqe : q ≤ e) (he : e ≤ L.length) (hw : w < 12) (hlen : zlen.getD w 0 = e - q) {d : Nat} (hd : 4 ≤ d) : ∀ (q9 k : Nat) (hsp : spN L q w k), k + q9 = zlen.getD w 0 → X M_X3_isSpelled d 0 0 (fun r9 σ' => r9 = some (.int (bI (spB L q e w))) ∧ σ' = σ) 0 0 20 [some (.ref 28), some (.ref ((3000 + w))), some (.int (nI k))] [] σ := by
  obtain ⟨d0, d1, d2, lt1, lt2⟩ := id h
  have hL := hT.1
  have hz8 := zlen_le w hw
  intro q9
  induction q9 with
  | zero =>
    intro k hsp hk
    refine x_iload_n dX3_isSpelled_20 rfl ?_
    refine x_aload_n dX3_isSpelled_21 rfl ?_
    refine x_callVS (by omega) m_J0_length_8abf5 rfl l_X3_118 (c_strlen hw) (by omega) rfl rfl (Nat.le_of_ble_eq_true rfl) ⟨Nat.le_refl _, Nat.le_refl _⟩ dX3_isSpelled_22 (fun r1 s1 q1 => ?_)
    obtain ⟨rfl, eq1⟩ := q1
    obtain rfl := eq1.symm
    refine x_stk (st' := [.int (nI ((zlen.getD w 0))), .int (nI k)]) rfl ?_
    refine x_icmpN_ge (tgt := 55) dX3_isSpelled_25 (by decide) (by omega) (by omega) (fun hv2 => ?_) (fun hv2 => ?_)
    · refine x_iconst (v := nI 1) dX3_isSpelled_55 (by decide) ?_
      exact x_zret ⟨Nat.le_refl _, Nat.le_refl _⟩ rfl (by decide) dX3_isSpelled_56 ⟨by rw [spB, bI_1 ((spB_iff hw he).mpr ⟨hlen, fun i hi => hsp i (by omega)⟩)], rfl⟩
    · exact absurd hv2 (by omega)
  | succ q9 ih =>
    intro k hsp hk
    refine x_iload_n dX3_isSpelled_20 rfl ?_
    refine x_aload_n dX3_isSpelled_21 rfl ?_
    refine x_callVS (by omega) m_J0_length_8abf5 rfl l_X3_118 (c_strlen hw) (by omega) rfl rfl (Nat.le_of_ble_eq_true rfl) ⟨Nat.le_refl _, Nat.le_refl _⟩ dX3_isSpelled_22 (fun r1 s1 q1 => ?_)
    obtain ⟨rfl, eq1⟩ := q1
    obtain rfl := eq1.symm
    refine x_stk (st' := [.int (nI ((zlen.getD w 0))), .int (nI k)]) rfl ?_
    refine x_icmpN_ge (tgt := 55) dX3_isSpelled_25 (by decide) (by omega) (by omega) (fun hv2 => ?_) (fun hv2 => ?_)
    · exact absurd hv2 (by omega)
    · refine x_aload_n dX3_isSpelled_28 rfl ?_
      refine x_get (v := .ref 29) f_X3_11 d0 rfl dX3_isSpelled_29 ?_
      refine x_aload_n dX3_isSpelled_32 rfl ?_
      refine x_get (v := .int (nI q)) f_X3_89 d0 rfl dX3_isSpelled_33 ?_
      refine x_iload_n dX3_isSpelled_36 rfl ?_
      refine x_iaddN dX3_isSpelled_37 ?_
      refine x_iald (n := q + k) d1 rfl (by rw [lt1]; omega) dX3_isSpelled_38 ?_
      refine x_topi (y := nI ((L.getD (q + k) 0))) (hT.2.1 _ (by omega)) ?_
      have hb1 := hT.2.2 (q + k)
      refine x_aload_n dX3_isSpelled_39 rfl ?_
      refine x_iload_n dX3_isSpelled_40 rfl ?_
      refine x_callVS (by omega) m_J0_charAt_5068e rfl l_X3_124 (c_charAt hw (by omega)) (by omega) rfl rfl (Nat.le_of_ble_eq_true rfl) ⟨Nat.le_refl _, Nat.le_refl _⟩ dX3_isSpelled_41 (fun r3 s3 q3 => ?_)
      obtain ⟨rfl, eq3⟩ := q3
      obtain rfl := eq3.symm
      refine x_stk (st' := [.int (nI ((chr w k))), .int (nI ((L.getD (q + k) 0)))]) rfl ?_
      have hb2 := chr_le w hw k (by omega)
      refine x_icmpN_eq (tgt := 49) dX3_isSpelled_44 (by decide) (by omega) (by omega) (fun hv4 => ?_) (fun hv4 => ?_)
      · refine x_iincN dX3_isSpelled_49 rfl (by decide) rfl ?_
        refine x_lv (lv' := [some (.ref 28), some (.ref ((3000 + w))), some (.int (nI (k + 1)))]) rfl ?_
        refine x_goto (tgt := 20) dX3_isSpelled_52 (by decide) ?_
        exact ih (k + 1) (fun i hi => by
          by_cases e9 : i = k
          · rw [e9]; exact hv4
          · exact hsp i (by omega)) (by omega)
      · refine x_iconst (v := nI 0) dX3_isSpelled_47 (by decide) ?_
        exact x_zret ⟨Nat.le_refl _, Nat.le_refl _⟩ rfl (by decide) dX3_isSpelled_48 ⟨by rw [spB, bI_0 (fun hq => hv4 (((spB_iff hw he).mp hq).2 k (by omega)))], rfl⟩
set_option maxHeartbeats 4000000 in
theorem c_isSpelled {σ : ZS} {q e w : Nat} {tk tv fa sc lf jf : Int32} {St : List Int32} {L : List Nat} {Tp : List Int32} (hT : TxL L Tp) (h : Rd σ (nI L.length) (nI e) tk (nI q) tv fa sc lf jf Tp St) (hqe : q ≤ e) (he : e ≤ L.length) (hw : w < 12) : Cn 4 M_X3_isSpelled 0 0 [.ref 28, .ref ((3000 + w))] σ (fun r9 σ' => r9 = some (.int (bI (spB L q e w))) ∧ σ' = σ) := by
  obtain ⟨d0, d1, d2, lt1, lt2⟩ := id h
  have hL := hT.1
  have hz8 := zlen_le w hw
  refine Cn.intro (lv0 := [some (.ref 28), some (.ref ((3000 + w))), none]) rfl (Nat.le_of_ble_eq_true rfl) rfl (fun d hd => ?_)
  refine x_aload_n dX3_isSpelled_0 rfl ?_
  refine x_callVS (by omega) m_J0_length_8abf5 rfl l_X3_118 (c_strlen hw) (by omega) rfl rfl (Nat.le_of_ble_eq_true rfl) ⟨Nat.le_refl _, Nat.le_refl _⟩ dX3_isSpelled_1 (fun r1 s1 q1 => ?_)
  obtain ⟨rfl, eq1⟩ := q1
  obtain rfl := eq1.symm
  refine x_stk (st' := [.int (nI ((zlen.getD w 0)))]) rfl ?_
  refine x_aload_n dX3_isSpelled_4 rfl ?_
  refine x_get (v := .int (nI e)) f_X3_22 d0 rfl dX3_isSpelled_5 ?_
  refine x_aload_n dX3_isSpelled_8 rfl ?_
  refine x_get (v := .int (nI q)) f_X3_89 d0 rfl dX3_isSpelled_9 ?_
  refine x_isubN (by omega) dX3_isSpelled_12 ?_
  refine x_icmpN_eq (tgt := 18) dX3_isSpelled_13 (by decide) (by omega) (by omega) (fun hv2 => ?_) (fun hv2 => ?_)
  · refine x_iconst (v := nI 0) dX3_isSpelled_18 (by decide) ?_
    refine x_istore_n dX3_isSpelled_19 (by decide) rfl ?_
    refine x_lv (lv' := [some (.ref 28), some (.ref ((3000 + w))), some (.int (nI 0))]) rfl ?_
    exact l_spelled hT h hqe he hw hv2 hd (zlen.getD w 0) 0 (fun i hi => absurd hi (by omega)) (by omega)
  · refine x_iconst (v := nI 0) dX3_isSpelled_16 (by decide) ?_
    exact x_zret ⟨Nat.le_refl _, Nat.le_refl _⟩ rfl (by decide) dX3_isSpelled_17 ⟨by rw [spB, bI_0 (fun hq => hv2 ((spB_iff hw he).mp hq).1)], rfl⟩
