theorem Cn.mono {kd : Nat} {M : MD} {mc ms : Nat} {as : List Value} {σ : ZS} {Q Q' : Option Value → ZS → Prop} (h : Cn kd M mc ms as σ Q) (hQ : ∀ r σ', Q r σ' → Q' r σ') : Cn kd M mc ms as σ Q' := by
  intro d hd l c p e ha hf hc s m args below hfr hap hP hK
  obtain ⟨n, o, h1, h2, h3, h4, h5⟩ := h d hd l c p e ha hf hc s m args below hfr hap hP hK
  obtain ⟨r, σ', a1, a2, a3⟩ := h4
  exact ⟨n, o, h1, h2, h3, ⟨r, σ', a1, a2, hQ r σ' a3⟩, h5⟩
/-- the reader at a token, S the steps so far; the reader behind a fault -/
def RdOk (σ : ZS) (L : List Nat) (Tp : List Int32) (lf jf : Int32) (S : List Nat) (p : Nat) : Prop := ∃ (tv : Int32) (St : List Int32), Rd σ (nI L.length) (nI (tkN L p)) (nI (tkK L p)) (nI (lexP L p)) tv (-1) (nI S.length) lf jf Tp St ∧ (tkK L p = 2 ∨ tkK L p = 3 → tv = nI (tkV L p)) ∧ (∀ i, i < S.length → St.getD i 0 = nI (S.getD i 0)) ∧ S.length ≤ 160
def RdFt (σ : ZS) (L : List Nat) (Tp : List Int32) (lf jf : Int32) (f : Nat) : Prop := ∃ (ap tp tv : Int32) (sc : Nat) (St : List Int32), Rd σ (nI L.length) ap (nI 1) tp tv (nI f) (nI sc) lf jf Tp St ∧ sc ≤ 160 ∧ f ≤ 160
def RdR (σ : ZS) (L : List Nat) (Tp : List Int32) (lf jf : Int32) (S : List Nat) (res : PR) : Prop := match res with
  | .inl f => RdFt σ L Tp lf jf f
  | .inr q => RdOk σ L Tp lf jf (S ++ q.1) q.2
theorem set_pre {St : List Int32} {S : List Nat} {x : Nat} (hl : S.length < St.length) (h : ∀ i, i < S.length → St.getD i 0 = nI (S.getD i 0)) : ∀ i, i < (S ++ [x]).length → (St.set S.length (nI x)).getD i 0 = nI ((S ++ [x]).getD i 0) := by
  intro i hi
  rw [List.length_append, List.length_singleton] at hi
  rw [gset hl]
  by_cases e : i = S.length
  · rw [if_pos e, e, List.getD_eq_getElem?_getD, List.getElem?_append_right (Nat.le_refl _)]
    simp
  · rw [if_neg e, h i (by omega), List.getD_eq_getElem?_getD, List.getD_eq_getElem?_getD, List.getElem?_append_left (by omega)]
set_option maxHeartbeats 4000000 in
theorem c_fail_ok {L : List Nat} {Tp : List Int32} {lf jf : Int32} {σ : ZS} {S : List Nat} {p : Nat} (hT : TxL L Tp) (hO : RdOk σ L Tp lf jf S p) (hp : p ≤ L.length) : Cn 0 M_X3_fail 0 0 [.ref 28] σ (fun r9 σ' => r9 = none ∧ RdFt σ' L Tp lf jf (lexP L p) ∧ Fr (fun i => i = 28) σ σ') := by
  obtain ⟨tv, St, h, hv, hS, hl⟩ := id hO
  obtain ⟨d_0, d_1, d_2, lt1, lt2⟩ := id h
  have hL := hT.1
  have hk9 := tkK_lt (L := L) (p := p)
  have hlp := lexP_b hp
  refine Cn.intro (lv0 := [some (.ref 28)]) rfl (Nat.le_of_ble_eq_true rfl) rfl (fun d hd => ?_)
  refine x_aload_n dX3_fail_0 rfl ?_
  refine x_get (v := .int ((-1))) f_X3_28 d_0 rfl dX3_fail_1 ?_
  refine x_iconst (v := (-1)) dX3_fail_4 (by decide) ?_
  refine x_icmpT_ne (p := (-1)) (q := (-1)) (tgt := 16) (by decide) (by decide) dX3_fail_5 (by decide) (fun hv1 => ?_) (fun hv1 => ?_)
  · exact absurd rfl hv1
  · refine x_aload_n dX3_fail_8 rfl ?_
    refine x_aload_n dX3_fail_9 rfl ?_
    refine x_get (v := .int (nI ((lexP L p)))) f_X3_89 d_0 rfl dX3_fail_10 ?_
    refine x_putK f_X3_28 d_0 (Nat.le_of_ble_eq_true rfl) (fun c => ⟨rfl, rfl⟩) dX3_fail_13 (fun sw2 gw2 Fw2 => ?_)
    refine x_aload_n dX3_fail_16 rfl ?_
    refine x_iconst (v := nI 1) dX3_fail_17 (by decide) ?_
    refine x_putK f_X3_47 gw2 (Nat.le_of_ble_eq_true rfl) (fun c => ⟨rfl, rfl⟩) dX3_fail_18 (fun sw3 gw3 Fw3 => ?_)
    exact x_vret ⟨Nat.le_refl _, Nat.le_refl _⟩ rfl dX3_fail_21 ⟨rfl, ⟨_, _, _, _, _, ⟨gw3, (Fw3.at (by omega) (Fw2.at (by omega) d_1)), (Fw3.at (by omega) (Fw2.at (by omega) d_2)), lt1, (by first | exact lt2 | (rw [List.length_set]; exact lt2))⟩, hl, by omega⟩, ((Fr.rf.tr (Fw2.mono (fun i hi => by omega))).tr (Fw3.mono (fun i hi => by omega)))⟩
set_option maxHeartbeats 4000000 in
theorem c_fail_ft {L : List Nat} {Tp : List Int32} {lf jf : Int32} {σ : ZS} {f : Nat} (hT : TxL L Tp) (hO : RdFt σ L Tp lf jf f) : Cn 0 M_X3_fail 0 0 [.ref 28] σ (fun r9 σ' => r9 = none ∧ RdFt σ' L Tp lf jf f ∧ Fr (fun i => i = 28) σ σ') := by
  obtain ⟨ap, tp, tv, sc, St, h, hsc, hf⟩ := id hO
  obtain ⟨d_0, d_1, d_2, lt1, lt2⟩ := id h
  have hL := hT.1
  refine Cn.intro (lv0 := [some (.ref 28)]) rfl (Nat.le_of_ble_eq_true rfl) rfl (fun d hd => ?_)
  refine x_aload_n dX3_fail_0 rfl ?_
  refine x_get (v := .int (nI f)) f_X3_28 d_0 rfl dX3_fail_1 ?_
  refine x_iconst (v := (-1)) dX3_fail_4 (by decide) ?_
  refine x_icmpT_ne (p := ((f : Nat) : Int)) (q := (-1)) (tgt := 16) (nI_toInt (by omega)) (by decide) dX3_fail_5 (by decide) (fun hv1 => ?_) (fun hv1 => ?_)
  · refine x_aload_n dX3_fail_16 rfl ?_
    refine x_iconst (v := nI 1) dX3_fail_17 (by decide) ?_
    refine x_putK f_X3_47 d_0 (Nat.le_of_ble_eq_true rfl) (fun c => ⟨rfl, rfl⟩) dX3_fail_18 (fun sw2 gw2 Fw2 => ?_)
    exact x_vret ⟨Nat.le_refl _, Nat.le_refl _⟩ rfl dX3_fail_21 ⟨rfl, ⟨_, _, _, _, _, ⟨gw2, (Fw2.at (by omega) d_1), (Fw2.at (by omega) d_2), lt1, (by first | exact lt2 | (rw [List.length_set]; exact lt2))⟩, hsc, hf⟩, (Fr.rf.tr (Fw2.mono (fun i hi => by omega)))⟩
  · exact absurd hv1 (by omega)
set_option maxHeartbeats 4000000 in
theorem c_add_ok {L : List Nat} {Tp : List Int32} {lf jf : Int32} {σ : ZS} {S : List Nat} {p x : Nat} (hT : TxL L Tp) (hO : RdOk σ L Tp lf jf S p) (h6 : S.length < 160) : Cn 0 M_X3_add 0 0 [.ref 28, .int (nI x)] σ (fun r9 σ' => r9 = none ∧ RdOk σ' L Tp lf jf (S ++ [x]) p ∧ Fr (fun i => i = 28 ∨ i = 30) σ σ') := by
  obtain ⟨tv, St, h, hv, hS, hl⟩ := id hO
  obtain ⟨d_0, d_1, d_2, lt1, lt2⟩ := id h
  have hL := hT.1
  have hk9 := tkK_lt (L := L) (p := p)
  refine Cn.intro (lv0 := [some (.ref 28), some (.int (nI x))]) rfl (Nat.le_of_ble_eq_true rfl) rfl (fun d hd => ?_)
  refine x_aload_n dX3_add_0 rfl ?_
  refine x_get (v := .int (nI S.length)) f_X3_25 d_0 rfl dX3_add_1 ?_
  refine x_sipush (v := nI 160) dX3_add_4 (by decide) ?_
  refine x_icmpN_ge (tgt := 30) dX3_add_7 (by decide) (by omega) (by omega) (fun hv1 => ?_) (fun hv1 => ?_)
  · exact absurd hv1 (by omega)
  · refine x_aload_n dX3_add_10 rfl ?_
    refine x_get (v := .ref 30) f_X3_19 d_0 rfl dX3_add_11 ?_
    refine x_aload_n dX3_add_14 rfl ?_
    refine x_get (v := .int (nI S.length)) f_X3_25 d_0 rfl dX3_add_15 ?_
    refine x_iload_n dX3_add_18 rfl ?_
    refine x_iastK (n := S.length) d_2 rfl (by rw [lt2]; omega) dX3_add_19 (fun sw2 gw2 Fw2 => ?_)
    refine x_aload_n dX3_add_20 rfl ?_
    refine x_dup dX3_add_21 rfl ?_
    refine x_get (v := .int (nI S.length)) f_X3_25 (Fw2.at (by omega) d_0) rfl dX3_add_22 ?_
    refine x_iconst (v := nI 1) dX3_add_25 (by decide) ?_
    refine x_iaddN dX3_add_26 ?_
    refine x_putK f_X3_25 (Fw2.at (by omega) d_0) (Nat.le_of_ble_eq_true rfl) (fun c => ⟨rfl, rfl⟩) dX3_add_27 (fun sw3 gw3 Fw3 => ?_)
    exact x_vret ⟨Nat.le_refl _, Nat.le_refl _⟩ rfl dX3_add_30 ⟨rfl, ⟨tv, _, by rw [List.length_append, List.length_singleton]; exact ⟨gw3, (Fw3.at (by omega) (Fw2.at (by omega) d_1)), (Fw3.at (by omega) gw2), lt1, (by first | exact lt2 | (rw [List.length_set]; exact lt2))⟩, hv, set_pre (by omega) hS, by rw [List.length_append, List.length_singleton]; omega⟩, ((Fr.rf.tr (Fw2.mono (fun i hi => by omega))).tr (Fw3.mono (fun i hi => by omega)))⟩
set_option maxHeartbeats 4000000 in
theorem c_add_ft {L : List Nat} {Tp : List Int32} {lf jf : Int32} {σ : ZS} {f : Nat} {x : Int32} (hT : TxL L Tp) (hO : RdFt σ L Tp lf jf f) : Cn 0 M_X3_add 0 0 [.ref 28, .int x] σ (fun r9 σ' => r9 = none ∧ RdFt σ' L Tp lf jf f ∧ Fr (fun i => i = 28 ∨ i = 30) σ σ') := by
  obtain ⟨ap, tp, tv, sc, St, h, hsc, hf⟩ := id hO
  obtain ⟨d_0, d_1, d_2, lt1, lt2⟩ := id h
  have hL := hT.1
  refine Cn.intro (lv0 := [some (.ref 28), some (.int x)]) rfl (Nat.le_of_ble_eq_true rfl) rfl (fun d hd => ?_)
  refine x_aload_n dX3_add_0 rfl ?_
  refine x_get (v := .int (nI sc)) f_X3_25 d_0 rfl dX3_add_1 ?_
  refine x_sipush (v := nI 160) dX3_add_4 (by decide) ?_
  refine x_icmpN_ge (tgt := 30) dX3_add_7 (by decide) (by omega) (by omega) (fun hv1 => ?_) (fun hv1 => ?_)
  · exact x_vret ⟨Nat.le_refl _, Nat.le_refl _⟩ rfl dX3_add_30 ⟨rfl, ⟨_, _, _, _, _, ⟨d_0, d_1, d_2, lt1, (by first | exact lt2 | (rw [List.length_set]; exact lt2))⟩, by omega, hf⟩, Fr.rf⟩
  · refine x_aload_n dX3_add_10 rfl ?_
    refine x_get (v := .ref 30) f_X3_19 d_0 rfl dX3_add_11 ?_
    refine x_aload_n dX3_add_14 rfl ?_
    refine x_get (v := .int (nI sc)) f_X3_25 d_0 rfl dX3_add_15 ?_
    refine x_iload_n dX3_add_18 rfl ?_
    refine x_iastK (n := sc) d_2 rfl (by rw [lt2]; omega) dX3_add_19 (fun sw2 gw2 Fw2 => ?_)
    refine x_aload_n dX3_add_20 rfl ?_
    refine x_dup dX3_add_21 rfl ?_
    refine x_get (v := .int (nI sc)) f_X3_25 (Fw2.at (by omega) d_0) rfl dX3_add_22 ?_
    refine x_iconst (v := nI 1) dX3_add_25 (by decide) ?_
    refine x_iaddN dX3_add_26 ?_
    refine x_putK f_X3_25 (Fw2.at (by omega) d_0) (Nat.le_of_ble_eq_true rfl) (fun c => ⟨rfl, rfl⟩) dX3_add_27 (fun sw3 gw3 Fw3 => ?_)
    exact x_vret ⟨Nat.le_refl _, Nat.le_refl _⟩ rfl dX3_add_30 ⟨rfl, ⟨_, _, _, _, _, ⟨gw3, (Fw3.at (by omega) (Fw2.at (by omega) d_1)), (Fw3.at (by omega) gw2), lt1, (by first | exact lt2 | (rw [List.length_set]; exact lt2))⟩, by omega, hf⟩, ((Fr.rf.tr (Fw2.mono (fun i hi => by omega))).tr (Fw3.mono (fun i hi => by omega)))⟩
theorem c_next_ok {L : List Nat} {Tp : List Int32} {lf jf : Int32} {σ : ZS} {S : List Nat} {p : Nat} (hT : TxL L Tp) (hO : RdOk σ L Tp lf jf S p) (hp : p ≤ L.length) : Cn 6 M_X3_next 0 0 [.ref 28] σ (fun r9 σ' => r9 = none ∧ RdOk σ' L Tp lf jf S (tkN L p) ∧ Fr (fun i => i = 28) σ σ') := by
  obtain ⟨tv, St, h, hv, hS, hl⟩ := hO
  refine (c_next hT (tkN_b hp).2.1 h).mono (fun r9 σ' hq => ?_)
  obtain ⟨h1, tv', h2, h3, h4⟩ := hq
  exact ⟨h1, ⟨tv', St, h2, h3, hS, hl⟩, h4⟩
set_option maxHeartbeats 4000000 in
theorem c_opens_no {L : List Nat} {Tp : List Int32} {lf jf : Int32} {σ : ZS} {S : List Nat} {p op : Nat} (hT : TxL L Tp) (hO : RdOk σ L Tp lf jf S p) (hp : p ≤ L.length) (ho : op = 5) : Cn 1 M_X3_opens 0 0 [.ref 28, .int (nI op)] σ (fun r9 σ' => r9 = some (.int (nI 0)) ∧ RdFt σ' L Tp lf jf (lexP L p) ∧ Fr (fun i => i = 28) σ σ') := by
  obtain ⟨tv, St, h, hv, hS, hl⟩ := id hO
  obtain ⟨d_0, d_1, d_2, lt1, lt2⟩ := id h
  have hL := hT.1
  have hk9 := tkK_lt (L := L) (p := p)
  refine Cn.intro (lv0 := [some (.ref 28), some (.int (nI op))]) rfl (Nat.le_of_ble_eq_true rfl) rfl (fun d hd => ?_)
  refine x_iload_n dX3_opens_0 rfl ?_
  refine x_iconst (v := nI 5) dX3_opens_1 (by decide) ?_
  refine x_icmpN_lt (tgt := 11) dX3_opens_2 (by decide) (by omega) (by omega) (fun hv1 => ?_) (fun hv1 => ?_)
  · exact absurd hv1 (by omega)
  · refine x_aload_n dX3_opens_5 rfl ?_
    refine x_callV m_X3_fail l_X3_50 (c_fail_ok hT hO hp) rfl d_0 (by omega) rfl rfl (Nat.le_of_ble_eq_true rfl) ⟨Nat.le_refl _, Nat.le_refl _⟩ dX3_opens_6 (fun r2 s2 q2 => ?_)
    obtain ⟨rfl, hO2, F2⟩ := q2
    refine x_stk (st' := []) rfl ?_
    refine x_iconst (v := nI 0) dX3_opens_9 (by decide) ?_
    exact x_zret ⟨Nat.le_refl _, Nat.le_refl _⟩ rfl (by decide) dX3_opens_10 ⟨rfl, hO2, (Fr.rf.tr (F2.mono (fun i hi => by omega)))⟩
set_option maxHeartbeats 4000000 in
theorem c_opens_yes {L : List Nat} {Tp : List Int32} {lf jf : Int32} {σ : ZS} {S : List Nat} {p op : Nat} (hT : TxL L Tp) (hO : RdOk σ L Tp lf jf S p) (hp : p ≤ L.length) (ho : op < 5) : Cn 7 M_X3_opens 0 0 [.ref 28, .int (nI op)] σ (fun r9 σ' => r9 = some (.int (nI 1)) ∧ RdOk σ' L Tp lf jf S (tkN L p) ∧ Fr (fun i => i = 28) σ σ') := by
  obtain ⟨tv, St, h, hv, hS, hl⟩ := id hO
  obtain ⟨d_0, d_1, d_2, lt1, lt2⟩ := id h
  have hL := hT.1
  have hk9 := tkK_lt (L := L) (p := p)
  refine Cn.intro (lv0 := [some (.ref 28), some (.int (nI op))]) rfl (Nat.le_of_ble_eq_true rfl) rfl (fun d hd => ?_)
  refine x_iload_n dX3_opens_0 rfl ?_
  refine x_iconst (v := nI 5) dX3_opens_1 (by decide) ?_
  refine x_icmpN_lt (tgt := 11) dX3_opens_2 (by decide) (by omega) (by omega) (fun hv1 => ?_) (fun hv1 => ?_)
  · refine x_aload_n dX3_opens_11 rfl ?_
    refine x_callV m_X3_next l_X3_31 (c_next_ok hT hO hp) rfl d_0 (by omega) rfl rfl (Nat.le_of_ble_eq_true rfl) ⟨Nat.le_refl _, Nat.le_refl _⟩ dX3_opens_12 (fun r2 s2 q2 => ?_)
    obtain ⟨rfl, hO2, F2⟩ := q2
    refine x_stk (st' := []) rfl ?_
    refine x_iconst (v := nI 1) dX3_opens_15 (by decide) ?_
    exact x_zret ⟨Nat.le_refl _, Nat.le_refl _⟩ rfl (by decide) dX3_opens_16 ⟨rfl, hO2, (Fr.rf.tr (F2.mono (fun i hi => by omega)))⟩
  · exact absurd hv1 (by omega)
def RdX (σ : ZS) (L : List Nat) (Tp : List Int32) (lf jf : Int32) (S : List Nat) (x : Nat ⊕ Nat) : Prop := match x with
  | .inl f => RdFt σ L Tp lf jf f
  | .inr p => RdOk σ L Tp lf jf S p
set_option maxHeartbeats 4000000 in
theorem c_expect_ok {L : List Nat} {Tp : List Int32} {lf jf : Int32} {σ : ZS} {S : List Nat} {p k : Nat} (hT : TxL L Tp) (hO : RdOk σ L Tp lf jf S p) (hp : p ≤ L.length) (hk : k < 100) : Cn 7 M_X3_expect 0 0 [.ref 28, .int (nI k)] σ (fun r9 σ' => r9 = none ∧ RdX σ' L Tp lf jf S (pExp L k (.inr p)) ∧ Fr (fun i => i = 28) σ σ') := by
  obtain ⟨tv, St, h, hv, hS, hl⟩ := id hO
  obtain ⟨d_0, d_1, d_2, lt1, lt2⟩ := id h
  have hL := hT.1
  have hk9 := tkK_lt (L := L) (p := p)
  refine Cn.intro (lv0 := [some (.ref 28), some (.int (nI k))]) rfl (Nat.le_of_ble_eq_true rfl) rfl (fun d hd => ?_)
  refine x_aload_n dX3_expect_0 rfl ?_
  refine x_get (v := .int (nI ((tkK L p)))) f_X3_47 d_0 rfl dX3_expect_1 ?_
  refine x_iload_n dX3_expect_4 rfl ?_
  refine x_icmpN_ne (tgt := 15) dX3_expect_5 (by decide) (by omega) (by omega) (fun hv1 => ?_) (fun hv1 => ?_)
  · refine x_aload_n dX3_expect_15 rfl ?_
    refine x_callV m_X3_fail l_X3_50 (c_fail_ok hT hO hp) rfl d_0 (by omega) rfl rfl (Nat.le_of_ble_eq_true rfl) ⟨Nat.le_refl _, Nat.le_refl _⟩ dX3_expect_16 (fun r2 s2 q2 => ?_)
    obtain ⟨rfl, hO2, F2⟩ := q2
    refine x_stk (st' := []) rfl ?_
    exact x_vret ⟨Nat.le_refl _, Nat.le_refl _⟩ rfl dX3_expect_19 ⟨rfl, by rw [pExp, if_neg (by omega)]; exact hO2, (Fr.rf.tr (F2.mono (fun i hi => by omega)))⟩
  · refine x_aload_n dX3_expect_8 rfl ?_
    refine x_callV m_X3_next l_X3_31 (c_next_ok hT hO hp) rfl d_0 (by omega) rfl rfl (Nat.le_of_ble_eq_true rfl) ⟨Nat.le_refl _, Nat.le_refl _⟩ dX3_expect_9 (fun r3 s3 q3 => ?_)
    obtain ⟨rfl, hO3, F3⟩ := q3
    refine x_stk (st' := []) rfl ?_
    refine x_goto (tgt := 19) dX3_expect_12 (by decide) ?_
    exact x_vret ⟨Nat.le_refl _, Nat.le_refl _⟩ rfl dX3_expect_19 ⟨rfl, by rw [pExp, if_pos (by omega)]; exact hO3, (Fr.rf.tr (F3.mono (fun i hi => by omega)))⟩
set_option maxHeartbeats 4000000 in
theorem c_expect_ft {L : List Nat} {Tp : List Int32} {lf jf : Int32} {σ : ZS} {f k : Nat} (hT : TxL L Tp) (hO : RdFt σ L Tp lf jf f) (hk : k < 100) (hk1 : k ≠ 1) : Cn 7 M_X3_expect 0 0 [.ref 28, .int (nI k)] σ (fun r9 σ' => r9 = none ∧ RdFt σ' L Tp lf jf f ∧ Fr (fun i => i = 28) σ σ') := by
  obtain ⟨ap, tp, tv, sc, St, h, hsc, hf⟩ := id hO
  obtain ⟨d_0, d_1, d_2, lt1, lt2⟩ := id h
  have hL := hT.1
  refine Cn.intro (lv0 := [some (.ref 28), some (.int (nI k))]) rfl (Nat.le_of_ble_eq_true rfl) rfl (fun d hd => ?_)
  refine x_aload_n dX3_expect_0 rfl ?_
  refine x_get (v := .int (nI 1)) f_X3_47 d_0 rfl dX3_expect_1 ?_
  refine x_iload_n dX3_expect_4 rfl ?_
  refine x_icmpN_ne (tgt := 15) dX3_expect_5 (by decide) (by omega) (by omega) (fun hv1 => ?_) (fun hv1 => ?_)
  · refine x_aload_n dX3_expect_15 rfl ?_
    refine x_callV m_X3_fail l_X3_50 (c_fail_ft hT hO) rfl d_0 (by omega) rfl rfl (Nat.le_of_ble_eq_true rfl) ⟨Nat.le_refl _, Nat.le_refl _⟩ dX3_expect_16 (fun r2 s2 q2 => ?_)
    obtain ⟨rfl, hO2, F2⟩ := q2
    refine x_stk (st' := []) rfl ?_
    exact x_vret ⟨Nat.le_refl _, Nat.le_refl _⟩ rfl dX3_expect_19 ⟨rfl, hO2, (Fr.rf.tr (F2.mono (fun i hi => by omega)))⟩
  · exact absurd hv1 (by omega)
set_option maxHeartbeats 4000000 in
theorem c_one_ft {L : List Nat} {Tp : List Int32} {lf jf : Int32} {σ : ZS} {f op : Nat} (hT : TxL L Tp) (hO : RdFt σ L Tp lf jf f) : Cn 1 M_X3_readOne 0 0 [.ref 28, .int (nI op)] σ (fun r9 σ' => r9 = none ∧ RdFt σ' L Tp lf jf f ∧ Fr (fun i => i = 28 ∨ i = 30) σ σ') := by
  obtain ⟨ap, tp, tv, sc, St, h, hsc, hf⟩ := id hO
  obtain ⟨d_0, d_1, d_2, lt1, lt2⟩ := id h
  refine Cn.intro (lv0 := [some (.ref 28), some (.int (nI op))]) rfl (Nat.le_of_ble_eq_true rfl) rfl (fun d hd => ?_)
  refine x_aload_n dX3_readOne_0 rfl ?_
  refine x_get (v := .int (nI 1)) f_X3_47 d_0 rfl dX3_readOne_1 ?_
  refine x_lookup (off := 119) (tgt := 123) dX3_readOne_4 (by decide) (by decide) (by decide) ?_
  refine x_aload_n dX3_readOne_123 rfl ?_
  refine x_callV m_X3_fail l_X3_50 (c_fail_ft hT hO) rfl d_0 (by omega) rfl rfl (Nat.le_of_ble_eq_true rfl) ⟨Nat.le_refl _, Nat.le_refl _⟩ dX3_readOne_124 (fun r1 s1 q1 => ?_)
  obtain ⟨rfl, hO1, F1⟩ := q1
  obtain ⟨ap1, tp1, tv1, sc1, St1, h1, hsc1, hf1⟩ := id hO1
  obtain ⟨d1_0, d1_1, d1_2, lt11, lt21⟩ := id h1
  refine x_stk (st' := []) rfl ?_
  exact x_vret ⟨Nat.le_refl _, Nat.le_refl _⟩ rfl dX3_readOne_127 ⟨rfl, hO1, (Fr.rf.tr (F1.mono (fun i hi => by omega)))⟩
set_option maxHeartbeats 4000000 in
theorem c_term_ft {L : List Nat} {Tp : List Int32} {lf jf : Int32} {σ : ZS} {f op : Nat} (hT : TxL L Tp) (hO : RdFt σ L Tp lf jf f) : Cn 2 M_X3_readTerm 0 0 [.ref 28, .int (nI op)] σ (fun r9 σ' => r9 = none ∧ RdFt σ' L Tp lf jf f ∧ Fr (fun i => i = 28 ∨ i = 30) σ σ') := by
  obtain ⟨ap, tp, tv, sc, St, h, hsc, hf⟩ := id hO
  obtain ⟨d_0, d_1, d_2, lt1, lt2⟩ := id h
  have hL := hT.1
  refine Cn.intro (lv0 := [some (.ref 28), some (.int (nI op)), none]) rfl (Nat.le_of_ble_eq_true rfl) rfl (fun d hd => ?_)
  refine x_aload_n dX3_readTerm_0 rfl ?_
  refine x_iload_n dX3_readTerm_1 rfl ?_
  refine x_callV m_X3_readOne l_X3_83 (c_one_ft hT hO) rfl d_0 (by omega) rfl rfl (Nat.le_of_ble_eq_true rfl) ⟨Nat.le_refl _, Nat.le_refl _⟩ dX3_readTerm_2 (fun r1 s1 q1 => ?_)
  obtain ⟨rfl, hO1, F1⟩ := q1
  obtain ⟨ap1, tp1, tv1, sc1, St1, h1, hsc1, hf1⟩ := id hO1
  obtain ⟨d1_0, d1_1, d1_2, lt11, lt21⟩ := id h1
  refine x_stk (st' := []) rfl ?_
  refine x_iconst (v := nI 0) dX3_readTerm_5 (by decide) ?_
  refine x_istore_n dX3_readTerm_6 (by decide) rfl ?_
  refine x_lv (lv' := [some (.ref 28), some (.int (nI op)), some (.int (nI 0))]) rfl ?_
  refine x_iload_n dX3_readTerm_7 rfl ?_
  refine x_sipush (v := nI 160) dX3_readTerm_8 (by decide) ?_
  refine x_icmpN_ge (tgt := 45) dX3_readTerm_11 (by decide) (by omega) (by omega) (fun hv2 => ?_) (fun hv2 => ?_)
  · exact absurd hv2 (by decide)
  · refine x_aload_n dX3_readTerm_14 rfl ?_
    refine x_get (v := .int (nI 1)) f_X3_47 d1_0 rfl dX3_readTerm_15 ?_
    refine x_bipush (v := nI 42) dX3_readTerm_18 (by decide) ?_
    refine x_icmpN_ne (tgt := 45) dX3_readTerm_20 (by decide) (by omega) (by omega) (fun hv3 => ?_) (fun hv3 => ?_)
    · exact x_vret ⟨Nat.le_refl _, Nat.le_refl _⟩ rfl dX3_readTerm_45 ⟨rfl, hO1, (Fr.rf.tr (F1.mono (fun i hi => by omega)))⟩
    · exact absurd hv3 (by decide)
set_option maxHeartbeats 4000000 in
theorem c_sum_ft {L : List Nat} {Tp : List Int32} {lf jf : Int32} {σ : ZS} {f op : Nat} (hT : TxL L Tp) (hO : RdFt σ L Tp lf jf f) : Cn 3 M_X3_readSum 0 0 [.ref 28, .int (nI op)] σ (fun r9 σ' => r9 = none ∧ RdFt σ' L Tp lf jf f ∧ Fr (fun i => i = 28 ∨ i = 30) σ σ') := by
  obtain ⟨ap, tp, tv, sc, St, h, hsc, hf⟩ := id hO
  obtain ⟨d_0, d_1, d_2, lt1, lt2⟩ := id h
  have hL := hT.1
  refine Cn.intro (lv0 := [some (.ref 28), some (.int (nI op)), none, none]) rfl (Nat.le_of_ble_eq_true rfl) rfl (fun d hd => ?_)
  refine x_aload_n dX3_readSum_0 rfl ?_
  refine x_iload_n dX3_readSum_1 rfl ?_
  refine x_callV m_X3_readTerm l_X3_80 (c_term_ft hT hO) rfl d_0 (by omega) rfl rfl (Nat.le_of_ble_eq_true rfl) ⟨Nat.le_refl _, Nat.le_refl _⟩ dX3_readSum_2 (fun r1 s1 q1 => ?_)
  obtain ⟨rfl, hO1, F1⟩ := q1
  obtain ⟨ap1, tp1, tv1, sc1, St1, h1, hsc1, hf1⟩ := id hO1
  obtain ⟨d1_0, d1_1, d1_2, lt11, lt21⟩ := id h1
  refine x_stk (st' := []) rfl ?_
  refine x_iconst (v := nI 0) dX3_readSum_5 (by decide) ?_
  refine x_istore_n dX3_readSum_6 (by decide) rfl ?_
  refine x_lv (lv' := [some (.ref 28), some (.int (nI op)), some (.int (nI 0)), none]) rfl ?_
  refine x_iload_n dX3_readSum_7 rfl ?_
  refine x_sipush (v := nI 160) dX3_readSum_8 (by decide) ?_
  refine x_icmpN_ge (tgt := 61) dX3_readSum_11 (by decide) (by omega) (by omega) (fun hv2 => ?_) (fun hv2 => ?_)
  · exact absurd hv2 (by decide)
  · refine x_aload_n dX3_readSum_14 rfl ?_
    refine x_get (v := .int (nI 1)) f_X3_47 d1_0 rfl dX3_readSum_15 ?_
    refine x_bipush (v := nI 43) dX3_readSum_18 (by decide) ?_
    refine x_icmpN_eq (tgt := 32) dX3_readSum_20 (by decide) (by omega) (by omega) (fun hv3 => ?_) (fun hv3 => ?_)
    · exact absurd hv3 (by decide)
    · refine x_aload_n dX3_readSum_23 rfl ?_
      refine x_get (v := .int (nI 1)) f_X3_47 d1_0 rfl dX3_readSum_24 ?_
      refine x_bipush (v := nI 45) dX3_readSum_27 (by decide) ?_
      refine x_icmpN_ne (tgt := 61) dX3_readSum_29 (by decide) (by omega) (by omega) (fun hv4 => ?_) (fun hv4 => ?_)
      · exact x_vret ⟨Nat.le_refl _, Nat.le_refl _⟩ rfl dX3_readSum_61 ⟨rfl, hO1, (Fr.rf.tr (F1.mono (fun i hi => by omega)))⟩
      · exact absurd hv4 (by decide)
set_option maxHeartbeats 4000000 in
theorem c_not_ft {L : List Nat} {Tp : List Int32} {lf jf : Int32} {σ : ZS} {f op : Nat} (hT : TxL L Tp) (hO : RdFt σ L Tp lf jf f) : Cn 4 M_X3_readNot 0 0 [.ref 28, .int (nI op)] σ (fun r9 σ' => r9 = none ∧ RdFt σ' L Tp lf jf f ∧ Fr (fun i => i = 28 ∨ i = 30) σ σ') := by
  obtain ⟨ap, tp, tv, sc, St, h, hsc, hf⟩ := id hO
  obtain ⟨d_0, d_1, d_2, lt1, lt2⟩ := id h
  have hL := hT.1
  refine Cn.intro (lv0 := [some (.ref 28), some (.int (nI op)), none]) rfl (Nat.le_of_ble_eq_true rfl) rfl (fun d hd => ?_)
  refine x_aload_n dX3_readNot_0 rfl ?_
  refine x_get (v := .int (nI 1)) f_X3_47 d_0 rfl dX3_readNot_1 ?_
  refine x_bipush (v := nI 10) dX3_readNot_4 (by decide) ?_
  refine x_icmpN_ne (tgt := 32) dX3_readNot_6 (by decide) (by omega) (by omega) (fun hv1 => ?_) (fun hv1 => ?_)
  · refine x_aload_n dX3_readNot_32 rfl ?_
    refine x_iload_n dX3_readNot_33 rfl ?_
    refine x_callV m_X3_readSum l_X3_77 (c_sum_ft hT hO) rfl d_0 (by omega) rfl rfl (Nat.le_of_ble_eq_true rfl) ⟨Nat.le_refl _, Nat.le_refl _⟩ dX3_readNot_34 (fun r2 s2 q2 => ?_)
    obtain ⟨rfl, hO2, F2⟩ := q2
    obtain ⟨ap2, tp2, tv2, sc2, St2, h2, hsc2, hf2⟩ := id hO2
    obtain ⟨d2_0, d2_1, d2_2, lt12, lt22⟩ := id h2
    refine x_stk (st' := []) rfl ?_
    refine x_aload_n dX3_readNot_37 rfl ?_
    refine x_get (v := .int (nI 1)) f_X3_47 d2_0 rfl dX3_readNot_38 ?_
    refine x_bipush (v := nI 60) dX3_readNot_41 (by decide) ?_
    refine x_icmpN_eq (tgt := 55) dX3_readNot_43 (by decide) (by omega) (by omega) (fun hv3 => ?_) (fun hv3 => ?_)
    · exact absurd hv3 (by decide)
    · refine x_aload_n dX3_readNot_46 rfl ?_
      refine x_get (v := .int (nI 1)) f_X3_47 d2_0 rfl dX3_readNot_47 ?_
      refine x_bipush (v := nI 61) dX3_readNot_50 (by decide) ?_
      refine x_icmpN_ne (tgt := 78) dX3_readNot_52 (by decide) (by omega) (by omega) (fun hv4 => ?_) (fun hv4 => ?_)
      · exact x_vret ⟨Nat.le_refl _, Nat.le_refl _⟩ rfl dX3_readNot_78 ⟨rfl, hO2, (Fr.rf.tr (F2.mono (fun i hi => by omega)))⟩
      · exact absurd hv4 (by decide)
  · exact absurd hv1 (by decide)
set_option maxHeartbeats 4000000 in
theorem c_both_ft {L : List Nat} {Tp : List Int32} {lf jf : Int32} {σ : ZS} {f op : Nat} (hT : TxL L Tp) (hO : RdFt σ L Tp lf jf f) : Cn 5 M_X3_readBoth 0 0 [.ref 28, .int (nI op)] σ (fun r9 σ' => r9 = none ∧ RdFt σ' L Tp lf jf f ∧ Fr (fun i => i = 28 ∨ i = 30) σ σ') := by
  obtain ⟨ap, tp, tv, sc, St, h, hsc, hf⟩ := id hO
  obtain ⟨d_0, d_1, d_2, lt1, lt2⟩ := id h
  have hL := hT.1
  refine Cn.intro (lv0 := [some (.ref 28), some (.int (nI op)), none]) rfl (Nat.le_of_ble_eq_true rfl) rfl (fun d hd => ?_)
  refine x_aload_n dX3_readBoth_0 rfl ?_
  refine x_iload_n dX3_readBoth_1 rfl ?_
  refine x_callV m_X3_readNot l_X3_70 (c_not_ft hT hO) rfl d_0 (by omega) rfl rfl (Nat.le_of_ble_eq_true rfl) ⟨Nat.le_refl _, Nat.le_refl _⟩ dX3_readBoth_2 (fun r1 s1 q1 => ?_)
  obtain ⟨rfl, hO1, F1⟩ := q1
  obtain ⟨ap1, tp1, tv1, sc1, St1, h1, hsc1, hf1⟩ := id hO1
  obtain ⟨d1_0, d1_1, d1_2, lt11, lt21⟩ := id h1
  refine x_stk (st' := []) rfl ?_
  refine x_iconst (v := nI 0) dX3_readBoth_5 (by decide) ?_
  refine x_istore_n dX3_readBoth_6 (by decide) rfl ?_
  refine x_lv (lv' := [some (.ref 28), some (.int (nI op)), some (.int (nI 0))]) rfl ?_
  refine x_iload_n dX3_readBoth_7 rfl ?_
  refine x_sipush (v := nI 160) dX3_readBoth_8 (by decide) ?_
  refine x_icmpN_ge (tgt := 45) dX3_readBoth_11 (by decide) (by omega) (by omega) (fun hv2 => ?_) (fun hv2 => ?_)
  · exact absurd hv2 (by decide)
  · refine x_aload_n dX3_readBoth_14 rfl ?_
    refine x_get (v := .int (nI 1)) f_X3_47 d1_0 rfl dX3_readBoth_15 ?_
    refine x_bipush (v := nI 9) dX3_readBoth_18 (by decide) ?_
    refine x_icmpN_ne (tgt := 45) dX3_readBoth_20 (by decide) (by omega) (by omega) (fun hv3 => ?_) (fun hv3 => ?_)
    · exact x_vret ⟨Nat.le_refl _, Nat.le_refl _⟩ rfl dX3_readBoth_45 ⟨rfl, hO1, (Fr.rf.tr (F1.mono (fun i hi => by omega)))⟩
    · exact absurd hv3 (by decide)
set_option maxHeartbeats 4000000 in
theorem c_ei_ft {L : List Nat} {Tp : List Int32} {lf jf : Int32} {σ : ZS} {f op : Nat} (hT : TxL L Tp) (hO : RdFt σ L Tp lf jf f) : Cn 6 M_X3_readEither 0 0 [.ref 28, .int (nI op)] σ (fun r9 σ' => r9 = none ∧ RdFt σ' L Tp lf jf f ∧ Fr (fun i => i = 28 ∨ i = 30) σ σ') := by
  obtain ⟨ap, tp, tv, sc, St, h, hsc, hf⟩ := id hO
  obtain ⟨d_0, d_1, d_2, lt1, lt2⟩ := id h
  have hL := hT.1
  refine Cn.intro (lv0 := [some (.ref 28), some (.int (nI op)), none]) rfl (Nat.le_of_ble_eq_true rfl) rfl (fun d hd => ?_)
  refine x_aload_n dX3_readEither_0 rfl ?_
  refine x_iload_n dX3_readEither_1 rfl ?_
  refine x_callV m_X3_readBoth l_X3_64 (c_both_ft hT hO) rfl d_0 (by omega) rfl rfl (Nat.le_of_ble_eq_true rfl) ⟨Nat.le_refl _, Nat.le_refl _⟩ dX3_readEither_2 (fun r1 s1 q1 => ?_)
  obtain ⟨rfl, hO1, F1⟩ := q1
  obtain ⟨ap1, tp1, tv1, sc1, St1, h1, hsc1, hf1⟩ := id hO1
  obtain ⟨d1_0, d1_1, d1_2, lt11, lt21⟩ := id h1
  refine x_stk (st' := []) rfl ?_
  refine x_iconst (v := nI 0) dX3_readEither_5 (by decide) ?_
  refine x_istore_n dX3_readEither_6 (by decide) rfl ?_
  refine x_lv (lv' := [some (.ref 28), some (.int (nI op)), some (.int (nI 0))]) rfl ?_
  refine x_iload_n dX3_readEither_7 rfl ?_
  refine x_sipush (v := nI 160) dX3_readEither_8 (by decide) ?_
  refine x_icmpN_ge (tgt := 45) dX3_readEither_11 (by decide) (by omega) (by omega) (fun hv2 => ?_) (fun hv2 => ?_)
  · exact absurd hv2 (by decide)
  · refine x_aload_n dX3_readEither_14 rfl ?_
    refine x_get (v := .int (nI 1)) f_X3_47 d1_0 rfl dX3_readEither_15 ?_
    refine x_bipush (v := nI 8) dX3_readEither_18 (by decide) ?_
    refine x_icmpN_ne (tgt := 45) dX3_readEither_20 (by decide) (by omega) (by omega) (fun hv3 => ?_) (fun hv3 => ?_)
    · exact x_vret ⟨Nat.le_refl _, Nat.le_refl _⟩ rfl dX3_readEither_45 ⟨rfl, hO1, (Fr.rf.tr (F1.mono (fun i hi => by omega)))⟩
    · exact absurd hv3 (by decide)
