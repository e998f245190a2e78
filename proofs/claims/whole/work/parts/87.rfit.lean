/-! tables that were told: what would fit -/
def fitB (f : Nat → Bool) : Nat → Nat
  | 0 => 0
  | v + 1 => fitB f v ||| (if f v = true then 2 ^ v else 0)
def fitC (f : Nat → Bool) : Nat → Nat
  | 0 => 0
  | v + 1 => fitC f v + (if f v = true then 1 else 0)
def fitM (f : Nat → Bool) : Nat → Option Nat
  | 0 => none
  | v + 1 => if f v = true then some v else fitM f v
theorem fitB_lt {f : Nat → Bool} : ∀ {v : Nat}, fitB f v < 2 ^ v
  | 0 => Nat.zero_lt_one
  | v + 1 => by
    rw [fitB]
    refine Nat.or_lt_two_pow (Nat.lt_of_lt_of_le fitB_lt (Nat.pow_le_pow_right (by decide) (by omega))) ?_
    split
    · exact Nat.pow_lt_pow_right (by decide) (by omega)
    · exact Nat.two_pow_pos _
theorem fitC_le {f : Nat → Bool} : ∀ {v : Nat}, fitC f v ≤ v
  | 0 => Nat.le_refl _
  | v + 1 => by
    have := fitC_le (f := f) (v := v)
    rw [fitC]
    split <;> omega
theorem fitM_lt {f : Nat → Bool} : ∀ {v c : Nat}, fitM f v = some c → c < v
  | 0, c, h => by cases h
  | v + 1, c, h => by
    rw [fitM] at h
    split at h
    · cases h; omega
    · have := fitM_lt h; omega
theorem ls_back {l : List Int32} {p : Nat} {u : Int32} (h : p < l.length) : (l.set p u).set p (l.getD p 0) = l := by
  rw [List.set_set]
  refine List.ext_getElem? (fun j => ?_)
  by_cases hj : j = p
  · subst hj
    rw [List.getElem?_set_self h, List.getD_eq_getElem?_getD, List.getElem?_eq_getElem h]
    rfl
  · rw [List.getElem?_set_ne (fun z => hj z.symm)]
theorem RC.setK {a : Nat → Int32} {b b' : Nat → List Int32} {rr n : Nat} {K N : List Nat} {W : List Int32} {D : List Nat} {f9 : Int32} {p v : Nat} (h : RC a b rr n K N W D f9) (hb : Fb 3 b b') (h3 : b' 3 = (b 3).set p (nI v)) (hl : (b 3).length = 7) (hK : K.length = 7) (hp : p < 7) (hv : v ≤ 5) : RC a b' rr n (K.set p v) N W D f9 := by
  obtain ⟨c7, hrr, c13, hn7, c14, cK, cN, cW, cD, hN7, hW7, hD49, hK5, hN9, hD999⟩ := h
  refine ⟨c7, hrr, c13, hn7, c14, fun i hi => ?_, by rw [hb 4 (by decide)]; exact cN, by rw [hb 5 (by decide)]; exact cW, by rw [hb 6 (by decide)]; exact cD, hN7, hW7, hD49, getD_set_le hK5 hv, hN9, hD999⟩
  rw [h3, gset (by omega), getD_set]
  by_cases e : i = p
  · rw [if_pos e, if_pos ⟨e.symm, by omega⟩]
  · rw [if_neg e, if_neg (fun q => e q.1.symm)]; exact cK i hi
theorem RC.setN {a : Nat → Int32} {b b' : Nat → List Int32} {rr n : Nat} {K N : List Nat} {W : List Int32} {D : List Nat} {f9 : Int32} {p v : Nat} (h : RC a b rr n K N W D f9) (hb : Fb 4 b b') (h4 : b' 4 = (b 4).set p (nI v)) (hv : v ≤ 9) : RC a b' rr n K (N.set p v) W D f9 := by
  obtain ⟨c7, hrr, c13, hn7, c14, cK, cN, cW, cD, hN7, hW7, hD49, hK5, hN9, hD999⟩ := h
  exact ⟨c7, hrr, c13, hn7, c14, fun i hi => by rw [hb 3 (by decide)]; exact cK i hi, by rw [h4, cN, gm_set], by rw [hb 5 (by decide)]; exact cW, by rw [hb 6 (by decide)]; exact cD, by rw [List.length_set]; exact hN7, hW7, hD49, hK5, getD_set_le hN9 hv, hD999⟩
theorem TW.setC {a : Nat → Int32} {b b' : Nat → List Int32} {rr n : Nat} {K N K2 N2 : List Nat} {W : List Int32} {D D2 : List Nat} {f9 : Int32} {ru : Nat} {L S : List Nat} {lf jf m : Nat} {t : List Nat} (h : TW a b rr n K N W D f9 ru L S lf jf m t) (hC : RC a b' rr n K2 N2 W D2 f9) (h0 : b' 0 = b 0) (h1 : b' 1 = b 1) (h7 : b' 7 = b 7) : TW a b' rr n K2 N2 W D2 f9 ru L S lf jf m t := by
  obtain ⟨-, hT, c31, hm, cT, r⟩ := h
  exact ⟨hC, hT.setB h0 h1, c31, hm, by rw [h7]; exact cT, r⟩
theorem ls_self {l : List Int32} {p : Nat} (h : p < l.length) : l.set p (l.getD p 0) = l := by
  have := ls_back (u := l.getD p 0) h
  rw [List.set_set] at this
  exact this
set_option maxHeartbeats 4000000 in
theorem lr_toldBy4 {σ0 : ZS} {a : Nat → Int32} {tw : Int64} {b0 : Nat → List Int32} {rr n : Nat} {K N : List Nat} {W : List Int32} {D : List Nat} {ru : Nat} {L S : List Nat} {lf jf m : Nat} {t : List Nat} (hW0 : TW a b0 rr n K N W D (-1) ru L S lf jf m t) (hg : Dg D) {one : Nat} (hone : one < 7) (hK7 : K.length = 7) (hl3 : (b0 3).length = 7) (hK1 : nI (K.getD one 0) = (b0 3).getD one 0) {d : Nat} (hd : 3 ≤ d) : ∀ (q k : Nat) (u : Nat) (b : Nat → List Int32) (σ : ZS) (hR : RM σ0 σ a tw b) (hB : Fb 3 b0 b) (h3 : b 3 = (b0 3).set one (nI u)), k + q = 6 → X M_X8_toldBy d 0 0 (fun r9 σ' => ∃ b' : Nat → List Int32, r9 = some (.int (nI (fitB (fun v => decide (unlT rr n (K.set one v) N D m t (-1) = none)) 6))) ∧ RM σ0 σ' a tw b' ∧ (∀ j, b' j = b0 j)) 0 0 14 [some (.ref 1000), some (.int (nI one)), some (.int (nI 4)), some (.int (nI 6)), some (.int (nI ((K.getD one 0)))), some (.int (nI ((fitB (fun v => decide (unlT rr n (K.set one v) N D m t (-1) = none)) k)))), some (.int (nI k))] [] σ := by
  intro q
  induction q with
  | zero =>
    intro k u b σ hR hB h3 hk
    have hm7 := hW0.2.2.2.1
    have hfl := fitB_lt (f := (fun v => decide (unlT rr n (K.set one v) N D m t (-1) = none))) (v := k)
    have hpw : 2 ^ k ≤ 2 ^ 10 := Nat.pow_le_pow_right (by decide) (by omega)
    have hm7 := hW0.2.2.2.1
    have hfl := fitB_lt (f := (fun v => decide (unlT rr n K (N.set one v) D m t (-1) = none))) (v := k)
    have hpw : 2 ^ k ≤ 2 ^ 10 := Nat.pow_le_pow_right (by decide) (by omega)
    refine x_iload dX8_toldBy_14 rfl ?_
    refine x_iload_n dX8_toldBy_16 rfl ?_
    refine x_icmpN_ge (tgt := 55) dX8_toldBy_17 (by decide) (by omega) (by omega) (fun hv1 => ?_) (fun hv1 => ?_)
    · refine x_aload_n dX8_toldBy_55 rfl ?_
      refine x_iload_n dX8_toldBy_56 rfl ?_
      refine x_iload_n dX8_toldBy_57 rfl ?_
      refine x_iload dX8_toldBy_58 rfl ?_
      refine x_callV m_X8_lays l_X8_107 (r_lays4 hR hone) rfl hR.2.1 (by omega) rfl rfl (Nat.le_of_ble_eq_true rfl) ⟨Nat.le_refl _, Nat.le_refl _⟩ dX8_toldBy_60 (fun r2 s2 q2 => ?_)
      obtain ⟨rfl, R2⟩ := q2
      refine x_stk (st' := []) rfl ?_
      refine x_iload dX8_toldBy_63 rfl ?_
      exact x_iret ⟨Nat.le_refl _, Nat.le_refl _⟩ rfl dX8_toldBy_65 ⟨_, by rw [show k = 6 by omega], R2, fun j => by
  by_cases e : j = 3
  · rw [e, up_eq, h3, hK1]; exact ls_back (by rw [hl3]; exact hone)
  · rw [up_ne _ _ e, hB j e]⟩
    · exact absurd hv1 (by omega)
  | succ q ih =>
    intro k u b σ hR hB h3 hk
    have hm7 := hW0.2.2.2.1
    have hfl := fitB_lt (f := (fun v => decide (unlT rr n (K.set one v) N D m t (-1) = none))) (v := k)
    have hpw : 2 ^ k ≤ 2 ^ 10 := Nat.pow_le_pow_right (by decide) (by omega)
    have hm7 := hW0.2.2.2.1
    have hfl := fitB_lt (f := (fun v => decide (unlT rr n K (N.set one v) D m t (-1) = none))) (v := k)
    have hpw : 2 ^ k ≤ 2 ^ 10 := Nat.pow_le_pow_right (by decide) (by omega)
    refine x_iload dX8_toldBy_14 rfl ?_
    refine x_iload_n dX8_toldBy_16 rfl ?_
    refine x_icmpN_ge (tgt := 55) dX8_toldBy_17 (by decide) (by omega) (by omega) (fun hv1 => ?_) (fun hv1 => ?_)
    · exact absurd hv1 (by omega)
    · refine x_aload_n dX8_toldBy_20 rfl ?_
      refine x_iload_n dX8_toldBy_21 rfl ?_
      refine x_iload_n dX8_toldBy_22 rfl ?_
      refine x_iload dX8_toldBy_23 rfl ?_
      refine x_callV m_X8_lays l_X8_107 (r_lays4 hR hone) rfl hR.2.1 (by omega) rfl rfl (Nat.le_of_ble_eq_true rfl) ⟨Nat.le_refl _, Nat.le_refl _⟩ dX8_toldBy_25 (fun r2 s2 q2 => ?_)
      obtain ⟨rfl, R2⟩ := q2
      have hWk : TW a (up b 3 ((b 3).set one (nI k))) rr n (K.set one k) N W D (-1) ru L S lf jf m t := hW0.setC (hW0.1.setK (v := k) (hB.tr Fb.ups) (by rw [up_eq, h3, List.set_set]) hl3 hK7 hone (by omega)) ((hB.tr Fb.ups) 0 (by decide)) ((hB.tr Fb.ups) 1 (by decide)) ((hB.tr Fb.ups) 7 (by decide))
      refine x_stk (st' := []) rfl ?_
      refine x_iload dX8_toldBy_28 rfl ?_
      refine x_aload_n dX8_toldBy_30 rfl ?_
      refine x_callV m_X8_unlawful l_X8_308 (r_unl2 R2 hWk hg) rfl R2.2.1 (by omega) rfl rfl (Nat.le_of_ble_eq_true rfl) ⟨Nat.le_refl _, Nat.le_refl _⟩ dX8_toldBy_31 (fun r3 s3 q3 => ?_)
      obtain ⟨rfl, eq3⟩ := q3
      obtain rfl := eq3.symm
      refine x_stk (st' := [.int ((oI (unlT rr n (K.set one k) N D m t (-1)))), .int (nI ((fitB (fun v => decide (unlT rr n (K.set one v) N D m t (-1) = none)) k)))]) rfl ?_
      rcases hu9 : unlT rr n (K.set one k) N D m t (-1) with _ | c9
      · refine x_stk (st' := [.int ((-1)), .int (nI ((fitB (fun v => decide (unlT rr n (K.set one v) N D m t (-1) = none)) k)))]) rfl ?_
        refine x_iconst (v := (-1)) dX8_toldBy_34 (by decide) ?_
        refine x_icmpT_ne (p := (-1)) (q := (-1)) (tgt := 42) (by decide) (by decide) dX8_toldBy_35 (by decide) (fun hv4 => ?_) (fun hv4 => ?_)
        · exact absurd rfl hv4
        · refine x_iconst (v := nI 1) dX8_toldBy_38 (by decide) ?_
          refine x_goto (tgt := 43) dX8_toldBy_39 (by decide) ?_
          refine x_iload dX8_toldBy_43 rfl ?_
          refine x_ishl dX8_toldBy_45 ?_
          refine x_topi (y := nI (2 ^ k)) (z_shl1 (by omega)) ?_
          refine x_iorN dX8_toldBy_46 ?_
          refine x_istore dX8_toldBy_47 (by decide) rfl ?_
          refine x_lv (lv' := [some (.ref 1000), some (.int (nI one)), some (.int (nI 4)), some (.int (nI 6)), some (.int (nI ((K.getD one 0)))), some (.int (nI (((fitB (fun v => decide (unlT rr n (K.set one v) N D m t (-1) = none)) k)) ||| (2 ^ k)))), some (.int (nI k))]) rfl ?_
          refine x_iincN dX8_toldBy_49 rfl (by decide) rfl ?_
          refine x_lv (lv' := [some (.ref 1000), some (.int (nI one)), some (.int (nI 4)), some (.int (nI 6)), some (.int (nI ((K.getD one 0)))), some (.int (nI (((fitB (fun v => decide (unlT rr n (K.set one v) N D m t (-1) = none)) k)) ||| (2 ^ k)))), some (.int (nI (k + 1)))]) rfl ?_
          refine x_goto (tgt := 14) dX8_toldBy_52 (by decide) ?_
          refine x_lv (lv' := [some (.ref 1000), some (.int (nI one)), some (.int (nI 4)), some (.int (nI 6)), some (.int (nI ((K.getD one 0)))), some (.int (nI ((fitB (fun v => decide (unlT rr n (K.set one v) N D m t (-1) = none)) (k + 1))))), some (.int (nI (k + 1)))]) (by rw [fitB, if_pos (decide_eq_true hu9)]) ?_
          exact ih (k + 1) k _ s2 R2 (hB.tr Fb.ups) (by rw [up_eq, h3, List.set_set]) (by omega)
      · have hc9 := (ffrom_lt _ _ hu9).2.1
        refine x_stk (st' := [.int (nI c9), .int (nI ((fitB (fun v => decide (unlT rr n (K.set one v) N D m t (-1) = none)) k)))]) rfl ?_
        refine x_iconst (v := (-1)) dX8_toldBy_34 (by decide) ?_
        refine x_icmpT_ne (p := ((c9 : Nat) : Int)) (q := (-1)) (tgt := 42) (nI_toInt (by omega)) (by decide) dX8_toldBy_35 (by decide) (fun hv5 => ?_) (fun hv5 => ?_)
        · refine x_iconst (v := nI 0) dX8_toldBy_42 (by decide) ?_
          refine x_iload dX8_toldBy_43 rfl ?_
          refine x_ishl dX8_toldBy_45 ?_
          refine x_topi (y := nI 0) (shl0 (by omega)) ?_
          refine x_iorN dX8_toldBy_46 ?_
          refine x_istore dX8_toldBy_47 (by decide) rfl ?_
          refine x_lv (lv' := [some (.ref 1000), some (.int (nI one)), some (.int (nI 4)), some (.int (nI 6)), some (.int (nI ((K.getD one 0)))), some (.int (nI (((fitB (fun v => decide (unlT rr n (K.set one v) N D m t (-1) = none)) k)) ||| 0))), some (.int (nI k))]) rfl ?_
          refine x_iincN dX8_toldBy_49 rfl (by decide) rfl ?_
          refine x_lv (lv' := [some (.ref 1000), some (.int (nI one)), some (.int (nI 4)), some (.int (nI 6)), some (.int (nI ((K.getD one 0)))), some (.int (nI (((fitB (fun v => decide (unlT rr n (K.set one v) N D m t (-1) = none)) k)) ||| 0))), some (.int (nI (k + 1)))]) rfl ?_
          refine x_goto (tgt := 14) dX8_toldBy_52 (by decide) ?_
          refine x_lv (lv' := [some (.ref 1000), some (.int (nI one)), some (.int (nI 4)), some (.int (nI 6)), some (.int (nI ((K.getD one 0)))), some (.int (nI ((fitB (fun v => decide (unlT rr n (K.set one v) N D m t (-1) = none)) (k + 1))))), some (.int (nI (k + 1)))]) (by rw [fitB, if_neg (by simp [hu9])]) ?_
          exact ih (k + 1) k _ s2 R2 (hB.tr Fb.ups) (by rw [up_eq, h3, List.set_set]) (by omega)
        · exact absurd hv5 (by omega)
set_option maxHeartbeats 4000000 in
theorem r_toldBy4 {σ0 σ : ZS} {a : Nat → Int32} {tw : Int64} {b : Nat → List Int32} {rr n : Nat} {K N : List Nat} {W : List Int32} {D : List Nat} {ru : Nat} {L S : List Nat} {lf jf m : Nat} {t : List Nat} (hR : RM σ0 σ a tw b) (hW : TW a b rr n K N W D (-1) ru L S lf jf m t) (hg : Dg D) {dn : Nat} (c8 : a 8 = nI dn) {one : Nat} (hon : one < n) (hK7 : K.length = 7) : Cn 4 M_X8_toldBy 0 0 [.ref 1000, .int (nI one), .int (nI 4), .int (nI 6)] σ (fun r9 σ' => ∃ b' : Nat → List Int32, r9 = some (.int (nI (fitB (fun v => decide (unlT rr n (K.set one v) N D m t (-1) = none)) 6))) ∧ RM σ0 σ' a tw b' ∧ (∀ j, b' j = b j)) := by
  refine Cn.intro (lv0 := [some (.ref 1000), some (.int (nI one)), some (.int (nI 4)), some (.int (nI 6)), none, none, none]) rfl (Nat.le_of_ble_eq_true rfl) rfl (fun d hd => ?_)
  refine x_aload_n dX8_toldBy_0 rfl ?_
  refine x_iload_n dX8_toldBy_1 rfl ?_
  refine x_iload_n dX8_toldBy_2 rfl ?_
  refine x_callV m_X8_told l_X8_103 (r_told4 hR hW.1 c8 (o := one) hon) rfl hR.2.1 (by omega) rfl rfl (Nat.le_of_ble_eq_true rfl) ⟨Nat.le_refl _, Nat.le_refl _⟩ dX8_toldBy_3 (fun r1 s1 q1 => ?_)
  obtain ⟨rfl, eq1⟩ := q1
  obtain rfl := eq1.symm
  refine x_stk (st' := [.int ((toldV rr dn n K N W D one 4))]) rfl ?_
  refine x_topi (y := nI ((K.getD one 0))) rfl ?_
  refine x_istore dX8_toldBy_6 (by decide) rfl ?_
  refine x_lv (lv' := [some (.ref 1000), some (.int (nI one)), some (.int (nI 4)), some (.int (nI 6)), some (.int (nI ((K.getD one 0)))), none, none]) rfl ?_
  refine x_iconst (v := nI 0) dX8_toldBy_8 (by decide) ?_
  refine x_istore dX8_toldBy_9 (by decide) rfl ?_
  refine x_lv (lv' := [some (.ref 1000), some (.int (nI one)), some (.int (nI 4)), some (.int (nI 6)), some (.int (nI ((K.getD one 0)))), some (.int (nI 0)), none]) rfl ?_
  refine x_iconst (v := nI 0) dX8_toldBy_11 (by decide) ?_
  refine x_istore dX8_toldBy_12 (by decide) rfl ?_
  refine x_lv (lv' := [some (.ref 1000), some (.int (nI one)), some (.int (nI 4)), some (.int (nI 6)), some (.int (nI ((K.getD one 0)))), some (.int (nI 0)), some (.int (nI 0))]) rfl ?_
  have hn7 := hW.1.2.2.2.1
  exact lr_toldBy4 hW hg (by omega) hK7 (hR.rlen (j := 3) (by decide) (m := 7) rfl) (hW.1.2.2.2.2.2.1 one hon).symm (Nat.le_trans (by decide) hd) 6 0 (K.getD one 0) b σ hR Fb.rf (by rw [← (hW.1.2.2.2.2.2.1 one hon), ls_self (by rw [hR.rlen (j := 3) (by decide) (m := 7) rfl]; omega)] ) (by omega)
set_option maxHeartbeats 4000000 in
theorem lr_toldBy2 {σ0 : ZS} {a : Nat → Int32} {tw : Int64} {b0 : Nat → List Int32} {rr n : Nat} {K N : List Nat} {W : List Int32} {D : List Nat} {ru : Nat} {L S : List Nat} {lf jf m : Nat} {t : List Nat} (hW0 : TW a b0 rr n K N W D (-1) ru L S lf jf m t) (hg : Dg D) {one : Nat} (hone : one < 7) (hK7 : K.length = 7) (hl3 : (b0 4).length = 7) (hK1 : nI (N.getD one 0) = (b0 4).getD one 0) {d : Nat} (hd : 3 ≤ d) : ∀ (q k : Nat) (u : Nat) (b : Nat → List Int32) (σ : ZS) (hR : RM σ0 σ a tw b) (hB : Fb 4 b0 b) (h3 : b 4 = (b0 4).set one (nI u)), k + q = 10 → X M_X8_toldBy d 0 0 (fun r9 σ' => ∃ b' : Nat → List Int32, r9 = some (.int (nI (fitB (fun v => decide (unlT rr n K (N.set one v) D m t (-1) = none)) 10))) ∧ RM σ0 σ' a tw b' ∧ (∀ j, b' j = b0 j)) 0 0 14 [some (.ref 1000), some (.int (nI one)), some (.int (nI 2)), some (.int (nI 10)), some (.int (nI ((N.getD one 0)))), some (.int (nI ((fitB (fun v => decide (unlT rr n K (N.set one v) D m t (-1) = none)) k)))), some (.int (nI k))] [] σ := by
  intro q
  induction q with
  | zero =>
    intro k u b σ hR hB h3 hk
    have hm7 := hW0.2.2.2.1
    have hfl := fitB_lt (f := (fun v => decide (unlT rr n K (N.set one v) D m t (-1) = none))) (v := k)
    have hpw : 2 ^ k ≤ 2 ^ 10 := Nat.pow_le_pow_right (by decide) (by omega)
    refine x_iload dX8_toldBy_14 rfl ?_
    refine x_iload_n dX8_toldBy_16 rfl ?_
    refine x_icmpN_ge (tgt := 55) dX8_toldBy_17 (by decide) (by omega) (by omega) (fun hv1 => ?_) (fun hv1 => ?_)
    · refine x_aload_n dX8_toldBy_55 rfl ?_
      refine x_iload_n dX8_toldBy_56 rfl ?_
      refine x_iload_n dX8_toldBy_57 rfl ?_
      refine x_iload dX8_toldBy_58 rfl ?_
      refine x_callV m_X8_lays l_X8_107 (r_lays2 hR hone) rfl hR.2.1 (by omega) rfl rfl (Nat.le_of_ble_eq_true rfl) ⟨Nat.le_refl _, Nat.le_refl _⟩ dX8_toldBy_60 (fun r2 s2 q2 => ?_)
      obtain ⟨rfl, R2⟩ := q2
      refine x_stk (st' := []) rfl ?_
      refine x_iload dX8_toldBy_63 rfl ?_
      exact x_iret ⟨Nat.le_refl _, Nat.le_refl _⟩ rfl dX8_toldBy_65 ⟨_, by rw [show k = 10 by omega], R2, fun j => by
  by_cases e : j = 4
  · rw [e, up_eq, h3, hK1]; exact ls_back (by rw [hl3]; exact hone)
  · rw [up_ne _ _ e, hB j e]⟩
    · exact absurd hv1 (by omega)
  | succ q ih =>
    intro k u b σ hR hB h3 hk
    have hm7 := hW0.2.2.2.1
    have hfl := fitB_lt (f := (fun v => decide (unlT rr n K (N.set one v) D m t (-1) = none))) (v := k)
    have hpw : 2 ^ k ≤ 2 ^ 10 := Nat.pow_le_pow_right (by decide) (by omega)
    refine x_iload dX8_toldBy_14 rfl ?_
    refine x_iload_n dX8_toldBy_16 rfl ?_
    refine x_icmpN_ge (tgt := 55) dX8_toldBy_17 (by decide) (by omega) (by omega) (fun hv1 => ?_) (fun hv1 => ?_)
    · exact absurd hv1 (by omega)
    · refine x_aload_n dX8_toldBy_20 rfl ?_
      refine x_iload_n dX8_toldBy_21 rfl ?_
      refine x_iload_n dX8_toldBy_22 rfl ?_
      refine x_iload dX8_toldBy_23 rfl ?_
      refine x_callV m_X8_lays l_X8_107 (r_lays2 hR hone) rfl hR.2.1 (by omega) rfl rfl (Nat.le_of_ble_eq_true rfl) ⟨Nat.le_refl _, Nat.le_refl _⟩ dX8_toldBy_25 (fun r2 s2 q2 => ?_)
      obtain ⟨rfl, R2⟩ := q2
      have hWk : TW a (up b 4 ((b 4).set one (nI k))) rr n K (N.set one k) W D (-1) ru L S lf jf m t := hW0.setC (hW0.1.setN (v := k) (hB.tr Fb.ups) (by rw [up_eq, h3, List.set_set]) (by omega)) ((hB.tr Fb.ups) 0 (by decide)) ((hB.tr Fb.ups) 1 (by decide)) ((hB.tr Fb.ups) 7 (by decide))
      refine x_stk (st' := []) rfl ?_
      refine x_iload dX8_toldBy_28 rfl ?_
      refine x_aload_n dX8_toldBy_30 rfl ?_
      refine x_callV m_X8_unlawful l_X8_308 (r_unl2 R2 hWk hg) rfl R2.2.1 (by omega) rfl rfl (Nat.le_of_ble_eq_true rfl) ⟨Nat.le_refl _, Nat.le_refl _⟩ dX8_toldBy_31 (fun r3 s3 q3 => ?_)
      obtain ⟨rfl, eq3⟩ := q3
      obtain rfl := eq3.symm
      refine x_stk (st' := [.int ((oI (unlT rr n K (N.set one k) D m t (-1)))), .int (nI ((fitB (fun v => decide (unlT rr n K (N.set one v) D m t (-1) = none)) k)))]) rfl ?_
      rcases hu9 : unlT rr n K (N.set one k) D m t (-1) with _ | c9
      · refine x_stk (st' := [.int ((-1)), .int (nI ((fitB (fun v => decide (unlT rr n K (N.set one v) D m t (-1) = none)) k)))]) rfl ?_
        refine x_iconst (v := (-1)) dX8_toldBy_34 (by decide) ?_
        refine x_icmpT_ne (p := (-1)) (q := (-1)) (tgt := 42) (by decide) (by decide) dX8_toldBy_35 (by decide) (fun hv4 => ?_) (fun hv4 => ?_)
        · exact absurd rfl hv4
        · refine x_iconst (v := nI 1) dX8_toldBy_38 (by decide) ?_
          refine x_goto (tgt := 43) dX8_toldBy_39 (by decide) ?_
          refine x_iload dX8_toldBy_43 rfl ?_
          refine x_ishl dX8_toldBy_45 ?_
          refine x_topi (y := nI (2 ^ k)) (z_shl1 (by omega)) ?_
          refine x_iorN dX8_toldBy_46 ?_
          refine x_istore dX8_toldBy_47 (by decide) rfl ?_
          refine x_lv (lv' := [some (.ref 1000), some (.int (nI one)), some (.int (nI 2)), some (.int (nI 10)), some (.int (nI ((N.getD one 0)))), some (.int (nI (((fitB (fun v => decide (unlT rr n K (N.set one v) D m t (-1) = none)) k)) ||| (2 ^ k)))), some (.int (nI k))]) rfl ?_
          refine x_iincN dX8_toldBy_49 rfl (by decide) rfl ?_
          refine x_lv (lv' := [some (.ref 1000), some (.int (nI one)), some (.int (nI 2)), some (.int (nI 10)), some (.int (nI ((N.getD one 0)))), some (.int (nI (((fitB (fun v => decide (unlT rr n K (N.set one v) D m t (-1) = none)) k)) ||| (2 ^ k)))), some (.int (nI (k + 1)))]) rfl ?_
          refine x_goto (tgt := 14) dX8_toldBy_52 (by decide) ?_
          refine x_lv (lv' := [some (.ref 1000), some (.int (nI one)), some (.int (nI 2)), some (.int (nI 10)), some (.int (nI ((N.getD one 0)))), some (.int (nI ((fitB (fun v => decide (unlT rr n K (N.set one v) D m t (-1) = none)) (k + 1))))), some (.int (nI (k + 1)))]) (by rw [fitB, if_pos (decide_eq_true hu9)]) ?_
          exact ih (k + 1) k _ s2 R2 (hB.tr Fb.ups) (by rw [up_eq, h3, List.set_set]) (by omega)
      · have hc9 := (ffrom_lt _ _ hu9).2.1
        refine x_stk (st' := [.int (nI c9), .int (nI ((fitB (fun v => decide (unlT rr n K (N.set one v) D m t (-1) = none)) k)))]) rfl ?_
        refine x_iconst (v := (-1)) dX8_toldBy_34 (by decide) ?_
        refine x_icmpT_ne (p := ((c9 : Nat) : Int)) (q := (-1)) (tgt := 42) (nI_toInt (by omega)) (by decide) dX8_toldBy_35 (by decide) (fun hv5 => ?_) (fun hv5 => ?_)
        · refine x_iconst (v := nI 0) dX8_toldBy_42 (by decide) ?_
          refine x_iload dX8_toldBy_43 rfl ?_
          refine x_ishl dX8_toldBy_45 ?_
          refine x_topi (y := nI 0) (shl0 (by omega)) ?_
          refine x_iorN dX8_toldBy_46 ?_
          refine x_istore dX8_toldBy_47 (by decide) rfl ?_
          refine x_lv (lv' := [some (.ref 1000), some (.int (nI one)), some (.int (nI 2)), some (.int (nI 10)), some (.int (nI ((N.getD one 0)))), some (.int (nI (((fitB (fun v => decide (unlT rr n K (N.set one v) D m t (-1) = none)) k)) ||| 0))), some (.int (nI k))]) rfl ?_
          refine x_iincN dX8_toldBy_49 rfl (by decide) rfl ?_
          refine x_lv (lv' := [some (.ref 1000), some (.int (nI one)), some (.int (nI 2)), some (.int (nI 10)), some (.int (nI ((N.getD one 0)))), some (.int (nI (((fitB (fun v => decide (unlT rr n K (N.set one v) D m t (-1) = none)) k)) ||| 0))), some (.int (nI (k + 1)))]) rfl ?_
          refine x_goto (tgt := 14) dX8_toldBy_52 (by decide) ?_
          refine x_lv (lv' := [some (.ref 1000), some (.int (nI one)), some (.int (nI 2)), some (.int (nI 10)), some (.int (nI ((N.getD one 0)))), some (.int (nI ((fitB (fun v => decide (unlT rr n K (N.set one v) D m t (-1) = none)) (k + 1))))), some (.int (nI (k + 1)))]) (by rw [fitB, if_neg (by simp [hu9])]) ?_
          exact ih (k + 1) k _ s2 R2 (hB.tr Fb.ups) (by rw [up_eq, h3, List.set_set]) (by omega)
        · exact absurd hv5 (by omega)
set_option maxHeartbeats 4000000 in
theorem r_toldBy2 {σ0 σ : ZS} {a : Nat → Int32} {tw : Int64} {b : Nat → List Int32} {rr n : Nat} {K N : List Nat} {W : List Int32} {D : List Nat} {ru : Nat} {L S : List Nat} {lf jf m : Nat} {t : List Nat} (hR : RM σ0 σ a tw b) (hW : TW a b rr n K N W D (-1) ru L S lf jf m t) (hg : Dg D) {dn : Nat} (c8 : a 8 = nI dn) {one : Nat} (hon : one < n) (hK7 : K.length = 7) : Cn 4 M_X8_toldBy 0 0 [.ref 1000, .int (nI one), .int (nI 2), .int (nI 10)] σ (fun r9 σ' => ∃ b' : Nat → List Int32, r9 = some (.int (nI (fitB (fun v => decide (unlT rr n K (N.set one v) D m t (-1) = none)) 10))) ∧ RM σ0 σ' a tw b' ∧ (∀ j, b' j = b j)) := by
  refine Cn.intro (lv0 := [some (.ref 1000), some (.int (nI one)), some (.int (nI 2)), some (.int (nI 10)), none, none, none]) rfl (Nat.le_of_ble_eq_true rfl) rfl (fun d hd => ?_)
  refine x_aload_n dX8_toldBy_0 rfl ?_
  refine x_iload_n dX8_toldBy_1 rfl ?_
  refine x_iload_n dX8_toldBy_2 rfl ?_
  refine x_callV m_X8_told l_X8_103 (r_told2 hR hW.1 c8 (o := one) hon) rfl hR.2.1 (by omega) rfl rfl (Nat.le_of_ble_eq_true rfl) ⟨Nat.le_refl _, Nat.le_refl _⟩ dX8_toldBy_3 (fun r1 s1 q1 => ?_)
  obtain ⟨rfl, eq1⟩ := q1
  obtain rfl := eq1.symm
  refine x_stk (st' := [.int ((toldV rr dn n K N W D one 2))]) rfl ?_
  refine x_topi (y := nI ((N.getD one 0))) rfl ?_
  refine x_istore dX8_toldBy_6 (by decide) rfl ?_
  refine x_lv (lv' := [some (.ref 1000), some (.int (nI one)), some (.int (nI 2)), some (.int (nI 10)), some (.int (nI ((N.getD one 0)))), none, none]) rfl ?_
  refine x_iconst (v := nI 0) dX8_toldBy_8 (by decide) ?_
  refine x_istore dX8_toldBy_9 (by decide) rfl ?_
  refine x_lv (lv' := [some (.ref 1000), some (.int (nI one)), some (.int (nI 2)), some (.int (nI 10)), some (.int (nI ((N.getD one 0)))), some (.int (nI 0)), none]) rfl ?_
  refine x_iconst (v := nI 0) dX8_toldBy_11 (by decide) ?_
  refine x_istore dX8_toldBy_12 (by decide) rfl ?_
  refine x_lv (lv' := [some (.ref 1000), some (.int (nI one)), some (.int (nI 2)), some (.int (nI 10)), some (.int (nI ((N.getD one 0)))), some (.int (nI 0)), some (.int (nI 0))]) rfl ?_
  have hn7 := hW.1.2.2.2.1
  exact lr_toldBy2 hW hg (by omega) hK7 (hR.rlen (j := 4) (by decide) (m := 7) rfl) (rgN hW.1.2.2.2.2.2.2.1).symm (Nat.le_trans (by decide) hd) 10 0 (N.getD one 0) b σ hR Fb.rf (by rw [← (rgN hW.1.2.2.2.2.2.2.1), ls_self (by rw [hR.rlen (j := 4) (by decide) (m := 7) rfl]; omega)] ) (by omega)
set_option maxHeartbeats 4000000 in
theorem lr_owedBy {σ0 : ZS} {a : Nat → Int32} {tw : Int64} {b0 : Nat → List Int32} {rr n : Nat} {K N : List Nat} {W : List Int32} {D : List Nat} {ru : Nat} {L S : List Nat} {lf jf m : Nat} {t : List Nat} {Q : Nat} (hQ : Q < 49) {im : Bool} (hW0 : TW a b0 rr n K N W D (-1) ru L S lf jf m t) (hgs : ∀ v, Dg (D.set Q v)) (hl6 : (b0 6).length = 49) (hq1 : nI (D.getD Q 0) = (b0 6).getD Q 0) {d : Nat} (hd : 3 ≤ d) : ∀ (q k : Nat) (u : Nat) (b : Nat → List Int32) (σ : ZS) (hR : RM σ0 σ a tw b) (hB : Fb 6 b0 b) (h6 : b 6 = (b0 6).set Q (nI u)), k + q = 1000 → X M_X8_owedBy d 0 0 (fun r9 σ' => ∃ b' : Nat → List Int32, r9 = some (.int (if im = true then nI (fitC (fun v => decide (unlT rr n K N (D.set Q v) m t (-1) = none)) 1000) else oI (fitM (fun v => decide (unlT rr n K N (D.set Q v) m t (-1) = none)) 1000))) ∧ RM σ0 σ' a tw b' ∧ (∀ j, b' j = b0 j)) 0 0 16 [some (.ref 1000), some (.int (nI Q)), some (.int (bI im)), some (.int (nI ((D.getD Q 0)))), some (.int (nI ((fitC (fun v => decide (unlT rr n K N (D.set Q v) m t (-1) = none)) k)))), some (.int ((oI (fitM (fun v => decide (unlT rr n K N (D.set Q v) m t (-1) = none)) k)))), some (.int (nI k))] [] σ := by
  intro q
  induction q with
  | zero =>
    intro k u b σ hR hB h6 hk
    have hm7 := hW0.2.2.2.1
    have hfc := fitC_le (f := (fun v => decide (unlT rr n K N (D.set Q v) m t (-1) = none))) (v := k)
    refine x_iload dX8_owedBy_16 rfl ?_
    refine x_sipush (v := nI 999) dX8_owedBy_18 (by decide) ?_
    refine x_icmpN_gt (tgt := 53) dX8_owedBy_21 (by decide) (by omega) (by omega) (fun hv1 => ?_) (fun hv1 => ?_)
    · refine x_aload_n dX8_owedBy_53 rfl ?_
      refine x_rget f_X8_35 hR rfl dX8_owedBy_54 ?_
      refine x_iload_n dX8_owedBy_57 rfl ?_
      refine x_iload_n dX8_owedBy_58 rfl ?_
      refine x_rast (j := 6) (n := Q) hR rfl (by decide) rfl rfl (rlt hR (m := 49) (by decide) rfl (by omega)) dX8_owedBy_59 (fun sw2 Rw2 => ?_)
      refine x_iload_n dX8_owedBy_60 rfl ?_
      refine x_ifB_eq (tgt := 69) dX8_owedBy_61 (by decide) (fun hv3 => ?_) (fun hv3 => ?_)
      · refine x_iload dX8_owedBy_69 rfl ?_
        exact x_iret ⟨Nat.le_refl _, Nat.le_refl _⟩ rfl dX8_owedBy_71 ⟨_, by rw [if_neg (by rw [hv3]; decide), show k = 1000 by omega], Rw2, fun j => by
  by_cases e : j = 6
  · rw [e, up_eq, h6, hq1]; exact ls_back (by rw [hl6]; exact hQ)
  · rw [up_ne _ _ e, hB j e]⟩
      · refine x_iload dX8_owedBy_64 rfl ?_
        refine x_goto (tgt := 71) dX8_owedBy_66 (by decide) ?_
        exact x_iret ⟨Nat.le_refl _, Nat.le_refl _⟩ rfl dX8_owedBy_71 ⟨_, by rw [if_pos hv3, show k = 1000 by omega], Rw2, fun j => by
  by_cases e : j = 6
  · rw [e, up_eq, h6, hq1]; exact ls_back (by rw [hl6]; exact hQ)
  · rw [up_ne _ _ e, hB j e]⟩
    · exact absurd hv1 (by omega)
  | succ q ih =>
    intro k u b σ hR hB h6 hk
    have hm7 := hW0.2.2.2.1
    have hfc := fitC_le (f := (fun v => decide (unlT rr n K N (D.set Q v) m t (-1) = none))) (v := k)
    refine x_iload dX8_owedBy_16 rfl ?_
    refine x_sipush (v := nI 999) dX8_owedBy_18 (by decide) ?_
    refine x_icmpN_gt (tgt := 53) dX8_owedBy_21 (by decide) (by omega) (by omega) (fun hv1 => ?_) (fun hv1 => ?_)
    · exact absurd hv1 (by omega)
    · refine x_aload_n dX8_owedBy_24 rfl ?_
      refine x_rget f_X8_35 hR rfl dX8_owedBy_25 ?_
      refine x_iload_n dX8_owedBy_28 rfl ?_
      refine x_iload dX8_owedBy_29 rfl ?_
      refine x_rast (j := 6) (n := Q) hR rfl (by decide) rfl rfl (rlt hR (m := 49) (by decide) rfl (by omega)) dX8_owedBy_31 (fun sw2 Rw2 => ?_)
      have hWk : TW a (up b 6 ((b 6).set Q (nI k))) rr n K N W (D.set Q k) (-1) ru L S lf jf m t := hW0.setC (hW0.1.setD (hB.tr Fb.ups) (by rw [up_eq, h6, List.set_set, hW0.1.2.2.2.2.2.2.2.2.1, gm_set]) ⟨by rw [List.length_set]; exact hW0.D9.1, getD_set_le hW0.D9.2 (show k ≤ 999 by omega)⟩) ((hB.tr Fb.ups) 0 (by decide)) ((hB.tr Fb.ups) 1 (by decide)) ((hB.tr Fb.ups) 7 (by decide))
      refine x_aload_n dX8_owedBy_32 rfl ?_
      refine x_callV m_X8_unlawful l_X8_308 (r_unl2 Rw2 hWk (hgs k)) rfl Rw2.2.1 (by omega) rfl rfl (Nat.le_of_ble_eq_true rfl) ⟨Nat.le_refl _, Nat.le_refl _⟩ dX8_owedBy_33 (fun r3 s3 q3 => ?_)
      obtain ⟨rfl, eq3⟩ := q3
      obtain rfl := eq3.symm
      refine x_stk (st' := [.int ((oI (unlT rr n K N (D.set Q k) m t (-1))))]) rfl ?_
      rcases hu9 : unlT rr n K N (D.set Q k) m t (-1) with _ | c9
      · refine x_stk (st' := [.int ((-1))]) rfl ?_
        refine x_iconst (v := (-1)) dX8_owedBy_36 (by decide) ?_
        refine x_icmpT_ne (p := (-1)) (q := (-1)) (tgt := 47) (by decide) (by decide) dX8_owedBy_37 (by decide) (fun hv4 => ?_) (fun hv4 => ?_)
        · exact absurd rfl hv4
        · refine x_iincN dX8_owedBy_40 rfl (by decide) rfl ?_
          refine x_lv (lv' := [some (.ref 1000), some (.int (nI Q)), some (.int (bI im)), some (.int (nI ((D.getD Q 0)))), some (.int (nI (((fitC (fun v => decide (unlT rr n K N (D.set Q v) m t (-1) = none)) k)) + 1))), some (.int ((oI (fitM (fun v => decide (unlT rr n K N (D.set Q v) m t (-1) = none)) k)))), some (.int (nI k))]) rfl ?_
          refine x_iload dX8_owedBy_43 rfl ?_
          refine x_istore dX8_owedBy_45 (by decide) rfl ?_
          refine x_lv (lv' := [some (.ref 1000), some (.int (nI Q)), some (.int (bI im)), some (.int (nI ((D.getD Q 0)))), some (.int (nI (((fitC (fun v => decide (unlT rr n K N (D.set Q v) m t (-1) = none)) k)) + 1))), some (.int (nI k)), some (.int (nI k))]) rfl ?_
          refine x_iincN dX8_owedBy_47 rfl (by decide) rfl ?_
          refine x_lv (lv' := [some (.ref 1000), some (.int (nI Q)), some (.int (bI im)), some (.int (nI ((D.getD Q 0)))), some (.int (nI (((fitC (fun v => decide (unlT rr n K N (D.set Q v) m t (-1) = none)) k)) + 1))), some (.int (nI k)), some (.int (nI (k + 1)))]) rfl ?_
          refine x_goto (tgt := 16) dX8_owedBy_50 (by decide) ?_
          refine x_lv (lv' := [some (.ref 1000), some (.int (nI Q)), some (.int (bI im)), some (.int (nI ((D.getD Q 0)))), some (.int (nI ((fitC (fun v => decide (unlT rr n K N (D.set Q v) m t (-1) = none)) (k + 1))))), some (.int ((oI (fitM (fun v => decide (unlT rr n K N (D.set Q v) m t (-1) = none)) (k + 1))))), some (.int (nI (k + 1)))]) (by rw [fitC, fitM, if_pos (decide_eq_true hu9), if_pos (decide_eq_true hu9)]; rfl) ?_
          exact ih (k + 1) k _ sw2 Rw2 (hB.tr Fb.ups) (by rw [up_eq, h6, List.set_set]) (by omega)
      · have hc9 := (ffrom_lt _ _ hu9).2.1
        refine x_stk (st' := [.int (nI c9)]) rfl ?_
        refine x_iconst (v := (-1)) dX8_owedBy_36 (by decide) ?_
        refine x_icmpT_ne (p := ((c9 : Nat) : Int)) (q := (-1)) (tgt := 47) (nI_toInt (by omega)) (by decide) dX8_owedBy_37 (by decide) (fun hv5 => ?_) (fun hv5 => ?_)
        · refine x_iincN dX8_owedBy_47 rfl (by decide) rfl ?_
          refine x_lv (lv' := [some (.ref 1000), some (.int (nI Q)), some (.int (bI im)), some (.int (nI ((D.getD Q 0)))), some (.int (nI ((fitC (fun v => decide (unlT rr n K N (D.set Q v) m t (-1) = none)) k)))), some (.int ((oI (fitM (fun v => decide (unlT rr n K N (D.set Q v) m t (-1) = none)) k)))), some (.int (nI (k + 1)))]) rfl ?_
          refine x_goto (tgt := 16) dX8_owedBy_50 (by decide) ?_
          refine x_lv (lv' := [some (.ref 1000), some (.int (nI Q)), some (.int (bI im)), some (.int (nI ((D.getD Q 0)))), some (.int (nI ((fitC (fun v => decide (unlT rr n K N (D.set Q v) m t (-1) = none)) (k + 1))))), some (.int ((oI (fitM (fun v => decide (unlT rr n K N (D.set Q v) m t (-1) = none)) (k + 1))))), some (.int (nI (k + 1)))]) (by rw [fitC, fitM, if_neg (by simp [hu9]), if_neg (by simp [hu9])]; rfl) ?_
          exact ih (k + 1) k _ sw2 Rw2 (hB.tr Fb.ups) (by rw [up_eq, h6, List.set_set]) (by omega)
        · exact absurd hv5 (by omega)
set_option maxHeartbeats 4000000 in
theorem r_owedBy {σ0 σ : ZS} {a : Nat → Int32} {tw : Int64} {b : Nat → List Int32} {rr n : Nat} {K N : List Nat} {W : List Int32} {D : List Nat} {ru : Nat} {L S : List Nat} {lf jf m : Nat} {t : List Nat} (hR : RM σ0 σ a tw b) (hW : TW a b rr n K N W D (-1) ru L S lf jf m t) {Q : Nat} (hQ : Q < 49) {im : Bool} (hgs : ∀ v, Dg (D.set Q v)) : Cn 3 M_X8_owedBy 0 0 [.ref 1000, .int (nI Q), .int (bI im)] σ (fun r9 σ' => ∃ b' : Nat → List Int32, r9 = some (.int (if im = true then nI (fitC (fun v => decide (unlT rr n K N (D.set Q v) m t (-1) = none)) 1000) else oI (fitM (fun v => decide (unlT rr n K N (D.set Q v) m t (-1) = none)) 1000))) ∧ RM σ0 σ' a tw b' ∧ (∀ j, b' j = b j)) := by
  refine Cn.intro (lv0 := [some (.ref 1000), some (.int (nI Q)), some (.int (bI im)), none, none, none, none]) rfl (Nat.le_of_ble_eq_true rfl) rfl (fun d hd => ?_)
  refine x_aload_n dX8_owedBy_0 rfl ?_
  refine x_rget f_X8_35 hR rfl dX8_owedBy_1 ?_
  refine x_iload_n dX8_owedBy_4 rfl ?_
  refine x_rald (j := 6) (n := Q) hR rfl (by decide) rfl rfl (rlt hR (m := 49) (by decide) rfl (by omega)) dX8_owedBy_5 ?_
  refine x_topi (y := nI ((D.getD Q 0))) (rgN hW.1.2.2.2.2.2.2.2.2.1) ?_
  refine x_istore_n dX8_owedBy_6 (by decide) rfl ?_
  refine x_lv (lv' := [some (.ref 1000), some (.int (nI Q)), some (.int (bI im)), some (.int (nI ((D.getD Q 0)))), none, none, none]) rfl ?_
  refine x_iconst (v := nI 0) dX8_owedBy_7 (by decide) ?_
  refine x_istore dX8_owedBy_8 (by decide) rfl ?_
  refine x_lv (lv' := [some (.ref 1000), some (.int (nI Q)), some (.int (bI im)), some (.int (nI ((D.getD Q 0)))), some (.int (nI 0)), none, none]) rfl ?_
  refine x_iconst (v := (-1)) dX8_owedBy_10 (by decide) ?_
  refine x_istore dX8_owedBy_11 (by decide) rfl ?_
  refine x_lv (lv' := [some (.ref 1000), some (.int (nI Q)), some (.int (bI im)), some (.int (nI ((D.getD Q 0)))), some (.int (nI 0)), some (.int ((-1))), none]) rfl ?_
  refine x_iconst (v := nI 0) dX8_owedBy_13 (by decide) ?_
  refine x_istore dX8_owedBy_14 (by decide) rfl ?_
  refine x_lv (lv' := [some (.ref 1000), some (.int (nI Q)), some (.int (bI im)), some (.int (nI ((D.getD Q 0)))), some (.int (nI 0)), some (.int ((-1))), some (.int (nI 0))]) rfl ?_
  exact lr_owedBy hQ hW hgs (hR.rlen (j := 6) (by decide) (m := 49) rfl) (rgN hW.1.2.2.2.2.2.2.2.2.1).symm hd 1000 0 (D.getD Q 0) b σ hR Fb.rf (by rw [← rgN hW.1.2.2.2.2.2.2.2.2.1, ls_self (by rw [hR.rlen (j := 6) (by decide) (m := 49) rfl]; omega)]) (by omega)
