theorem hdD_ok {S : List Nat} {lf jf : Nat} {K N : List Nat} {W : List Int32} {t : List Nat} {m : Nat} {D : List Nat} (h : D49 D) : ∀ k, D49 (hdD S lf jf K N W t m k D)
  | 0 => h
  | k + 1 => mtD_ok (hdD_ok h k)
theorem nxS_in {m k : Nat} (h : k + 1 < m) : nxS m k = k + 1 := if_pos h
theorem nxS_last {m k : Nat} (h : ¬ k + 1 < m) : nxS m k = 0 := if_neg h
set_option maxHeartbeats 4000000 in
theorem lr_dines {σ0 : ZS} {a0 : Nat → Int32} {b0 : Nat → List Int32} {rr n : Nat} {K N : List Nat} {W : List Int32} {fr : Int32} {ru : Nat} {L S : List Nat} {lf jf m : Nat} {t : List Nat} {D : List Nat} (hD9 : D49 D) (hm0 : m ≤ 7) {d : Nat} (hd : 164 ≤ d) : ∀ (q k : Nat) (a : Nat → Int32) (tw : Int64) (b : Nat → List Int32) (σ : ZS) (hR : RM σ0 σ a tw b) (hW : TW a b rr n K N W (hdD S lf jf K N W t m k D) fr ru L S lf jf m t) (hA : FrS a0 a) (hB : Fb 6 b0 b), k + q = m - 1 → X M_X8_dines d 0 0 (fun r9 σ' => r9 = none ∧ ∃ (a' : Nat → Int32) (tw' : Int64) (b' : Nat → List Int32), RM σ0 σ' a' tw' b' ∧ FrS a0 a' ∧ Fb 6 b0 b' ∧ b' 6 = ((hdD S lf jf K N W t m (prS (decide (rr = 1)) m) D)).map nI) 0 0 2 [some (.ref 1000), some (.int (nI k))] [] σ := by
  intro q
  induction q with
  | zero =>
    intro k a tw b σ hR hW hA hB hk
    obtain ⟨hC, hT, c31, hm, cT, ht, hTn⟩ := id hW
    obtain ⟨c7, hrr, c13, hn7, c14, cK, cN, cW, cD, hN7, hW7, hD49, hK5, hN9, hD999⟩ := id hC
    obtain ⟨ht7, htb⟩ := id ht
    refine x_iload_n dX8_dines_2 rfl ?_
    refine x_aload_n dX8_dines_3 rfl ?_
    refine x_rget (v := .int (nI m)) f_X8_255 hR (rg c31) dX8_dines_4 ?_
    refine x_iconst (v := nI 1) dX8_dines_7 (by decide) ?_
    refine x_isub dX8_dines_8 ?_
    refine x_icmpT_ge (p := ((k : Nat) : Int)) (q := (((m : Nat) : Int) - 1)) (tgt := 26) (nI_toInt (by omega)) (nI_m1 (by omega)) dX8_dines_9 (by decide) (fun hv1 => ?_) (fun hv1 => ?_)
    · refine x_aload_n dX8_dines_26 rfl ?_
      refine x_rget (v := .int (nI rr)) f_X8_23 hR (rg c7) dX8_dines_27 ?_
      refine x_iconst (v := nI 1) dX8_dines_30 (by decide) ?_
      refine x_icmpN_ne (tgt := 53) dX8_dines_31 (by decide) (by omega) (by omega) (fun hv2 => ?_) (fun hv2 => ?_)
      · exact x_vret ⟨Nat.le_refl _, Nat.le_refl _⟩ rfl dX8_dines_53 ⟨rfl, _, _, _, hR, hA, hB, (by rw [show prS (decide (rr = 1)) m = k from by rw [prS, if_neg (fun q => by have q1 := of_decide_eq_true q.1; have q2 := q.2; omega)]; omega]; exact cD)⟩
      · refine x_aload_n dX8_dines_34 rfl ?_
        refine x_rget (v := .int (nI m)) f_X8_255 hR (rg c31) dX8_dines_35 ?_
        refine x_iconst (v := nI 2) dX8_dines_38 (by decide) ?_
        refine x_icmpN_le (tgt := 53) dX8_dines_39 (by decide) (by omega) (by omega) (fun hv3 => ?_) (fun hv3 => ?_)
        · exact x_vret ⟨Nat.le_refl _, Nat.le_refl _⟩ rfl dX8_dines_53 ⟨rfl, _, _, _, hR, hA, hB, (by rw [show prS (decide (rr = 1)) m = k from by rw [prS, if_neg (fun q => by have q1 := of_decide_eq_true q.1; have q2 := q.2; omega)]; omega]; exact cD)⟩
        · refine x_aload_n dX8_dines_42 rfl ?_
          refine x_aload_n dX8_dines_43 rfl ?_
          refine x_rget (v := .int (nI m)) f_X8_255 hR (rg c31) dX8_dines_44 ?_
          refine x_iconst (v := nI 1) dX8_dines_47 (by decide) ?_
          refine x_isubN (by omega) dX8_dines_48 ?_
          refine x_iconst (v := nI 0) dX8_dines_49 (by decide) ?_
          refine x_callV m_X8_settles l_X8_283 (r_settles hR hW (by omega) (by omega)) rfl hR.2.1 (by omega) rfl rfl (Nat.le_of_ble_eq_true rfl) ⟨Nat.le_refl _, Nat.le_refl _⟩ dX8_dines_50 (fun r4 s4 q4 => ?_)
          obtain ⟨rfl, a4, tw4, b4, R4, A4, B4, h64⟩ := q4
          have hW4 := (hW.fr A4).setD B4 h64 (mtD_ok hW.D9)
          obtain ⟨hC4, hT4, c314, hm4, cT4, ht4, hTn4⟩ := id hW4
          obtain ⟨c74, hrr4, c134, hn74, c144, cK4, cN4, cW4, cD4, hN74, hW74, hD494, hK54, hN94, hD9994⟩ := id hC4
          obtain ⟨ht74, htb4⟩ := id ht4
          refine x_stk (st' := []) rfl ?_
          exact x_vret ⟨Nat.le_refl _, Nat.le_refl _⟩ rfl dX8_dines_53 ⟨rfl, _, _, _, R4, hA.tr (FrS.rf.tr A4), hB.tr (Fb.rf.tr B4), (by rw [show prS (decide (rr = 1)) m = (m - 1) + 1 from by rw [prS, if_pos ⟨decide_eq_true (by omega), by omega⟩]; omega, hdD, nxS_last (by omega), show m - 1 = k by omega]; rw [show m - 1 = k by omega] at cD4; exact cD4)⟩
    · exact absurd hv1 (by omega)
  | succ q ih =>
    intro k a tw b σ hR hW hA hB hk
    obtain ⟨hC, hT, c31, hm, cT, ht, hTn⟩ := id hW
    obtain ⟨c7, hrr, c13, hn7, c14, cK, cN, cW, cD, hN7, hW7, hD49, hK5, hN9, hD999⟩ := id hC
    obtain ⟨ht7, htb⟩ := id ht
    refine x_iload_n dX8_dines_2 rfl ?_
    refine x_aload_n dX8_dines_3 rfl ?_
    refine x_rget (v := .int (nI m)) f_X8_255 hR (rg c31) dX8_dines_4 ?_
    refine x_iconst (v := nI 1) dX8_dines_7 (by decide) ?_
    refine x_isub dX8_dines_8 ?_
    refine x_icmpT_ge (p := ((k : Nat) : Int)) (q := (((m : Nat) : Int) - 1)) (tgt := 26) (nI_toInt (by omega)) (nI_m1 (by omega)) dX8_dines_9 (by decide) (fun hv1 => ?_) (fun hv1 => ?_)
    · exact absurd hv1 (by omega)
    · refine x_aload_n dX8_dines_12 rfl ?_
      refine x_iload_n dX8_dines_13 rfl ?_
      refine x_iload_n dX8_dines_14 rfl ?_
      refine x_iconst (v := nI 1) dX8_dines_15 (by decide) ?_
      refine x_iaddN dX8_dines_16 ?_
      refine x_callV m_X8_settles l_X8_283 (r_settles hR hW (by omega) (by omega)) rfl hR.2.1 (by omega) rfl rfl (Nat.le_of_ble_eq_true rfl) ⟨Nat.le_refl _, Nat.le_refl _⟩ dX8_dines_17 (fun r2 s2 q2 => ?_)
      obtain ⟨rfl, a2, tw2, b2, R2, A2, B2, h62⟩ := q2
      have hW2 := (hW.fr A2).setD B2 h62 (mtD_ok hW.D9)
      obtain ⟨hC2, hT2, c312, hm2, cT2, ht2, hTn2⟩ := id hW2
      obtain ⟨c72, hrr2, c132, hn72, c142, cK2, cN2, cW2, cD2, hN72, hW72, hD492, hK52, hN92, hD9992⟩ := id hC2
      obtain ⟨ht72, htb2⟩ := id ht2
      refine x_stk (st' := []) rfl ?_
      refine x_iincN dX8_dines_20 rfl (by decide) rfl ?_
      refine x_lv (lv' := [some (.ref 1000), some (.int (nI (k + 1)))]) rfl ?_
      refine x_goto (tgt := 2) dX8_dines_23 (by decide) ?_
      exact ih (k + 1) a2 tw2 b2 s2 R2 (by rw [hdD, nxS_in (by omega)]; exact hW2) (hA.tr (FrS.rf.tr A2)) (hB.tr (Fb.rf.tr B2)) (by omega)
set_option maxHeartbeats 4000000 in
theorem r_dines {σ0 σ : ZS} {a : Nat → Int32} {tw : Int64} {b : Nat → List Int32} {rr n : Nat} {K N : List Nat} {W : List Int32} {D : List Nat} {fr : Int32} {ru : Nat} {L S : List Nat} {lf jf m : Nat} {t : List Nat} (hR : RM σ0 σ a tw b) (hW : TW a b rr n K N W D fr ru L S lf jf m t) : Cn 164 M_X8_dines 0 0 [.ref 1000] σ (fun r9 σ' => r9 = none ∧ ∃ (a' : Nat → Int32) (tw' : Int64) (b' : Nat → List Int32), RM σ0 σ' a' tw' b' ∧ FrS a a' ∧ Fb 6 b b' ∧ b' 6 = ((hdD S lf jf K N W t m (prS (decide (rr = 1)) m) D)).map nI) := by
  obtain ⟨hC, hT, c31, hm, cT, ht, hTn⟩ := id hW
  obtain ⟨c7, hrr, c13, hn7, c14, cK, cN, cW, cD, hN7, hW7, hD49, hK5, hN9, hD999⟩ := id hC
  obtain ⟨ht7, htb⟩ := id ht
  refine Cn.intro (lv0 := [some (.ref 1000), none]) rfl (Nat.le_of_ble_eq_true rfl) rfl (fun d hd => ?_)
  refine x_iconst (v := nI 0) dX8_dines_0 (by decide) ?_
  refine x_istore_n dX8_dines_1 (by decide) rfl ?_
  refine x_lv (lv' := [some (.ref 1000), some (.int (nI 0))]) rfl ?_
  exact lr_dines hW.D9 hm hd (m - 1) 0 a tw b σ hR hW FrS.rf Fb.rf (by omega)
/-- the sum over the neighbours of seat x, on top of s; over all seats -/
def rowJ (g : Nat → Nat → Int32) (bs : Nat → Nat → Bool) (x : Nat) (s : Int32) : Nat → Int32
  | 0 => s
  | k + 1 => rowJ g bs x s k + (if bs x k = true then g x k else nI 0)
def allJ (g : Nat → Nat → Int32) (bs : Nat → Nat → Bool) (m : Nat) : Nat → Int32
  | 0 => nI 0
  | k + 1 => rowJ g bs k (allJ g bs m k) m
set_option maxHeartbeats 4000000 in
theorem lr_joy1 {Q : Option Value → ZS → Prop} {σ0 : ZS} {a0 : Nat → Int32} {b : Nat → List Int32} {rr n : Nat} {K N : List Nat} {W : List Int32} {D : List Nat} {fr : Int32} {ru : Nat} {L S : List Nat} {lf jf m : Nat} {t : List Nat} {x : Nat} (hx : x < m) {d : Nat} (hd : 163 ≤ d) (hout : ∀ (a : Nat → Int32) (tw : Int64) (σ : ZS) (hR : RM σ0 σ a tw b) (hW : TW a b rr n K N W D fr ru L S lf jf m t) (hA : FrS a0 a), X M_X8_joy d 0 0 Q 0 0 4 [some (.ref 1000), some (.int ((allJ (fun x y => gdI S jf K N W D (t.getD x 0) (t.getD y 0) x m) (bsB rr m) m (x + 1)))), some (.int (nI (x + 1))), some (.int (nI m))] [] σ) : ∀ (q y : Nat) (a : Nat → Int32) (tw : Int64) (σ : ZS) (hR : RM σ0 σ a tw b) (hW : TW a b rr n K N W D fr ru L S lf jf m t) (hA : FrS a0 a), y + q = m → X M_X8_joy d 0 0 (Q) 0 0 14 [some (.ref 1000), some (.int ((rowJ (fun x y => gdI S jf K N W D (t.getD x 0) (t.getD y 0) x m) (bsB rr m) x (allJ (fun x y => gdI S jf K N W D (t.getD x 0) (t.getD y 0) x m) (bsB rr m) m x) y))), some (.int (nI x)), some (.int (nI y))] [] σ := by
  intro q
  induction q with
  | zero =>
    intro y a tw σ hR hW hA hyk
    obtain ⟨hC, hT, c31, hm, cT, ht, hTn⟩ := id hW
    obtain ⟨c7, hrr, c13, hn7, c14, cK, cN, cW, cD, hN7, hW7, hD49, hK5, hN9, hD999⟩ := id hC
    obtain ⟨ht7, htb⟩ := id ht
    refine x_iload_n dX8_joy_14 rfl ?_
    refine x_aload_n dX8_joy_15 rfl ?_
    refine x_rget (v := .int (nI m)) f_X8_255 hR (rg c31) dX8_joy_16 ?_
    refine x_icmpN_ge (tgt := 50) dX8_joy_19 (by decide) (by omega) (by omega) (fun hv1 => ?_) (fun hv1 => ?_)
    · refine x_iincN dX8_joy_50 rfl (by decide) rfl ?_
      refine x_lv (lv' := [some (.ref 1000), some (.int ((rowJ (fun x y => gdI S jf K N W D (t.getD x 0) (t.getD y 0) x m) (bsB rr m) x (allJ (fun x y => gdI S jf K N W D (t.getD x 0) (t.getD y 0) x m) (bsB rr m) m x) y))), some (.int (nI (x + 1))), some (.int (nI y))]) rfl ?_
      refine x_goto (tgt := 4) dX8_joy_53 (by decide) ?_
      rw [show y = m by omega]
      exact hout a tw σ hR hW hA
    · exact absurd hv1 (by omega)
  | succ q ih =>
    intro y a tw σ hR hW hA hyk
    obtain ⟨hC, hT, c31, hm, cT, ht, hTn⟩ := id hW
    obtain ⟨c7, hrr, c13, hn7, c14, cK, cN, cW, cD, hN7, hW7, hD49, hK5, hN9, hD999⟩ := id hC
    obtain ⟨ht7, htb⟩ := id ht
    refine x_iload_n dX8_joy_14 rfl ?_
    refine x_aload_n dX8_joy_15 rfl ?_
    refine x_rget (v := .int (nI m)) f_X8_255 hR (rg c31) dX8_joy_16 ?_
    refine x_icmpN_ge (tgt := 50) dX8_joy_19 (by decide) (by omega) (by omega) (fun hv1 => ?_) (fun hv1 => ?_)
    · exact absurd hv1 (by omega)
    · refine x_iload_n dX8_joy_22 rfl ?_
      refine x_aload_n dX8_joy_23 rfl ?_
      refine x_iload_n dX8_joy_24 rfl ?_
      refine x_iload_n dX8_joy_25 rfl ?_
      refine x_callV m_X8_beside l_X8_268 (r_beside hR hC c31 hm (by omega) (by omega)) rfl hR.2.1 (by omega) rfl rfl (Nat.le_of_ble_eq_true rfl) ⟨Nat.le_refl _, Nat.le_refl _⟩ dX8_joy_26 (fun r2 s2 q2 => ?_)
      obtain ⟨rfl, eq2⟩ := q2
      obtain rfl := eq2.symm
      refine x_stk (st' := [.int (bI ((bsB rr m x y))), .int ((rowJ (fun x y => gdI S jf K N W D (t.getD x 0) (t.getD y 0) x m) (bsB rr m) x (allJ (fun x y => gdI S jf K N W D (t.getD x 0) (t.getD y 0) x m) (bsB rr m) m x) y))]) rfl ?_
      refine x_ifB_eq (tgt := 41) dX8_joy_29 (by decide) (fun hv3 => ?_) (fun hv3 => ?_)
      · refine x_iconst (v := nI 0) dX8_joy_41 (by decide) ?_
        refine x_iadd dX8_joy_42 ?_
        refine x_istore_n dX8_joy_43 (by decide) rfl ?_
        refine x_lv (lv' := [some (.ref 1000), some (.int (((rowJ (fun x y => gdI S jf K N W D (t.getD x 0) (t.getD y 0) x m) (bsB rr m) x (allJ (fun x y => gdI S jf K N W D (t.getD x 0) (t.getD y 0) x m) (bsB rr m) m x) y) + nI 0))), some (.int (nI x)), some (.int (nI y))]) rfl ?_
        refine x_iincN dX8_joy_44 rfl (by decide) rfl ?_
        refine x_lv (lv' := [some (.ref 1000), some (.int (((rowJ (fun x y => gdI S jf K N W D (t.getD x 0) (t.getD y 0) x m) (bsB rr m) x (allJ (fun x y => gdI S jf K N W D (t.getD x 0) (t.getD y 0) x m) (bsB rr m) m x) y) + nI 0))), some (.int (nI x)), some (.int (nI (y + 1)))]) rfl ?_
        refine x_goto (tgt := 14) dX8_joy_47 (by decide) ?_
        refine x_lv (lv' := [some (.ref 1000), some (.int ((rowJ (fun x y => gdI S jf K N W D (t.getD x 0) (t.getD y 0) x m) (bsB rr m) x (allJ (fun x y => gdI S jf K N W D (t.getD x 0) (t.getD y 0) x m) (bsB rr m) m x) (y + 1)))), some (.int (nI x)), some (.int (nI (y + 1)))]) (by rw [rowJ, if_neg (by rw [hv3]; decide)]) ?_
        exact ih (y + 1) a tw σ hR hW (hA.tr FrS.rf) (by omega)
      · refine x_aload_n dX8_joy_32 rfl ?_
        refine x_iload_n dX8_joy_33 rfl ?_
        refine x_iload_n dX8_joy_34 rfl ?_
        refine x_callV m_X8_gladOf l_X8_271 (r_gladOf hR hW (by omega) (by omega)) rfl hR.2.1 (by omega) rfl rfl (Nat.le_of_ble_eq_true rfl) ⟨Nat.le_refl _, Nat.le_refl _⟩ dX8_joy_35 (fun r4 s4 q4 => ?_)
        obtain ⟨a4, tw4, rfl, R4, A4⟩ := q4
        have hW4 := hW.fr A4
        obtain ⟨hC4, hT4, c314, hm4, cT4, ht4, hTn4⟩ := id hW4
        obtain ⟨c74, hrr4, c134, hn74, c144, cK4, cN4, cW4, cD4, hN74, hW74, hD494, hK54, hN94, hD9994⟩ := id hC4
        obtain ⟨ht74, htb4⟩ := id ht4
        refine x_stk (st' := [.int ((gdI S jf K N W D (t.getD x 0) (t.getD y 0) x m)), .int ((rowJ (fun x y => gdI S jf K N W D (t.getD x 0) (t.getD y 0) x m) (bsB rr m) x (allJ (fun x y => gdI S jf K N W D (t.getD x 0) (t.getD y 0) x m) (bsB rr m) m x) y))]) rfl ?_
        refine x_goto (tgt := 42) dX8_joy_38 (by decide) ?_
        refine x_iadd dX8_joy_42 ?_
        refine x_istore_n dX8_joy_43 (by decide) rfl ?_
        refine x_lv (lv' := [some (.ref 1000), some (.int (((rowJ (fun x y => gdI S jf K N W D (t.getD x 0) (t.getD y 0) x m) (bsB rr m) x (allJ (fun x y => gdI S jf K N W D (t.getD x 0) (t.getD y 0) x m) (bsB rr m) m x) y) + (gdI S jf K N W D (t.getD x 0) (t.getD y 0) x m)))), some (.int (nI x)), some (.int (nI y))]) rfl ?_
        refine x_iincN dX8_joy_44 rfl (by decide) rfl ?_
        refine x_lv (lv' := [some (.ref 1000), some (.int (((rowJ (fun x y => gdI S jf K N W D (t.getD x 0) (t.getD y 0) x m) (bsB rr m) x (allJ (fun x y => gdI S jf K N W D (t.getD x 0) (t.getD y 0) x m) (bsB rr m) m x) y) + (gdI S jf K N W D (t.getD x 0) (t.getD y 0) x m)))), some (.int (nI x)), some (.int (nI (y + 1)))]) rfl ?_
        refine x_goto (tgt := 14) dX8_joy_47 (by decide) ?_
        refine x_lv (lv' := [some (.ref 1000), some (.int ((rowJ (fun x y => gdI S jf K N W D (t.getD x 0) (t.getD y 0) x m) (bsB rr m) x (allJ (fun x y => gdI S jf K N W D (t.getD x 0) (t.getD y 0) x m) (bsB rr m) m x) (y + 1)))), some (.int (nI x)), some (.int (nI (y + 1)))]) (by rw [rowJ, if_pos hv3]) ?_
        exact ih (y + 1) a4 tw4 s4 R4 hW4 (hA.tr (FrS.rf.tr A4)) (by omega)
set_option maxHeartbeats 4000000 in
theorem lr_joy {σ0 : ZS} {a0 : Nat → Int32} {b : Nat → List Int32} {rr n : Nat} {K N : List Nat} {W : List Int32} {D : List Nat} {fr : Int32} {ru : Nat} {L S : List Nat} {lf jf m : Nat} {t : List Nat} {d : Nat} (hd : 163 ≤ d) : ∀ (q k : Nat) (a : Nat → Int32) (tw : Int64) (σ : ZS) (hR : RM σ0 σ a tw b) (hW : TW a b rr n K N W D fr ru L S lf jf m t) (hA : FrS a0 a), k + q = m → X M_X8_joy d 0 0 (fun r9 σ' => ∃ (a' : Nat → Int32) (tw' : Int64), r9 = some (.int (allJ (fun x y => gdI S jf K N W D (t.getD x 0) (t.getD y 0) x m) (bsB rr m) m m)) ∧ RM σ0 σ' a' tw' b ∧ FrS a0 a') 0 0 4 [some (.ref 1000), some (.int ((allJ (fun x y => gdI S jf K N W D (t.getD x 0) (t.getD y 0) x m) (bsB rr m) m k))), some (.int (nI k)), none] [] σ := by
  intro q
  induction q with
  | zero =>
    intro k a tw σ hR hW hA hk
    obtain ⟨hC, hT, c31, hm, cT, ht, hTn⟩ := id hW
    obtain ⟨c7, hrr, c13, hn7, c14, cK, cN, cW, cD, hN7, hW7, hD49, hK5, hN9, hD999⟩ := id hC
    obtain ⟨ht7, htb⟩ := id ht
    refine x_iload_n dX8_joy_4 rfl ?_
    refine x_aload_n dX8_joy_5 rfl ?_
    refine x_rget (v := .int (nI m)) f_X8_255 hR (rg c31) dX8_joy_6 ?_
    refine x_icmpN_ge (tgt := 56) dX8_joy_9 (by decide) (by omega) (by omega) (fun hv1 => ?_) (fun hv1 => ?_)
    · refine x_iload_n dX8_joy_56 rfl ?_
      exact x_iret ⟨Nat.le_refl _, Nat.le_refl _⟩ rfl dX8_joy_57 ⟨_, _, by rw [show k = m by omega], hR, hA⟩
    · exact absurd hv1 (by omega)
  | succ q ih =>
    intro k a tw σ hR hW hA hk
    obtain ⟨hC, hT, c31, hm, cT, ht, hTn⟩ := id hW
    obtain ⟨c7, hrr, c13, hn7, c14, cK, cN, cW, cD, hN7, hW7, hD49, hK5, hN9, hD999⟩ := id hC
    obtain ⟨ht7, htb⟩ := id ht
    refine x_iload_n dX8_joy_4 rfl ?_
    refine x_aload_n dX8_joy_5 rfl ?_
    refine x_rget (v := .int (nI m)) f_X8_255 hR (rg c31) dX8_joy_6 ?_
    refine x_icmpN_ge (tgt := 56) dX8_joy_9 (by decide) (by omega) (by omega) (fun hv1 => ?_) (fun hv1 => ?_)
    · exact absurd hv1 (by omega)
    · refine x_iconst (v := nI 0) dX8_joy_12 (by decide) ?_
      refine x_istore_n dX8_joy_13 (by decide) rfl ?_
      refine x_lv (lv' := [some (.ref 1000), some (.int ((allJ (fun x y => gdI S jf K N W D (t.getD x 0) (t.getD y 0) x m) (bsB rr m) m k))), some (.int (nI k)), some (.int (nI 0))]) rfl ?_
      refine x_lv (lv' := [some (.ref 1000), some (.int ((rowJ (fun x y => gdI S jf K N W D (t.getD x 0) (t.getD y 0) x m) (bsB rr m) k (allJ (fun x y => gdI S jf K N W D (t.getD x 0) (t.getD y 0) x m) (bsB rr m) m k) 0))), some (.int (nI k)), some (.int (nI 0))]) rfl ?_
      refine lr_joy1 (x := k) (by omega) hd ?_ m 0 a tw σ hR hW hA (by omega)
      intro a tw σ hR hW hA
      refine x_drop 3 ?_
      exact ih (k + 1) a tw σ hR hW hA (by omega)
set_option maxHeartbeats 4000000 in
theorem r_joy {σ0 σ : ZS} {a : Nat → Int32} {tw : Int64} {b : Nat → List Int32} {rr n : Nat} {K N : List Nat} {W : List Int32} {D : List Nat} {fr : Int32} {ru : Nat} {L S : List Nat} {lf jf m : Nat} {t : List Nat} (hR : RM σ0 σ a tw b) (hW : TW a b rr n K N W D fr ru L S lf jf m t) : Cn 163 M_X8_joy 0 0 [.ref 1000] σ (fun r9 σ' => ∃ (a' : Nat → Int32) (tw' : Int64), r9 = some (.int (allJ (fun x y => gdI S jf K N W D (t.getD x 0) (t.getD y 0) x m) (bsB rr m) m m)) ∧ RM σ0 σ' a' tw' b ∧ FrS a a') := by
  obtain ⟨hC, hT, c31, hm, cT, ht, hTn⟩ := id hW
  obtain ⟨c7, hrr, c13, hn7, c14, cK, cN, cW, cD, hN7, hW7, hD49, hK5, hN9, hD999⟩ := id hC
  obtain ⟨ht7, htb⟩ := id ht
  refine Cn.intro (lv0 := [some (.ref 1000), none, none, none]) rfl (Nat.le_of_ble_eq_true rfl) rfl (fun d hd => ?_)
  refine x_iconst (v := nI 0) dX8_joy_0 (by decide) ?_
  refine x_istore_n dX8_joy_1 (by decide) rfl ?_
  refine x_lv (lv' := [some (.ref 1000), some (.int (nI 0)), none, none]) rfl ?_
  refine x_iconst (v := nI 0) dX8_joy_2 (by decide) ?_
  refine x_istore_n dX8_joy_3 (by decide) rfl ?_
  refine x_lv (lv' := [some (.ref 1000), some (.int (nI 0)), some (.int (nI 0)), none]) rfl ?_
  exact lr_joy hd m 0 a tw σ hR hW FrS.rf (by omega)
/-- the first k of a row are another's -/
def Cp (k : Nat) (l l' : List Int32) : Prop := ∀ i, i < k → l.getD i 0 = l'.getD i 0
theorem Cp.z {l l' : List Int32} : Cp 0 l l' := fun i h => absurd h (by omega)
theorem Cp.s {k : Nat} {l l' : List Int32} (h : Cp k l l') (hk : k < l.length) : Cp (k + 1) (l.set k (l'.getD k 0)) l' := by
  intro i hi
  rw [gset hk]
  by_cases e : i = k
  · rw [if_pos e, e]
  · rw [if_neg e]; exact h i (by omega)
theorem Cp.all {k : Nat} {l l' : List Int32} (h : Cp k l l') (h1 : l.length = k) (h2 : l'.length = k) : l = l' := by
  refine List.ext_getElem? (fun i => ?_)
  by_cases hi : i < k
  · have e := h i hi
    rw [List.getD_eq_getElem?_getD, List.getD_eq_getElem?_getD, List.getElem?_eq_getElem (by omega), List.getElem?_eq_getElem (by omega)] at e
    rw [List.getElem?_eq_getElem (by omega), List.getElem?_eq_getElem (by omega)]
    exact congrArg some e
  · rw [List.getElem?_eq_none (by omega), List.getElem?_eq_none (by omega)]
set_option maxHeartbeats 4000000 in
theorem lr_aside {σ0 : ZS} {a : Nat → Int32} {tw : Int64} {b0 : Nat → List Int32} {d : Nat} (hd : 0 ≤ d) : ∀ (q k : Nat) (b : Nat → List Int32) (σ : ZS) (hR : RM σ0 σ a tw b) (hB : Fb 8 b0 b) (hc : Cp k (b 8) (b0 6)), k + q = 49 → X M_X8_laysAside d 0 0 (fun r9 σ' => r9 = none ∧ ∃ b' : Nat → List Int32, RM σ0 σ' a tw b' ∧ Fb 8 b0 b' ∧ b' 8 = b0 6) 0 0 2 [some (.ref 1000), some (.int (nI k))] [] σ := by
  intro q
  induction q with
  | zero =>
    intro k b σ hR hB hc hk
    refine x_iload_n dX8_laysAside_2 rfl ?_
    refine x_bipush (v := nI 49) dX8_laysAside_3 (by decide) ?_
    refine x_icmpN_ge (tgt := 26) dX8_laysAside_5 (by decide) (by omega) (by omega) (fun hv1 => ?_) (fun hv1 => ?_)
    · exact x_vret ⟨Nat.le_refl _, Nat.le_refl _⟩ rfl dX8_laysAside_26 ⟨rfl, b, hR, hB, hc.all ((hR.rlen (j := 8) (by decide) (m := 49) rfl).trans (by omega)) (by rw [← hB 6 (by decide)]; exact (hR.rlen (j := 6) (by decide) (m := 49) rfl).trans (by omega))⟩
    · exact absurd hv1 (by omega)
  | succ q ih =>
    intro k b σ hR hB hc hk
    refine x_iload_n dX8_laysAside_2 rfl ?_
    refine x_bipush (v := nI 49) dX8_laysAside_3 (by decide) ?_
    refine x_icmpN_ge (tgt := 26) dX8_laysAside_5 (by decide) (by omega) (by omega) (fun hv1 => ?_) (fun hv1 => ?_)
    · exact absurd hv1 (by omega)
    · refine x_aload_n dX8_laysAside_8 rfl ?_
      refine x_rget f_X8_44 hR rfl dX8_laysAside_9 ?_
      refine x_iload_n dX8_laysAside_12 rfl ?_
      refine x_aload_n dX8_laysAside_13 rfl ?_
      refine x_rget f_X8_35 hR rfl dX8_laysAside_14 ?_
      refine x_iload_n dX8_laysAside_17 rfl ?_
      refine x_rald (j := 6) (n := k) hR rfl (by decide) rfl rfl (rlt hR (m := 49) (by decide) rfl (by omega)) dX8_laysAside_18 ?_
      refine x_rast (j := 8) (n := k) hR rfl (by decide) rfl rfl (rlt hR (m := 49) (by decide) rfl (by omega)) dX8_laysAside_19 (fun sw2 Rw2 => ?_)
      refine x_iincN dX8_laysAside_20 rfl (by decide) rfl ?_
      refine x_lv (lv' := [some (.ref 1000), some (.int (nI (k + 1)))]) rfl ?_
      refine x_goto (tgt := 2) dX8_laysAside_23 (by decide) ?_
      exact ih (k + 1) (up b 8 ((b 8).set k (((b 6).getD k 0)))) sw2 Rw2 hB.up2 (by rw [← hB 6 (by decide)]; rw [← hB 6 (by decide)] at hc; exact hc.s (rlt hR (m := 49) (by decide) rfl (by omega))) (by omega)
set_option maxHeartbeats 4000000 in
theorem r_aside {σ0 σ : ZS} {a : Nat → Int32} {tw : Int64} {b : Nat → List Int32} (hR : RM σ0 σ a tw b) : Cn 0 M_X8_laysAside 0 0 [.ref 1000] σ (fun r9 σ' => r9 = none ∧ ∃ b' : Nat → List Int32, RM σ0 σ' a tw b' ∧ Fb 8 b b' ∧ b' 8 = b 6) := by
  refine Cn.intro (lv0 := [some (.ref 1000), none]) rfl (Nat.le_of_ble_eq_true rfl) rfl (fun d hd => ?_)
  refine x_iconst (v := nI 0) dX8_laysAside_0 (by decide) ?_
  refine x_istore_n dX8_laysAside_1 (by decide) rfl ?_
  refine x_lv (lv' := [some (.ref 1000), some (.int (nI 0))]) rfl ?_
  exact lr_aside hd 49 0 b σ hR Fb.rf Cp.z (by omega)
set_option maxHeartbeats 4000000 in
theorem lr_layback {σ0 : ZS} {a : Nat → Int32} {tw : Int64} {b0 : Nat → List Int32} {d : Nat} (hd : 0 ≤ d) : ∀ (q k : Nat) (b : Nat → List Int32) (σ : ZS) (hR : RM σ0 σ a tw b) (hB : Fb 6 b0 b) (hc : Cp k (b 6) (b0 8)), k + q = 49 → X M_X8_laysBack d 0 0 (fun r9 σ' => r9 = none ∧ ∃ b' : Nat → List Int32, RM σ0 σ' a tw b' ∧ Fb 6 b0 b' ∧ b' 6 = b0 8) 0 0 2 [some (.ref 1000), some (.int (nI k))] [] σ := by
  intro q
  induction q with
  | zero =>
    intro k b σ hR hB hc hk
    refine x_iload_n dX8_laysBack_2 rfl ?_
    refine x_bipush (v := nI 49) dX8_laysBack_3 (by decide) ?_
    refine x_icmpN_ge (tgt := 26) dX8_laysBack_5 (by decide) (by omega) (by omega) (fun hv1 => ?_) (fun hv1 => ?_)
    · exact x_vret ⟨Nat.le_refl _, Nat.le_refl _⟩ rfl dX8_laysBack_26 ⟨rfl, b, hR, hB, hc.all ((hR.rlen (j := 6) (by decide) (m := 49) rfl).trans (by omega)) (by rw [← hB 8 (by decide)]; exact (hR.rlen (j := 8) (by decide) (m := 49) rfl).trans (by omega))⟩
    · exact absurd hv1 (by omega)
  | succ q ih =>
    intro k b σ hR hB hc hk
    refine x_iload_n dX8_laysBack_2 rfl ?_
    refine x_bipush (v := nI 49) dX8_laysBack_3 (by decide) ?_
    refine x_icmpN_ge (tgt := 26) dX8_laysBack_5 (by decide) (by omega) (by omega) (fun hv1 => ?_) (fun hv1 => ?_)
    · exact absurd hv1 (by omega)
    · refine x_aload_n dX8_laysBack_8 rfl ?_
      refine x_rget f_X8_35 hR rfl dX8_laysBack_9 ?_
      refine x_iload_n dX8_laysBack_12 rfl ?_
      refine x_aload_n dX8_laysBack_13 rfl ?_
      refine x_rget f_X8_44 hR rfl dX8_laysBack_14 ?_
      refine x_iload_n dX8_laysBack_17 rfl ?_
      refine x_rald (j := 8) (n := k) hR rfl (by decide) rfl rfl (rlt hR (m := 49) (by decide) rfl (by omega)) dX8_laysBack_18 ?_
      refine x_rast (j := 6) (n := k) hR rfl (by decide) rfl rfl (rlt hR (m := 49) (by decide) rfl (by omega)) dX8_laysBack_19 (fun sw2 Rw2 => ?_)
      refine x_iincN dX8_laysBack_20 rfl (by decide) rfl ?_
      refine x_lv (lv' := [some (.ref 1000), some (.int (nI (k + 1)))]) rfl ?_
      refine x_goto (tgt := 2) dX8_laysBack_23 (by decide) ?_
      exact ih (k + 1) (up b 6 ((b 6).set k (((b 8).getD k 0)))) sw2 Rw2 hB.up2 (by rw [← hB 8 (by decide)]; rw [← hB 8 (by decide)] at hc; exact hc.s (rlt hR (m := 49) (by decide) rfl (by omega))) (by omega)
set_option maxHeartbeats 4000000 in
theorem r_layback {σ0 σ : ZS} {a : Nat → Int32} {tw : Int64} {b : Nat → List Int32} (hR : RM σ0 σ a tw b) : Cn 0 M_X8_laysBack 0 0 [.ref 1000] σ (fun r9 σ' => r9 = none ∧ ∃ b' : Nat → List Int32, RM σ0 σ' a tw b' ∧ Fb 6 b b' ∧ b' 6 = b 8) := by
  refine Cn.intro (lv0 := [some (.ref 1000), none]) rfl (Nat.le_of_ble_eq_true rfl) rfl (fun d hd => ?_)
  refine x_iconst (v := nI 0) dX8_laysBack_0 (by decide) ?_
  refine x_istore_n dX8_laysBack_1 (by decide) rfl ?_
  refine x_lv (lv' := [some (.ref 1000), some (.int (nI 0))]) rfl ?_
  exact lr_layback hd 49 0 b σ hR Fb.rf Cp.z (by omega)
theorem TW.b8 {a : Nat → Int32} {b b' : Nat → List Int32} {rr n : Nat} {K N : List Nat} {W : List Int32} {D : List Nat} {fr : Int32} {ru : Nat} {L S : List Nat} {lf jf m : Nat} {t : List Nat} (h : TW a b rr n K N W D fr ru L S lf jf m t) (hb : Fb 8 b b') : TW a b' rr n K N W D fr ru L S lf jf m t := by
  obtain ⟨⟨c7, hrr, c13, hn7, c14, cK, cN, cW, cD, r⟩, hT, c31, hm, cT, r2⟩ := h
  exact ⟨⟨c7, hrr, c13, hn7, c14, fun i hi => by rw [hb 3 (by decide)]; exact cK i hi, by rw [hb 4 (by decide)]; exact cN, by rw [hb 5 (by decide)]; exact cW, by rw [hb 6 (by decide)]; exact cD, r⟩, hT.setB (hb 0 (by decide)) (hb 1 (by decide)), c31, hm, by rw [hb 7 (by decide)]; exact cT, r2⟩
set_option maxHeartbeats 4000000 in
theorem r_owedBehind {σ0 σ : ZS} {a : Nat → Int32} {tw : Int64} {b : Nat → List Int32} {rr n : Nat} {K N : List Nat} {W : List Int32} {D : List Nat} {fr : Int32} {ru : Nat} {L S : List Nat} {lf jf m : Nat} {t : List Nat} (hR : RM σ0 σ a tw b) (hW : TW a b rr n K N W D fr ru L S lf jf m t) : Cn 165 M_X8_owedBehind 0 0 [.ref 1000] σ (fun r9 σ' => ∃ (a' : Nat → Int32) (tw' : Int64) (b' : Nat → List Int32), r9 = some (.int (nI (allS (hdD S lf jf K N W t m (prS (decide (rr = 1)) m) D) n n))) ∧ RM σ0 σ' a' tw' b' ∧ FrS a a' ∧ Fb 8 b b') := by
  obtain ⟨hC, hT, c31, hm, cT, ht, hTn⟩ := id hW
  obtain ⟨c7, hrr, c13, hn7, c14, cK, cN, cW, cD, hN7, hW7, hD49, hK5, hN9, hD999⟩ := id hC
  obtain ⟨ht7, htb⟩ := id ht
  refine Cn.intro (lv0 := [some (.ref 1000), none]) rfl (Nat.le_of_ble_eq_true rfl) rfl (fun d hd => ?_)
  refine x_aload_n dX8_owedBehind_0 rfl ?_
  refine x_callV m_X8_laysAside l_X8_287 (r_aside hR) rfl hR.2.1 (by omega) rfl rfl (Nat.le_of_ble_eq_true rfl) ⟨Nat.le_refl _, Nat.le_refl _⟩ dX8_owedBehind_1 (fun r1 s1 q1 => ?_)
  obtain ⟨rfl, b1, R1, B1, h81⟩ := q1
  have hW1 := hW.b8 B1
  obtain ⟨hC1, hT1, c311, hm1, cT1, ht1, hTn1⟩ := id hW1
  obtain ⟨c71, hrr1, c131, hn71, c141, cK1, cN1, cW1, cD1, hN71, hW71, hD491, hK51, hN91, hD9991⟩ := id hC1
  obtain ⟨ht71, htb1⟩ := id ht1
  refine x_stk (st' := []) rfl ?_
  refine x_aload_n dX8_owedBehind_4 rfl ?_
  refine x_callV m_X8_dines l_X8_290 (r_dines R1 hW1) rfl R1.2.1 (by omega) rfl rfl (Nat.le_of_ble_eq_true rfl) ⟨Nat.le_refl _, Nat.le_refl _⟩ dX8_owedBehind_5 (fun r2 s2 q2 => ?_)
  obtain ⟨rfl, a2, tw2, b2, R2, A2, B2, h62⟩ := q2
  have hW2 := (hW1.fr A2).setD B2 h62 (hdD_ok hW1.D9 _)
  obtain ⟨hC2, hT2, c312, hm2, cT2, ht2, hTn2⟩ := id hW2
  obtain ⟨c72, hrr2, c132, hn72, c142, cK2, cN2, cW2, cD2, hN72, hW72, hD492, hK52, hN92, hD9992⟩ := id hC2
  obtain ⟨ht72, htb2⟩ := id ht2
  refine x_stk (st' := []) rfl ?_
  refine x_aload_n dX8_owedBehind_8 rfl ?_
  refine x_callV m_X8_owed l_X8_293 (r_owed R2 hC2) rfl R2.2.1 (by omega) rfl rfl (Nat.le_of_ble_eq_true rfl) ⟨Nat.le_refl _, Nat.le_refl _⟩ dX8_owedBehind_9 (fun r3 s3 q3 => ?_)
  obtain ⟨rfl, eq3⟩ := q3
  obtain rfl := eq3.symm
  refine x_stk (st' := [.int (nI ((allS (hdD S lf jf K N W t m (prS (decide (rr = 1)) m) D) n n)))]) rfl ?_
  refine x_istore_n dX8_owedBehind_12 (by decide) rfl ?_
  refine x_lv (lv' := [some (.ref 1000), some (.int (nI ((allS (hdD S lf jf K N W t m (prS (decide (rr = 1)) m) D) n n))))]) rfl ?_
  refine x_aload_n dX8_owedBehind_13 rfl ?_
  refine x_callV m_X8_laysBack l_X8_296 (r_layback R2) rfl R2.2.1 (by omega) rfl rfl (Nat.le_of_ble_eq_true rfl) ⟨Nat.le_refl _, Nat.le_refl _⟩ dX8_owedBehind_14 (fun r4 s4 q4 => ?_)
  obtain ⟨rfl, b4, R4, B4, h64⟩ := q4
  refine x_stk (st' := []) rfl ?_
  refine x_iload_n dX8_owedBehind_17 rfl ?_
  exact x_iret ⟨Nat.le_refl _, Nat.le_refl _⟩ rfl dX8_owedBehind_18 ⟨_, _, _, rfl, R4, (FrS.rf.tr A2), fun j9 hj9 => by
    by_cases e6 : j9 = 6
    · rw [e6, h64, B2 8 (by decide), h81]
    · rw [B4 j9 e6, B2 j9 e6, B1 j9 hj9]⟩
