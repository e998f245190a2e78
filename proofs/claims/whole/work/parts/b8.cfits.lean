/-! the class: kinds and numbers that fit -/
theorem SeT.w {σ : ZS} {A m one n : Nat} {r : Bool} {K N D K' N' D' t0 : List Nat} (h : SeT σ A m r (wlS K N D n A (-1)) t0) (hn : n ≤ 7) (hK : ∀ i, i ≠ one → K.getD i 0 = K'.getD i 0) (hN : ∀ i, i ≠ one → N.getD i 0 = N'.getD i 0) (hD : ∀ i k, i ≠ one → k < 7 → D.getD (i * 7 + k) 0 = D'.getD (i * 7 + k) 0) : SeW σ A m one r K' N' D' n t0 := by
  obtain ⟨bw, jd, fd, en, t, B, Wo, Ho, h, h1, h2, h3⟩ := h
  exact ⟨bw, jd, fd, en, t, B, _, Wo, Ho, h, h1, h2, h3, (wlS_ok hn).1, fun i hi hne => wlS_row hn hi (hK i hne) (hN i hne) (fun k hk => hD i k hne hk)⟩
theorem set_ne {l : List Nat} {one v i : Nat} (h : i ≠ one) : l.getD i 0 = (l.set one v).getD i 0 := by
  rw [getD_set, if_neg (fun z => h z.1.symm)]
set_option maxHeartbeats 4000000 in
theorem l_fitKinds {σ0 : ZS} {tx ik : Int32} {rr dn ru n : Nat} {K N : List Nat} {W : List Int32} {D : List Nat} {A m one : Nat} {t0 : List Nat} (hm : m ≤ 7) (h1 : one < 7) (hA1 : A.testBit one = true) (hA : A < 128) (hsA : setS t0 m = A) {d : Nat} (hd : 4 ≤ d) : ∀ (q k : Nat) (K2 : List Nat) (σ : ZS) (k0 : zg σ 0 = some (.inr (.inr (6, [.ref 1, .ref 6, .ref 11, .ref 16, .ref 22, .ref 28, .ref 31, .int tx, .int ik])))) (hT : Pa σ 11 (nI rr) (nI dn) (nI ru) n K2 N W D) (h2 : ∀ v, K2.set one v = K.set one v) (hW : SeT σ A m (decide (rr = 1)) (wlS K2 N D n A (-1)) t0) (hF : Fr (fun i => (11 ≤ i ∧ i ≤ 15) ∨ i = 24) σ0 σ), k + q = 6 → X M_X7_fittingKinds d 0 0 (fun r9 σ' => r9 = some (.int (nI (fitB (fun v => decide (unlT rr n (K.set one v) N D m t0 (-1) = none)) 6))) ∧ SeJ σ' ∧ PaJ σ' 11 ∧ Fr (fun i => (11 ≤ i ∧ i ≤ 15) ∨ i = 24) σ0 σ') 0 0 4 [some (.ref 0), some (.int (nI one)), some (.int (nI ((fitB (fun v => decide (unlT rr n (K.set one v) N D m t0 (-1) = none)) k)))), some (.int (nI k))] [] σ := by
  intro q
  induction q with
  | zero =>
    intro k K2 σ k0 hT h2 hW hF hk
    refine x_iload_n dX7_fittingKinds_4 rfl ?_
    refine x_bipush (v := nI 6) dX7_fittingKinds_5 (by decide) ?_
    refine x_icmpN_ge (tgt := 44) dX7_fittingKinds_7 (by decide) (by omega) (by omega) (fun hv1 => ?_) (fun hv1 => ?_)
    · refine x_iload_n dX7_fittingKinds_44 rfl ?_
      exact x_iret ⟨Nat.le_refl _, Nat.le_refl _⟩ rfl dX7_fittingKinds_45 ⟨by rw [show k = 6 by omega], hW.j, ⟨_, _, _, _, _, _, _, _, hT⟩, hF⟩
    · exact absurd hv1 (by omega)
  | succ q ih =>
    intro k K2 σ k0 hT h2 hW hF hk
    refine x_iload_n dX7_fittingKinds_4 rfl ?_
    refine x_bipush (v := nI 6) dX7_fittingKinds_5 (by decide) ?_
    refine x_icmpN_ge (tgt := 44) dX7_fittingKinds_7 (by decide) (by omega) (by omega) (fun hv1 => ?_) (fun hv1 => ?_)
    · exact absurd hv1 (by omega)
    · refine x_aload_n dX7_fittingKinds_10 rfl ?_
      refine x_get (v := .ref 11) f_X7_19 k0 rfl dX7_fittingKinds_11 ?_
      refine x_get (v := .ref 12) f_X7_118 hT.1 rfl dX7_fittingKinds_14 ?_
      refine x_iload_n dX7_fittingKinds_17 rfl ?_
      refine x_iload_n dX7_fittingKinds_18 rfl ?_
      refine x_iastK (n := one) hT.2.1 rfl (by rw [List.length_map, hT.2.2.2.2.2.2.1]; omega) dX7_fittingKinds_19 (fun sw2 gw2 Fw2 => ?_)
      refine x_iload_n dX7_fittingKinds_20 rfl ?_
      refine x_aload_n dX7_fittingKinds_21 rfl ?_
      refine x_iload_n dX7_fittingKinds_22 rfl ?_
      have hP8 := (⟨(Fw2.at (by omega) hT.1), (gma gw2), (Fw2.at (by omega) hT.2.2.1), (Fw2.at (by omega) hT.2.2.2.1), (Fw2.at (by omega) hT.2.2.2.2.1), hT.2.2.2.2.2.1, by rw [List.length_set]; exact hT.2.2.2.2.2.2.1, hT.2.2.2.2.2.2.2.1, hT.2.2.2.2.2.2.2.2.1, hT.2.2.2.2.2.2.2.2.2.1, getD_set_le hT.2.2.2.2.2.2.2.2.2.2.1 (by omega), hT.2.2.2.2.2.2.2.2.2.2.2⟩ : Pa sw2 11 (nI rr) (nI dn) (nI ru) n (K2.set one k) N W D)
      have hP9 : Pa sw2 11 (nI rr) (nI dn) (nI ru) n (K.set one k) N W D := by rw [← h2]; exact hP8
      have hW9 : SeW sw2 A m one (decide (rr = 1)) (K2.set one k) N D n t0 := (hW.fr Fw2 (by omega)).w hT.2.2.2.2.2.1 (fun i hi => set_ne hi) (fun i hi => rfl) (fun i k hi hk => rfl)
      rw [h2] at hW9
      refine x_callV m_X7_wouldFit l_X7_264 (c_wouldFit (Fw2.at (by omega) k0) hP9 hW9 hm h1 hA1 hA hsA) rfl (Fw2.at (by omega) k0) (by omega) rfl rfl (Nat.le_of_ble_eq_true rfl) ⟨Nat.le_refl _, Nat.le_refl _⟩ dX7_fittingKinds_23 (fun r3 s3 q3 => ?_)
      obtain ⟨rfl, T3, F3⟩ := q3
      refine x_stk (st' := [.int (bI (decide (unlT rr n (K.set one k) N D m t0 (-1) = none))), .int (nI ((fitB (fun v => decide (unlT rr n (K.set one v) N D m t0 (-1) = none)) k)))]) rfl ?_
      refine x_ifP_eq (P := unlT rr n (K.set one k) N D m t0 (-1) = none) inferInstance (tgt := 35) dX7_fittingKinds_26 (by decide) (fun hv4 => ?_) (fun hv4 => ?_)
      · refine x_iconst (v := nI 0) dX7_fittingKinds_35 (by decide) ?_
        refine x_iorN dX7_fittingKinds_36 ?_
        refine x_istore_n dX7_fittingKinds_37 (by decide) rfl ?_
        refine x_lv (lv' := [some (.ref 0), some (.int (nI one)), some (.int (nI (((fitB (fun v => decide (unlT rr n (K.set one v) N D m t0 (-1) = none)) k)) ||| 0))), some (.int (nI k))]) rfl ?_
        refine x_iincN dX7_fittingKinds_38 rfl (by decide) rfl ?_
        refine x_lv (lv' := [some (.ref 0), some (.int (nI one)), some (.int (nI (((fitB (fun v => decide (unlT rr n (K.set one v) N D m t0 (-1) = none)) k)) ||| 0))), some (.int (nI (k + 1)))]) rfl ?_
        refine x_goto (tgt := 4) dX7_fittingKinds_41 (by decide) ?_
        have e9 : fitB (fun v => decide (unlT rr n (K.set one v) N D m t0 (-1) = none)) (k + 1) = fitB (fun v => decide (unlT rr n (K.set one v) N D m t0 (-1) = none)) k ||| 0 := by rw [fitB, if_neg (fun z => hv4 (of_decide_eq_true z))]
        rw [← e9]
        exact ih (k + 1) (K.set one k) s3 (F3.at (by omega) (Fw2.at (by omega) k0)) (hP9.fr F3 (by omega)) (fun v => List.set_set ..) T3 (hF.tr ((Fr.rf.tr (Fw2.mono (fun i hi => by omega))).tr (F3.mono (fun i hi => by omega)))) (by omega)
      · refine x_iconst (v := nI 1) dX7_fittingKinds_29 (by decide) ?_
        refine x_iload_n dX7_fittingKinds_30 rfl ?_
        refine x_ishl dX7_fittingKinds_31 ?_
        refine x_topi (y := nI (2 ^ k)) (z_shl1 (by omega)) ?_
        refine x_goto (tgt := 36) dX7_fittingKinds_32 (by decide) ?_
        refine x_iorN dX7_fittingKinds_36 ?_
        refine x_istore_n dX7_fittingKinds_37 (by decide) rfl ?_
        refine x_lv (lv' := [some (.ref 0), some (.int (nI one)), some (.int (nI (((fitB (fun v => decide (unlT rr n (K.set one v) N D m t0 (-1) = none)) k)) ||| (2 ^ k)))), some (.int (nI k))]) rfl ?_
        refine x_iincN dX7_fittingKinds_38 rfl (by decide) rfl ?_
        refine x_lv (lv' := [some (.ref 0), some (.int (nI one)), some (.int (nI (((fitB (fun v => decide (unlT rr n (K.set one v) N D m t0 (-1) = none)) k)) ||| (2 ^ k)))), some (.int (nI (k + 1)))]) rfl ?_
        refine x_goto (tgt := 4) dX7_fittingKinds_41 (by decide) ?_
        have e9 : fitB (fun v => decide (unlT rr n (K.set one v) N D m t0 (-1) = none)) (k + 1) = fitB (fun v => decide (unlT rr n (K.set one v) N D m t0 (-1) = none)) k ||| 2 ^ k := by rw [fitB, if_pos (decide_eq_true hv4)]
        rw [← e9]
        exact ih (k + 1) (K.set one k) s3 (F3.at (by omega) (Fw2.at (by omega) k0)) (hP9.fr F3 (by omega)) (fun v => List.set_set ..) T3 (hF.tr ((Fr.rf.tr (Fw2.mono (fun i hi => by omega))).tr (F3.mono (fun i hi => by omega)))) (by omega)
set_option maxHeartbeats 4000000 in
theorem c_fitKinds {σ : ZS} {tx ik : Int32} {rr dn ru n : Nat} {K N : List Nat} {W : List Int32} {D : List Nat} {A m one : Nat} {t0 : List Nat} (hm : m ≤ 7) (h1 : one < 7) (hA1 : A.testBit one = true) (hA : A < 128) (hsA : setS t0 m = A) (k0 : zg σ 0 = some (.inr (.inr (6, [.ref 1, .ref 6, .ref 11, .ref 16, .ref 22, .ref 28, .ref 31, .int tx, .int ik])))) (hT : Pa σ 11 (nI rr) (nI dn) (nI ru) n K N W D) (hW : SeT σ A m (decide (rr = 1)) (wlS K N D n A (-1)) t0) : Cn 5 M_X7_fittingKinds 0 0 [.ref 0, .int (nI one)] σ (fun r9 σ' => r9 = some (.int (nI (fitB (fun v => decide (unlT rr n (K.set one v) N D m t0 (-1) = none)) 6))) ∧ SeJ σ' ∧ PaJ σ' 11 ∧ Fr (fun i => (11 ≤ i ∧ i ≤ 15) ∨ i = 24) σ σ') := by
  refine Cn.intro (lv0 := [some (.ref 0), some (.int (nI one)), none, none]) rfl (Nat.le_of_ble_eq_true rfl) rfl (fun d hd => ?_)
  refine x_iconst (v := nI 0) dX7_fittingKinds_0 (by decide) ?_
  refine x_istore_n dX7_fittingKinds_1 (by decide) rfl ?_
  refine x_lv (lv' := [some (.ref 0), some (.int (nI one)), some (.int (nI 0)), none]) rfl ?_
  refine x_iconst (v := nI 0) dX7_fittingKinds_2 (by decide) ?_
  refine x_istore_n dX7_fittingKinds_3 (by decide) rfl ?_
  refine x_lv (lv' := [some (.ref 0), some (.int (nI one)), some (.int (nI 0)), some (.int (nI 0))]) rfl ?_
  exact l_fitKinds (σ0 := σ) hm h1 hA1 hA hsA (by omega) 6 0 K σ k0 hT (fun _ => rfl) hW Fr.rf (by omega)
set_option maxHeartbeats 4000000 in
theorem l_fitNumbers {σ0 : ZS} {tx ik : Int32} {rr dn ru n : Nat} {K N : List Nat} {W : List Int32} {D : List Nat} {A m one : Nat} {t0 : List Nat} (hm : m ≤ 7) (h1 : one < 7) (hA1 : A.testBit one = true) (hA : A < 128) (hsA : setS t0 m = A) {d : Nat} (hd : 4 ≤ d) : ∀ (q k : Nat) (N2 : List Nat) (σ : ZS) (k0 : zg σ 0 = some (.inr (.inr (6, [.ref 1, .ref 6, .ref 11, .ref 16, .ref 22, .ref 28, .ref 31, .int tx, .int ik])))) (hT : Pa σ 11 (nI rr) (nI dn) (nI ru) n K N2 W D) (h2 : ∀ v, N2.set one v = N.set one v) (hW : SeT σ A m (decide (rr = 1)) (wlS K N2 D n A (-1)) t0) (hF : Fr (fun i => (11 ≤ i ∧ i ≤ 15) ∨ i = 24) σ0 σ), k + q = 10 → X M_X7_fittingNumbers d 0 0 (fun r9 σ' => r9 = some (.int (nI (fitB (fun v => decide (unlT rr n K (N.set one v) D m t0 (-1) = none)) 10))) ∧ SeJ σ' ∧ PaJ σ' 11 ∧ Fr (fun i => (11 ≤ i ∧ i ≤ 15) ∨ i = 24) σ0 σ') 0 0 4 [some (.ref 0), some (.int (nI one)), some (.int (nI ((fitB (fun v => decide (unlT rr n K (N.set one v) D m t0 (-1) = none)) k)))), some (.int (nI k))] [] σ := by
  intro q
  induction q with
  | zero =>
    intro k N2 σ k0 hT h2 hW hF hk
    refine x_iload_n dX7_fittingNumbers_4 rfl ?_
    refine x_bipush (v := nI 9) dX7_fittingNumbers_5 (by decide) ?_
    refine x_icmpN_gt (tgt := 44) dX7_fittingNumbers_7 (by decide) (by omega) (by omega) (fun hv1 => ?_) (fun hv1 => ?_)
    · refine x_iload_n dX7_fittingNumbers_44 rfl ?_
      exact x_iret ⟨Nat.le_refl _, Nat.le_refl _⟩ rfl dX7_fittingNumbers_45 ⟨by rw [show k = 10 by omega], hW.j, ⟨_, _, _, _, _, _, _, _, hT⟩, hF⟩
    · exact absurd hv1 (by omega)
  | succ q ih =>
    intro k N2 σ k0 hT h2 hW hF hk
    refine x_iload_n dX7_fittingNumbers_4 rfl ?_
    refine x_bipush (v := nI 9) dX7_fittingNumbers_5 (by decide) ?_
    refine x_icmpN_gt (tgt := 44) dX7_fittingNumbers_7 (by decide) (by omega) (by omega) (fun hv1 => ?_) (fun hv1 => ?_)
    · exact absurd hv1 (by omega)
    · refine x_aload_n dX7_fittingNumbers_10 rfl ?_
      refine x_get (v := .ref 11) f_X7_19 k0 rfl dX7_fittingNumbers_11 ?_
      refine x_get (v := .ref 13) f_X7_86 hT.1 rfl dX7_fittingNumbers_14 ?_
      refine x_iload_n dX7_fittingNumbers_17 rfl ?_
      refine x_iload_n dX7_fittingNumbers_18 rfl ?_
      refine x_iastK (n := one) hT.2.2.1 rfl (by rw [List.length_map, hT.2.2.2.2.2.2.2.1]; omega) dX7_fittingNumbers_19 (fun sw2 gw2 Fw2 => ?_)
      refine x_iload_n dX7_fittingNumbers_20 rfl ?_
      refine x_aload_n dX7_fittingNumbers_21 rfl ?_
      refine x_iload_n dX7_fittingNumbers_22 rfl ?_
      have hP8 := (⟨(Fw2.at (by omega) hT.1), (Fw2.at (by omega) hT.2.1), (gma gw2), (Fw2.at (by omega) hT.2.2.2.1), (Fw2.at (by omega) hT.2.2.2.2.1), hT.2.2.2.2.2.1, hT.2.2.2.2.2.2.1, by rw [List.length_set]; exact hT.2.2.2.2.2.2.2.1, hT.2.2.2.2.2.2.2.2.1, hT.2.2.2.2.2.2.2.2.2.1, hT.2.2.2.2.2.2.2.2.2.2.1, getD_set_le hT.2.2.2.2.2.2.2.2.2.2.2.1 (by omega), hT.2.2.2.2.2.2.2.2.2.2.2.2⟩ : Pa sw2 11 (nI rr) (nI dn) (nI ru) n K (N2.set one k) W D)
      have hP9 : Pa sw2 11 (nI rr) (nI dn) (nI ru) n K (N.set one k) W D := by rw [← h2]; exact hP8
      have hW9 : SeW sw2 A m one (decide (rr = 1)) K (N2.set one k) D n t0 := (hW.fr Fw2 (by omega)).w hT.2.2.2.2.2.1 (fun i hi => rfl) (fun i hi => set_ne hi) (fun i k hi hk => rfl)
      rw [h2] at hW9
      refine x_callV m_X7_wouldFit l_X7_264 (c_wouldFit (Fw2.at (by omega) k0) hP9 hW9 hm h1 hA1 hA hsA) rfl (Fw2.at (by omega) k0) (by omega) rfl rfl (Nat.le_of_ble_eq_true rfl) ⟨Nat.le_refl _, Nat.le_refl _⟩ dX7_fittingNumbers_23 (fun r3 s3 q3 => ?_)
      obtain ⟨rfl, T3, F3⟩ := q3
      refine x_stk (st' := [.int (bI (decide (unlT rr n K (N.set one k) D m t0 (-1) = none))), .int (nI ((fitB (fun v => decide (unlT rr n K (N.set one v) D m t0 (-1) = none)) k)))]) rfl ?_
      refine x_ifP_eq (P := unlT rr n K (N.set one k) D m t0 (-1) = none) inferInstance (tgt := 35) dX7_fittingNumbers_26 (by decide) (fun hv4 => ?_) (fun hv4 => ?_)
      · refine x_iconst (v := nI 0) dX7_fittingNumbers_35 (by decide) ?_
        refine x_iorN dX7_fittingNumbers_36 ?_
        refine x_istore_n dX7_fittingNumbers_37 (by decide) rfl ?_
        refine x_lv (lv' := [some (.ref 0), some (.int (nI one)), some (.int (nI (((fitB (fun v => decide (unlT rr n K (N.set one v) D m t0 (-1) = none)) k)) ||| 0))), some (.int (nI k))]) rfl ?_
        refine x_iincN dX7_fittingNumbers_38 rfl (by decide) rfl ?_
        refine x_lv (lv' := [some (.ref 0), some (.int (nI one)), some (.int (nI (((fitB (fun v => decide (unlT rr n K (N.set one v) D m t0 (-1) = none)) k)) ||| 0))), some (.int (nI (k + 1)))]) rfl ?_
        refine x_goto (tgt := 4) dX7_fittingNumbers_41 (by decide) ?_
        have e9 : fitB (fun v => decide (unlT rr n K (N.set one v) D m t0 (-1) = none)) (k + 1) = fitB (fun v => decide (unlT rr n K (N.set one v) D m t0 (-1) = none)) k ||| 0 := by rw [fitB, if_neg (fun z => hv4 (of_decide_eq_true z))]
        rw [← e9]
        exact ih (k + 1) (N.set one k) s3 (F3.at (by omega) (Fw2.at (by omega) k0)) (hP9.fr F3 (by omega)) (fun v => List.set_set ..) T3 (hF.tr ((Fr.rf.tr (Fw2.mono (fun i hi => by omega))).tr (F3.mono (fun i hi => by omega)))) (by omega)
      · refine x_iconst (v := nI 1) dX7_fittingNumbers_29 (by decide) ?_
        refine x_iload_n dX7_fittingNumbers_30 rfl ?_
        refine x_ishl dX7_fittingNumbers_31 ?_
        refine x_topi (y := nI (2 ^ k)) (z_shl1 (by omega)) ?_
        refine x_goto (tgt := 36) dX7_fittingNumbers_32 (by decide) ?_
        refine x_iorN dX7_fittingNumbers_36 ?_
        refine x_istore_n dX7_fittingNumbers_37 (by decide) rfl ?_
        refine x_lv (lv' := [some (.ref 0), some (.int (nI one)), some (.int (nI (((fitB (fun v => decide (unlT rr n K (N.set one v) D m t0 (-1) = none)) k)) ||| (2 ^ k)))), some (.int (nI k))]) rfl ?_
        refine x_iincN dX7_fittingNumbers_38 rfl (by decide) rfl ?_
        refine x_lv (lv' := [some (.ref 0), some (.int (nI one)), some (.int (nI (((fitB (fun v => decide (unlT rr n K (N.set one v) D m t0 (-1) = none)) k)) ||| (2 ^ k)))), some (.int (nI (k + 1)))]) rfl ?_
        refine x_goto (tgt := 4) dX7_fittingNumbers_41 (by decide) ?_
        have e9 : fitB (fun v => decide (unlT rr n K (N.set one v) D m t0 (-1) = none)) (k + 1) = fitB (fun v => decide (unlT rr n K (N.set one v) D m t0 (-1) = none)) k ||| 2 ^ k := by rw [fitB, if_pos (decide_eq_true hv4)]
        rw [← e9]
        exact ih (k + 1) (N.set one k) s3 (F3.at (by omega) (Fw2.at (by omega) k0)) (hP9.fr F3 (by omega)) (fun v => List.set_set ..) T3 (hF.tr ((Fr.rf.tr (Fw2.mono (fun i hi => by omega))).tr (F3.mono (fun i hi => by omega)))) (by omega)
set_option maxHeartbeats 4000000 in
theorem c_fitNumbers {σ : ZS} {tx ik : Int32} {rr dn ru n : Nat} {K N : List Nat} {W : List Int32} {D : List Nat} {A m one : Nat} {t0 : List Nat} (hm : m ≤ 7) (h1 : one < 7) (hA1 : A.testBit one = true) (hA : A < 128) (hsA : setS t0 m = A) (k0 : zg σ 0 = some (.inr (.inr (6, [.ref 1, .ref 6, .ref 11, .ref 16, .ref 22, .ref 28, .ref 31, .int tx, .int ik])))) (hT : Pa σ 11 (nI rr) (nI dn) (nI ru) n K N W D) (hW : SeT σ A m (decide (rr = 1)) (wlS K N D n A (-1)) t0) : Cn 5 M_X7_fittingNumbers 0 0 [.ref 0, .int (nI one)] σ (fun r9 σ' => r9 = some (.int (nI (fitB (fun v => decide (unlT rr n K (N.set one v) D m t0 (-1) = none)) 10))) ∧ SeJ σ' ∧ PaJ σ' 11 ∧ Fr (fun i => (11 ≤ i ∧ i ≤ 15) ∨ i = 24) σ σ') := by
  refine Cn.intro (lv0 := [some (.ref 0), some (.int (nI one)), none, none]) rfl (Nat.le_of_ble_eq_true rfl) rfl (fun d hd => ?_)
  refine x_iconst (v := nI 0) dX7_fittingNumbers_0 (by decide) ?_
  refine x_istore_n dX7_fittingNumbers_1 (by decide) rfl ?_
  refine x_lv (lv' := [some (.ref 0), some (.int (nI one)), some (.int (nI 0)), none]) rfl ?_
  refine x_iconst (v := nI 0) dX7_fittingNumbers_2 (by decide) ?_
  refine x_istore_n dX7_fittingNumbers_3 (by decide) rfl ?_
  refine x_lv (lv' := [some (.ref 0), some (.int (nI one)), some (.int (nI 0)), some (.int (nI 0))]) rfl ?_
  exact l_fitNumbers (σ0 := σ) hm h1 hA1 hA hsA (by omega) 10 0 N σ k0 hT (fun _ => rfl) hW Fr.rf (by omega)
