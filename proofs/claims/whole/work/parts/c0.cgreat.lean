/-! the class: the greatest debt that fits -/
set_option maxHeartbeats 4000000 in
theorem l_greatest {σ0 : ZS} {tx ik : Int32} {rr dn ru n : Nat} {K N : List Nat} {W : List Int32} {D : List Nat} {A m one other : Nat} {t0 : List Nat} (hm : m ≤ 7) (h1 : one < 7) (ho : other < 7) (hA1 : A.testBit one = true) (hA : A < 128) (hsA : setS t0 m = A) {d : Nat} (hd : 4 ≤ d) : ∀ (k : Nat) (D2 : List Nat) (σ : ZS) (k0 : zg σ 0 = some (.inr (.inr (6, [.ref 1, .ref 6, .ref 11, .ref 16, .ref 22, .ref 28, .ref 31, .int tx, .int ik])))) (hT : Pa σ 11 (nI rr) (nI dn) (nI ru) n K N W D2) (h2 : ∀ v, D2.set (one * 7 + other) v = D.set (one * 7 + other) v) (hW : SeT σ A m (decide (rr = 1)) (wlS K N D2 n A (-1)) t0) (hF : Fr (fun i => (11 ≤ i ∧ i ≤ 15) ∨ i = 24) σ0 σ), k ≤ 1000 → X M_X7_greatestDebt d 0 0 (fun r9 σ' => r9 = some (.int (oI (fitM (fun v => decide (unlT rr n K N (D.set (one * 7 + other) v) m t0 (-1) = none)) k))) ∧ SeJ σ' ∧ PaJ σ' 11 ∧ Fr (fun i => (11 ≤ i ∧ i ≤ 15) ∨ i = 24) σ0 σ') 0 0 4 [some (.ref 0), some (.int (nI one)), some (.int (nI other)), some (.int (nI k - nI 1))] [] σ := by
  intro k
  induction k with
  | zero =>
    intro D2 σ k0 hT h2 hW hF hk
    refine x_lv (lv' := [some (.ref 0), some (.int (nI one)), some (.int (nI other)), some (.int ((-1)))]) rfl ?_
    refine x_iload_n dX7_greatestDebt_4 rfl ?_
    refine x_ifT_lt (p := (-1)) (tgt := 34) (by decide) dX7_greatestDebt_5 (by decide) (fun hv1 => ?_) (fun hv1 => ?_)
    · refine x_iconst (v := (-1)) dX7_greatestDebt_34 (by decide) ?_
      exact x_iret ⟨Nat.le_refl _, Nat.le_refl _⟩ rfl dX7_greatestDebt_35 ⟨rfl, hW.j, ⟨_, _, _, _, _, _, _, _, hT⟩, hF⟩
    · exact absurd hv1 (by decide)
  | succ k ih =>
    intro D2 σ k0 hT h2 hW hF hk
    refine x_lv (lv' := [some (.ref 0), some (.int (nI one)), some (.int (nI other)), some (.int (nI k))]) (by rw [nI_suc]) ?_
    refine x_iload_n dX7_greatestDebt_4 rfl ?_
    refine x_ifN_lt (tgt := 34) dX7_greatestDebt_5 (by omega) ?_ (by decide)
    refine x_aload_n dX7_greatestDebt_8 rfl ?_
    refine x_get (v := .ref 11) f_X7_19 k0 rfl dX7_greatestDebt_9 ?_
    refine x_iload_n dX7_greatestDebt_12 rfl ?_
    refine x_iload_n dX7_greatestDebt_13 rfl ?_
    refine x_iload_n dX7_greatestDebt_14 rfl ?_
    refine x_callV m_X2_setDebt l_X7_111 (c_setDebt hT (a := one) (b := other) (v := k) h1 ho) rfl hT.1 (by omega) rfl rfl (Nat.le_of_ble_eq_true rfl) ⟨Nat.le_refl _, Nat.le_refl _⟩ dX7_greatestDebt_15 (fun r2 s2 q2 => ?_)
    obtain ⟨rfl, e2⟩ := q2
    have P2 : Pa s2 11 (nI rr) (nI dn) (nI ru) n K N W (D.set (one * 7 + other) k) := by rw [← h2, e2]; exact hT.setD (D' := D2.set (one * 7 + other) k) (by rw [List.length_set]; exact hT.2.2.2.2.2.2.2.2.2.1) (getD_set_le hT.2.2.2.2.2.2.2.2.2.2.2.2 (by omega))
    have F2 : Fr (fun i => i = 15) σ s2 := by rw [e2]; exact Fr.rf.zs rfl
    have W2 : SeW s2 A m one (decide (rr = 1)) K N (D.set (one * 7 + other) k) n t0 := by rw [← h2]; exact (hW.fr F2 (by omega)).w hT.2.2.2.2.2.1 (fun i hi => rfl) (fun i hi => rfl) (fun i k hi hk => setd_ne hi hk ho)
    refine x_stk (st' := []) rfl ?_
    refine x_aload_n dX7_greatestDebt_18 rfl ?_
    refine x_iload_n dX7_greatestDebt_19 rfl ?_
    refine x_callV m_X7_wouldFit l_X7_264 (c_wouldFit (F2.at (by omega) k0) P2 W2 hm h1 hA1 hA hsA) rfl (F2.at (by omega) k0) (by omega) rfl rfl (Nat.le_of_ble_eq_true rfl) ⟨Nat.le_refl _, Nat.le_refl _⟩ dX7_greatestDebt_20 (fun r3 s3 q3 => ?_)
    obtain ⟨rfl, T3, F3⟩ := q3
    refine x_stk (st' := [.int (bI (decide (unlT rr n K N (D.set (one * 7 + other) k) m t0 (-1) = none)))]) rfl ?_
    refine x_ifP_eq (P := unlT rr n K N (D.set (one * 7 + other) k) m t0 (-1) = none) inferInstance (tgt := 28) dX7_greatestDebt_23 (by decide) (fun hv4 => ?_) (fun hv4 => ?_)
    · have e9 : fitM (fun v => decide (unlT rr n K N (D.set (one * 7 + other) v) m t0 (-1) = none)) (k + 1) = fitM (fun v => decide (unlT rr n K N (D.set (one * 7 + other) v) m t0 (-1) = none)) k := by rw [fitM, if_neg (fun z => hv4 (of_decide_eq_true z))]
      rw [e9]
      refine x_iinc (v := nI k - nI 1) dX7_greatestDebt_28 rfl (by rw [← nI_dec]) (by decide) rfl ?_
      refine x_lv (lv' := [some (.ref 0), some (.int (nI one)), some (.int (nI other)), some (.int (nI k - nI 1))]) rfl ?_
      refine x_goto (tgt := 4) dX7_greatestDebt_31 (by decide) ?_
      exact ih (D.set (one * 7 + other) k) s3 (F3.at (by omega) (F2.at (by omega) k0)) (P2.fr F3 (by omega)) (fun v => List.set_set ..) T3 (hF.tr ((Fr.rf.tr (F2.mono (fun i hi => by omega))).tr (F3.mono (fun i hi => by omega)))) (by omega)
    · refine x_iload_n dX7_greatestDebt_26 rfl ?_
      exact x_iret ⟨Nat.le_refl _, Nat.le_refl _⟩ rfl dX7_greatestDebt_27 ⟨by rw [fitM, if_pos (decide_eq_true hv4)]; rfl, T3.j, ⟨_, _, _, _, _, _, _, _, (P2.fr F3 (by omega))⟩, hF.tr ((Fr.rf.tr (F2.mono (fun i hi => by omega))).tr (F3.mono (fun i hi => by omega)))⟩
set_option maxHeartbeats 4000000 in
theorem c_greatest {σ : ZS} {tx ik : Int32} {rr dn ru n : Nat} {K N : List Nat} {W : List Int32} {D : List Nat} {A m one other : Nat} {t0 : List Nat} (hm : m ≤ 7) (h1 : one < 7) (ho : other < 7) (hA1 : A.testBit one = true) (hA : A < 128) (hsA : setS t0 m = A) (k0 : zg σ 0 = some (.inr (.inr (6, [.ref 1, .ref 6, .ref 11, .ref 16, .ref 22, .ref 28, .ref 31, .int tx, .int ik])))) (hT : Pa σ 11 (nI rr) (nI dn) (nI ru) n K N W D) (hW : SeT σ A m (decide (rr = 1)) (wlS K N D n A (-1)) t0) : Cn 5 M_X7_greatestDebt 0 0 [.ref 0, .int (nI one), .int (nI other)] σ (fun r9 σ' => r9 = some (.int (oI (fitM (fun v => decide (unlT rr n K N (D.set (one * 7 + other) v) m t0 (-1) = none)) 1000))) ∧ SeJ σ' ∧ PaJ σ' 11 ∧ Fr (fun i => (11 ≤ i ∧ i ≤ 15) ∨ i = 24) σ σ') := by
  refine Cn.intro (lv0 := [some (.ref 0), some (.int (nI one)), some (.int (nI other)), none]) rfl (Nat.le_of_ble_eq_true rfl) rfl (fun d hd => ?_)
  refine x_sipush (v := nI 999) dX7_greatestDebt_0 (by decide) ?_
  refine x_istore_n dX7_greatestDebt_3 (by decide) rfl ?_
  refine x_lv (lv' := [some (.ref 0), some (.int (nI one)), some (.int (nI other)), some (.int (nI 999))]) rfl ?_
  refine x_lv (lv' := [some (.ref 0), some (.int (nI one)), some (.int (nI other)), some (.int (nI 1000 - nI 1))]) (by rw [show nI 1000 - nI 1 = nI 999 from by decide]) ?_
  exact l_greatest (σ0 := σ) hm h1 ho hA1 hA hsA (by omega) 1000 D σ k0 hT (fun _ => rfl) hW Fr.rf (by omega)
