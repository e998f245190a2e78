/-! the class: chance -/
set_option maxHeartbeats 4000000 in
theorem l_gcd {σ : ZS} {a b : Nat} (ha : a ≤ 20) (hb1 : 1 ≤ b) (hb : b ≤ 20) {d : Nat} (hd : 0 ≤ d) : ∀ k, Nat.gcd a b ≤ k → k ≤ 20 → X M_X7_commonDivisor d 0 0 (fun r9 σ' => r9 = some (.int (nI (Nat.gcd a b))) ∧ σ' = σ) 0 0 2 [some (.int (nI a)), some (.int (nI b)), some (.int (nI k))] [] σ := by
  have hgp := Nat.gcd_pos_of_pos_right a (show 0 < b by omega)
  intro k
  induction k with
  | zero => exact fun h => absurd h (by omega)
  | succ k ih =>
    intro hg hk
    refine x_iload_n dX7_commonDivisor_2 rfl ?_
    refine x_iconst (v := nI 1) dX7_commonDivisor_3 (by decide) ?_
    refine x_icmpN_le (tgt := 27) dX7_commonDivisor_4 (by decide) (by omega) (by omega) (fun hv1 => ?_) (fun hv1 => ?_)
    · refine x_iconst (v := nI 1) dX7_commonDivisor_27 (by decide) ?_
      exact x_iret ⟨Nat.le_refl _, Nat.le_refl _⟩ rfl dX7_commonDivisor_28 ⟨by rw [show Nat.gcd a b = 1 by omega], rfl⟩
    · have hm1 := Nat.mod_lt a (show 0 < k + 1 by omega)
      have hm2 := Nat.mod_lt b (show 0 < k + 1 by omega)
      refine x_iload_n dX7_commonDivisor_7 rfl ?_
      refine x_iload_n dX7_commonDivisor_8 rfl ?_
      refine x_iremN (by omega) (by omega) (by omega) dX7_commonDivisor_9 ?_
      refine x_ifN_ne (tgt := 21) dX7_commonDivisor_10 (by decide) (by omega) (fun hv2 => ?_) (fun hv2 => ?_)
      · have hne : ¬ Nat.gcd a b = k + 1 := fun z => by have q9 := hv2; exact absurd (Nat.mod_eq_zero_of_dvd (z ▸ Nat.gcd_dvd_left a b)) (by omega)
        refine x_iincD dX7_commonDivisor_21 rfl (by decide) rfl ?_
        refine x_lv (lv' := [some (.int (nI a)), some (.int (nI b)), some (.int (nI k))]) rfl ?_
        refine x_goto (tgt := 2) dX7_commonDivisor_24 (by decide) ?_
        exact ih (by omega) (by omega)
      · refine x_iload_n dX7_commonDivisor_13 rfl ?_
        refine x_iload_n dX7_commonDivisor_14 rfl ?_
        refine x_iremN (by omega) (by omega) (by omega) dX7_commonDivisor_15 ?_
        refine x_ifN_ne (tgt := 21) dX7_commonDivisor_16 (by decide) (by omega) (fun hv3 => ?_) (fun hv3 => ?_)
        · have hne : ¬ Nat.gcd a b = k + 1 := fun z => by have q9 := hv3; exact absurd (Nat.mod_eq_zero_of_dvd (z ▸ Nat.gcd_dvd_right a b)) (by omega)
          refine x_iincD dX7_commonDivisor_21 rfl (by decide) rfl ?_
          refine x_lv (lv' := [some (.int (nI a)), some (.int (nI b)), some (.int (nI k))]) rfl ?_
          refine x_goto (tgt := 2) dX7_commonDivisor_24 (by decide) ?_
          exact ih (by omega) (by omega)
        · refine x_iload_n dX7_commonDivisor_19 rfl ?_
          exact x_iret ⟨Nat.le_refl _, Nat.le_refl _⟩ rfl dX7_commonDivisor_20 ⟨by rw [show Nat.gcd a b = k + 1 from Nat.le_antisymm hg (Nat.le_of_dvd hgp (Nat.dvd_gcd (Nat.dvd_of_mod_eq_zero (by omega)) (Nat.dvd_of_mod_eq_zero (by omega))))], rfl⟩
set_option maxHeartbeats 4000000 in
theorem c_gcd {σ : ZS} {a b : Nat} (ha : a ≤ 20) (hb1 : 1 ≤ b) (hb : b ≤ 20) : Cn 0 M_X7_commonDivisor 0 0 [.int (nI a), .int (nI b)] σ (fun r9 σ' => r9 = some (.int (nI (Nat.gcd a b))) ∧ σ' = σ) := by
  refine Cn.intro (lv0 := [some (.int (nI a)), some (.int (nI b)), none]) rfl (Nat.le_of_ble_eq_true rfl) rfl (fun d hd => ?_)
  refine x_iload_n dX7_commonDivisor_0 rfl ?_
  refine x_istore_n dX7_commonDivisor_1 (by decide) rfl ?_
  refine x_lv (lv' := [some (.int (nI a)), some (.int (nI b)), some (.int (nI b))]) rfl ?_
  exact l_gcd ha hb1 hb (Nat.zero_le _) b (Nat.gcd_le_right a (by omega)) hb
set_option maxHeartbeats 4000000 in
theorem l_chance0 {σ0 : ZS} {tx ik : Int32} {rr dn ru n : Nat} {K N : List Nat} {W : List Int32} {D : List Nat} (hr1 : rr ≤ 1) (hn7 : n ≤ 7) (hD : D.length = 49) (hDb : ∀ k, D.getD k 0 ≤ 999) {sd : Int32} {cnt : Nat} (hc1 : 1 ≤ cnt) (hc20 : cnt ≤ 20) {d : Nat} (hd : 13 ≤ d) : ∀ (q k : Nat) (D2 : List Nat) (σ : ZS) (k0 : zg σ 0 = some (.inr (.inr (6, [.ref 1, .ref 6, .ref 11, .ref 16, .ref 22, .ref 28, .ref 31, .int tx, .int ik])))) (hT : Pa σ 11 (nI rr) (nI dn) (nI ru) n K N W D2) (hDD : ∀ s, (drOut n n (s, D2)).2 = (drOut n n (s, D)).2) (hJ : SeJ σ) (hF : Fr (fun i => (11 ≤ i ∧ i ≤ 15) ∨ (22 ≤ i ∧ i ≤ 27)) σ0 σ), k + q = cnt → X M_X7_chance d 0 0 (fun r9 σ' => r9 = some (.long (chaV (havS rr n K N D sd cnt) cnt 0)) ∧ SeJ σ' ∧ PaJ σ' 11 ∧ Fr (fun i => (11 ≤ i ∧ i ≤ 15) ∨ (22 ≤ i ∧ i ≤ 27)) σ0 σ') 0 0 40 [some (.ref 0), some (.int sd), some (.int (nI cnt)), some (.int (nI 0)), some (.int (nI ((havS rr n K N D sd k)))), some (.int (nI k))] [] σ := by
  intro q
  induction q with
  | zero =>
    intro k D2 σ k0 hT hDD hJ hF hk
    refine x_iload dX7_chance_40 rfl ?_
    refine x_iload_n dX7_chance_42 rfl ?_
    refine x_icmpN_ge (tgt := 92) dX7_chance_43 (by decide) (by omega) (by omega) (fun hv1 => ?_) (fun hv1 => ?_)
    · obtain rfl : k = cnt := by omega
      have hle := havS_le (rr := rr) (n := n) (K := K) (N := N) (D := D) (sd := sd) (k := k)
      have hgp := Nat.gcd_pos_of_pos_right (havS rr n K N D sd k) (show 0 < k by omega)
      have hgl := Nat.gcd_le_right (havS rr n K N D sd k) (show 0 < k by omega)
      refine x_iload_n dX7_chance_92 rfl ?_
      refine x_ifN_ne (tgt := 101) dX7_chance_93 (by decide) (by omega) (fun hv801 => ?_) (fun hv801 => ?_)
      · exact absurd hv801 (by decide)
      · refine x_iload dX7_chance_96 rfl ?_
        refine x_goto (tgt := 102) dX7_chance_98 (by decide) ?_
        refine x_iload dX7_chance_102 rfl ?_
        refine x_iload_n dX7_chance_104 rfl ?_
        refine x_callS m_X7_commonDivisor l_X7_288 (c_gcd (by omega) hc1 hc20) (by omega) rfl rfl (Nat.le_of_ble_eq_true rfl) ⟨Nat.le_refl _, Nat.le_refl _⟩ dX7_chance_105 (fun r802 s802 q802 => ?_)
        obtain ⟨rfl, eq802⟩ := q802
        obtain rfl := eq802.symm
        refine x_stk (st' := [.int (nI ((Nat.gcd (havS rr n K N D sd k) k))), .int (nI ((havS rr n K N D sd k)))]) rfl ?_
        refine x_idivN (by omega) (by omega) (by omega) dX7_chance_108 ?_
        refine x_i2l dX7_chance_109 ?_
        exact x_lret ⟨Nat.le_refl _, Nat.le_refl _⟩ rfl dX7_chance_110 ⟨by rw [chaV, if_pos rfl], hJ, ⟨_, _, _, _, _, _, _, _, hT⟩, hF⟩
    · exact absurd hv1 (by omega)
  | succ q ih =>
    intro k D2 σ k0 hT hDD hJ hF hk
    refine x_iload dX7_chance_40 rfl ?_
    refine x_iload_n dX7_chance_42 rfl ?_
    refine x_icmpN_ge (tgt := 92) dX7_chance_43 (by decide) (by omega) (by omega) (fun hv1 => ?_) (fun hv1 => ?_)
    · exact absurd hv1 (by omega)
    · refine x_aload_n dX7_chance_46 rfl ?_
      refine x_get (v := .ref 11) f_X7_19 k0 rfl dX7_chance_47 ?_
      refine x_iload_n dX7_chance_50 rfl ?_
      refine x_iload dX7_chance_51 rfl ?_
      refine x_iadd dX7_chance_53 ?_
      refine x_callV m_X2_drawDebts l_X7_282 (c_drawDebts hT (sd + nI k)) rfl hT.1 (by omega) rfl rfl (Nat.le_of_ble_eq_true rfl) ⟨Nat.le_refl _, Nat.le_refl _⟩ dX7_chance_54 (fun r2 s2 q2 => ?_)
      rw [hDD] at q2
      obtain ⟨rfl, P2, F2⟩ := q2
      refine x_stk (st' := []) rfl ?_
      refine x_iload dX7_chance_57 rfl ?_
      refine x_aload_n dX7_chance_59 rfl ?_
      refine x_aload_n dX7_chance_60 rfl ?_
      refine x_get (v := .ref 11) f_X7_19 (F2.at (by omega) k0) rfl dX7_chance_61 ?_
      refine x_aload_n dX7_chance_64 rfl ?_
      refine x_get (v := .ref 11) f_X7_19 (F2.at (by omega) k0) rfl dX7_chance_65 ?_
      refine x_callV m_X2_everybody l_X7_121 (c_everybody P2) rfl P2.1 (by omega) rfl rfl (Nat.le_of_ble_eq_true rfl) ⟨Nat.le_refl _, Nat.le_refl _⟩ dX7_chance_68 (fun r3 s3 q3 => ?_)
      obtain ⟨rfl, eq3⟩ := q3
      obtain rfl := eq3.symm
      refine x_stk (st' := [.int (nI ((2 ^ n - 1))), .ref 11, .ref 0, .int (nI ((havS rr n K N D sd k)))]) rfl ?_
      refine x_iconst (v := (-1)) dX7_chance_71 (by decide) ?_
      refine x_callV m_X7_isAnyTable l_X7_227 (c_anyTable (F2.at (by omega) k0) (Or.inr rfl) P2 hr1 (hJ.fr F2 (by omega)) (A := (2 ^ n - 1)) (e := (-1)) (all_bit n hn7).2 (fun q hq => all_in hq)) rfl (F2.at (by omega) k0) (by omega) rfl rfl (Nat.le_of_ble_eq_true rfl) ⟨Nat.le_refl _, Nat.le_refl _⟩ dX7_chance_72 (fun r4 s4 q4 => ?_)
      obtain ⟨rfl, J4, F4⟩ := q4
      refine x_stk (st' := [.int (bI (decide (0 < (lwf (decide (rr = 1)) (2 ^ n - 1) (wlS K N (drOut n n (sd + nI k, D)).2 n (2 ^ n - 1) (-1))).length))), .int (nI ((havS rr n K N D sd k)))]) rfl ?_
      refine x_ifP_eq (P := 0 < (lwf (decide (rr = 1)) (2 ^ n - 1) (wlS K N (drOut n n (sd + nI k, D)).2 n (2 ^ n - 1) (-1))).length) inferInstance (tgt := 82) dX7_chance_75 (by decide) (fun hv5 => ?_) (fun hv5 => ?_)
      · refine x_iconst (v := nI 0) dX7_chance_82 (by decide) ?_
        refine x_iaddN dX7_chance_83 ?_
        refine x_istore dX7_chance_84 (by decide) rfl ?_
        refine x_lv (lv' := [some (.ref 0), some (.int sd), some (.int (nI cnt)), some (.int (nI 0)), some (.int (nI (((havS rr n K N D sd k)) + 0))), some (.int (nI k))]) rfl ?_
        refine x_iincN dX7_chance_86 rfl (by decide) rfl ?_
        refine x_lv (lv' := [some (.ref 0), some (.int sd), some (.int (nI cnt)), some (.int (nI 0)), some (.int (nI (((havS rr n K N D sd k)) + 0))), some (.int (nI (k + 1)))]) rfl ?_
        refine x_goto (tgt := 40) dX7_chance_89 (by decide) ?_
        have e9 : havS rr n K N D sd (k + 1) = (havS rr n K N D sd k) + 0 := by rw [havS, if_neg hv5]
        rw [← e9]
        exact ih (k + 1) (drOut n n (sd + nI k, D)).2 s4 (F4.at (by omega) (F2.at (by omega) k0)) (P2.fr F4 (by omega)) (fun s => drOut_again hn7 hD hDb) J4 (hF.tr ((Fr.rf.tr (F2.mono (fun i hi => by omega))).tr (F4.mono (fun i hi => by omega)))) (by omega)
      · refine x_iconst (v := nI 1) dX7_chance_78 (by decide) ?_
        refine x_goto (tgt := 83) dX7_chance_79 (by decide) ?_
        refine x_iaddN dX7_chance_83 ?_
        refine x_istore dX7_chance_84 (by decide) rfl ?_
        refine x_lv (lv' := [some (.ref 0), some (.int sd), some (.int (nI cnt)), some (.int (nI 0)), some (.int (nI (((havS rr n K N D sd k)) + 1))), some (.int (nI k))]) rfl ?_
        refine x_iincN dX7_chance_86 rfl (by decide) rfl ?_
        refine x_lv (lv' := [some (.ref 0), some (.int sd), some (.int (nI cnt)), some (.int (nI 0)), some (.int (nI (((havS rr n K N D sd k)) + 1))), some (.int (nI (k + 1)))]) rfl ?_
        refine x_goto (tgt := 40) dX7_chance_89 (by decide) ?_
        have e9 : havS rr n K N D sd (k + 1) = (havS rr n K N D sd k) + 1 := by rw [havS, if_pos hv5]
        rw [← e9]
        exact ih (k + 1) (drOut n n (sd + nI k, D)).2 s4 (F4.at (by omega) (F2.at (by omega) k0)) (P2.fr F4 (by omega)) (fun s => drOut_again hn7 hD hDb) J4 (hF.tr ((Fr.rf.tr (F2.mono (fun i hi => by omega))).tr (F4.mono (fun i hi => by omega)))) (by omega)
set_option maxHeartbeats 4000000 in
theorem l_chance1 {σ0 : ZS} {tx ik : Int32} {rr dn ru n : Nat} {K N : List Nat} {W : List Int32} {D : List Nat} (hr1 : rr ≤ 1) (hn7 : n ≤ 7) (hD : D.length = 49) (hDb : ∀ k, D.getD k 0 ≤ 999) {sd : Int32} {cnt : Nat} (hc1 : 1 ≤ cnt) (hc20 : cnt ≤ 20) {d : Nat} (hd : 13 ≤ d) : ∀ (q k : Nat) (D2 : List Nat) (σ : ZS) (k0 : zg σ 0 = some (.inr (.inr (6, [.ref 1, .ref 6, .ref 11, .ref 16, .ref 22, .ref 28, .ref 31, .int tx, .int ik])))) (hT : Pa σ 11 (nI rr) (nI dn) (nI ru) n K N W D2) (hDD : ∀ s, (drOut n n (s, D2)).2 = (drOut n n (s, D)).2) (hJ : SeJ σ) (hF : Fr (fun i => (11 ≤ i ∧ i ≤ 15) ∨ (22 ≤ i ∧ i ≤ 27)) σ0 σ), k + q = cnt → X M_X7_chance d 0 0 (fun r9 σ' => r9 = some (.long (chaV (havS rr n K N D sd cnt) cnt 1)) ∧ SeJ σ' ∧ PaJ σ' 11 ∧ Fr (fun i => (11 ≤ i ∧ i ≤ 15) ∨ (22 ≤ i ∧ i ≤ 27)) σ0 σ') 0 0 40 [some (.ref 0), some (.int sd), some (.int (nI cnt)), some (.int (nI 1)), some (.int (nI ((havS rr n K N D sd k)))), some (.int (nI k))] [] σ := by
  intro q
  induction q with
  | zero =>
    intro k D2 σ k0 hT hDD hJ hF hk
    refine x_iload dX7_chance_40 rfl ?_
    refine x_iload_n dX7_chance_42 rfl ?_
    refine x_icmpN_ge (tgt := 92) dX7_chance_43 (by decide) (by omega) (by omega) (fun hv1 => ?_) (fun hv1 => ?_)
    · obtain rfl : k = cnt := by omega
      have hle := havS_le (rr := rr) (n := n) (K := K) (N := N) (D := D) (sd := sd) (k := k)
      have hgp := Nat.gcd_pos_of_pos_right (havS rr n K N D sd k) (show 0 < k by omega)
      have hgl := Nat.gcd_le_right (havS rr n K N D sd k) (show 0 < k by omega)
      refine x_iload_n dX7_chance_92 rfl ?_
      refine x_ifN_ne (tgt := 101) dX7_chance_93 (by decide) (by omega) (fun hv801 => ?_) (fun hv801 => ?_)
      · refine x_iload_n dX7_chance_101 rfl ?_
        refine x_iload dX7_chance_102 rfl ?_
        refine x_iload_n dX7_chance_104 rfl ?_
        refine x_callS m_X7_commonDivisor l_X7_288 (c_gcd (by omega) hc1 hc20) (by omega) rfl rfl (Nat.le_of_ble_eq_true rfl) ⟨Nat.le_refl _, Nat.le_refl _⟩ dX7_chance_105 (fun r802 s802 q802 => ?_)
        obtain ⟨rfl, eq802⟩ := q802
        obtain rfl := eq802.symm
        refine x_stk (st' := [.int (nI ((Nat.gcd (havS rr n K N D sd k) k))), .int (nI k)]) rfl ?_
        refine x_idivN (by omega) (by omega) (by omega) dX7_chance_108 ?_
        refine x_i2l dX7_chance_109 ?_
        exact x_lret ⟨Nat.le_refl _, Nat.le_refl _⟩ rfl dX7_chance_110 ⟨by rw [chaV, if_neg (by decide)], hJ, ⟨_, _, _, _, _, _, _, _, hT⟩, hF⟩
      · exact absurd hv801 (by decide)
    · exact absurd hv1 (by omega)
  | succ q ih =>
    intro k D2 σ k0 hT hDD hJ hF hk
    refine x_iload dX7_chance_40 rfl ?_
    refine x_iload_n dX7_chance_42 rfl ?_
    refine x_icmpN_ge (tgt := 92) dX7_chance_43 (by decide) (by omega) (by omega) (fun hv1 => ?_) (fun hv1 => ?_)
    · exact absurd hv1 (by omega)
    · refine x_aload_n dX7_chance_46 rfl ?_
      refine x_get (v := .ref 11) f_X7_19 k0 rfl dX7_chance_47 ?_
      refine x_iload_n dX7_chance_50 rfl ?_
      refine x_iload dX7_chance_51 rfl ?_
      refine x_iadd dX7_chance_53 ?_
      refine x_callV m_X2_drawDebts l_X7_282 (c_drawDebts hT (sd + nI k)) rfl hT.1 (by omega) rfl rfl (Nat.le_of_ble_eq_true rfl) ⟨Nat.le_refl _, Nat.le_refl _⟩ dX7_chance_54 (fun r2 s2 q2 => ?_)
      rw [hDD] at q2
      obtain ⟨rfl, P2, F2⟩ := q2
      refine x_stk (st' := []) rfl ?_
      refine x_iload dX7_chance_57 rfl ?_
      refine x_aload_n dX7_chance_59 rfl ?_
      refine x_aload_n dX7_chance_60 rfl ?_
      refine x_get (v := .ref 11) f_X7_19 (F2.at (by omega) k0) rfl dX7_chance_61 ?_
      refine x_aload_n dX7_chance_64 rfl ?_
      refine x_get (v := .ref 11) f_X7_19 (F2.at (by omega) k0) rfl dX7_chance_65 ?_
      refine x_callV m_X2_everybody l_X7_121 (c_everybody P2) rfl P2.1 (by omega) rfl rfl (Nat.le_of_ble_eq_true rfl) ⟨Nat.le_refl _, Nat.le_refl _⟩ dX7_chance_68 (fun r3 s3 q3 => ?_)
      obtain ⟨rfl, eq3⟩ := q3
      obtain rfl := eq3.symm
      refine x_stk (st' := [.int (nI ((2 ^ n - 1))), .ref 11, .ref 0, .int (nI ((havS rr n K N D sd k)))]) rfl ?_
      refine x_iconst (v := (-1)) dX7_chance_71 (by decide) ?_
      refine x_callV m_X7_isAnyTable l_X7_227 (c_anyTable (F2.at (by omega) k0) (Or.inr rfl) P2 hr1 (hJ.fr F2 (by omega)) (A := (2 ^ n - 1)) (e := (-1)) (all_bit n hn7).2 (fun q hq => all_in hq)) rfl (F2.at (by omega) k0) (by omega) rfl rfl (Nat.le_of_ble_eq_true rfl) ⟨Nat.le_refl _, Nat.le_refl _⟩ dX7_chance_72 (fun r4 s4 q4 => ?_)
      obtain ⟨rfl, J4, F4⟩ := q4
      refine x_stk (st' := [.int (bI (decide (0 < (lwf (decide (rr = 1)) (2 ^ n - 1) (wlS K N (drOut n n (sd + nI k, D)).2 n (2 ^ n - 1) (-1))).length))), .int (nI ((havS rr n K N D sd k)))]) rfl ?_
      refine x_ifP_eq (P := 0 < (lwf (decide (rr = 1)) (2 ^ n - 1) (wlS K N (drOut n n (sd + nI k, D)).2 n (2 ^ n - 1) (-1))).length) inferInstance (tgt := 82) dX7_chance_75 (by decide) (fun hv5 => ?_) (fun hv5 => ?_)
      · refine x_iconst (v := nI 0) dX7_chance_82 (by decide) ?_
        refine x_iaddN dX7_chance_83 ?_
        refine x_istore dX7_chance_84 (by decide) rfl ?_
        refine x_lv (lv' := [some (.ref 0), some (.int sd), some (.int (nI cnt)), some (.int (nI 1)), some (.int (nI (((havS rr n K N D sd k)) + 0))), some (.int (nI k))]) rfl ?_
        refine x_iincN dX7_chance_86 rfl (by decide) rfl ?_
        refine x_lv (lv' := [some (.ref 0), some (.int sd), some (.int (nI cnt)), some (.int (nI 1)), some (.int (nI (((havS rr n K N D sd k)) + 0))), some (.int (nI (k + 1)))]) rfl ?_
        refine x_goto (tgt := 40) dX7_chance_89 (by decide) ?_
        have e9 : havS rr n K N D sd (k + 1) = (havS rr n K N D sd k) + 0 := by rw [havS, if_neg hv5]
        rw [← e9]
        exact ih (k + 1) (drOut n n (sd + nI k, D)).2 s4 (F4.at (by omega) (F2.at (by omega) k0)) (P2.fr F4 (by omega)) (fun s => drOut_again hn7 hD hDb) J4 (hF.tr ((Fr.rf.tr (F2.mono (fun i hi => by omega))).tr (F4.mono (fun i hi => by omega)))) (by omega)
      · refine x_iconst (v := nI 1) dX7_chance_78 (by decide) ?_
        refine x_goto (tgt := 83) dX7_chance_79 (by decide) ?_
        refine x_iaddN dX7_chance_83 ?_
        refine x_istore dX7_chance_84 (by decide) rfl ?_
        refine x_lv (lv' := [some (.ref 0), some (.int sd), some (.int (nI cnt)), some (.int (nI 1)), some (.int (nI (((havS rr n K N D sd k)) + 1))), some (.int (nI k))]) rfl ?_
        refine x_iincN dX7_chance_86 rfl (by decide) rfl ?_
        refine x_lv (lv' := [some (.ref 0), some (.int sd), some (.int (nI cnt)), some (.int (nI 1)), some (.int (nI (((havS rr n K N D sd k)) + 1))), some (.int (nI (k + 1)))]) rfl ?_
        refine x_goto (tgt := 40) dX7_chance_89 (by decide) ?_
        have e9 : havS rr n K N D sd (k + 1) = (havS rr n K N D sd k) + 1 := by rw [havS, if_pos hv5]
        rw [← e9]
        exact ih (k + 1) (drOut n n (sd + nI k, D)).2 s4 (F4.at (by omega) (F2.at (by omega) k0)) (P2.fr F4 (by omega)) (fun s => drOut_again hn7 hD hDb) J4 (hF.tr ((Fr.rf.tr (F2.mono (fun i hi => by omega))).tr (F4.mono (fun i hi => by omega)))) (by omega)
set_option maxHeartbeats 4000000 in
theorem c_chance0 {σ : ZS} {tx ik : Int32} (k0 : zg σ 0 = some (.inr (.inr (6, [.ref 1, .ref 6, .ref 11, .ref 16, .ref 22, .ref 28, .ref 31, .int tx, .int ik])))) {rr dn ru n : Nat} {K N : List Nat} {W : List Int32} {D : List Nat} (h : Pa σ 1 (nI rr) (nI dn) (nI ru) n K N W D) (hr1 : rr ≤ 1) (hJ : SeJ σ) (h11 : PaJ σ 11) {sd : Int32} {cnt : Nat} (hc1 : 1 ≤ cnt) (hc20 : cnt ≤ 20) : Cn 14 M_X7_chance 0 0 [.ref 0, .int sd, .int (nI cnt), .int (nI 0)] σ (fun r9 σ' => r9 = some (.long (chaV (havS rr n K N D sd cnt) cnt 0)) ∧ SeJ σ' ∧ PaJ σ' 11 ∧ Fr (fun i => (11 ≤ i ∧ i ≤ 15) ∨ (22 ≤ i ∧ i ≤ 27)) σ σ') := by
  obtain ⟨ro9, di9, ru9, n9, K9, N9, W9, D9, hT9⟩ := id h11
  have t0 := hT9.1
  refine Cn.intro (lv0 := [some (.ref 0), some (.int sd), some (.int (nI cnt)), some (.int (nI 0)), none, none]) rfl (Nat.le_of_ble_eq_true rfl) rfl (fun d hd => ?_)
  refine x_iload_n dX7_chance_0 rfl ?_
  refine x_iconst (v := nI 1) dX7_chance_1 (by decide) ?_
  refine x_bipush (v := nI 20) dX7_chance_2 (by decide) ?_
  refine x_callS m_X7_isWithin l_X7_72 (c_within (p := ((cnt : Nat) : Int)) (q := ((1 : Nat) : Int)) (r := ((20 : Nat) : Int)) (nI_toInt (by omega)) (nI_toInt (by omega)) (nI_toInt (by omega))) (by omega) rfl rfl (Nat.le_of_ble_eq_true rfl) ⟨Nat.le_refl _, Nat.le_refl _⟩ dX7_chance_4 (fun r1 s1 q1 => ?_)
  obtain ⟨rfl, eq1⟩ := q1
  obtain rfl := eq1.symm
  refine x_stk (st' := [.int (bI (decide (((1 : Nat) : Int) ≤ ((cnt : Nat) : Int) ∧ ((cnt : Nat) : Int) ≤ ((20 : Nat) : Int))))]) rfl ?_
  refine x_ifP_eq (P := ((1 : Nat) : Int) ≤ ((cnt : Nat) : Int) ∧ ((cnt : Nat) : Int) ≤ ((20 : Nat) : Int)) inferInstance (tgt := 19) dX7_chance_7 (by decide) (fun hv2 => ?_) (fun hv2 => ?_)
  · exact absurd hv2 (by omega)
  · refine x_iload_n dX7_chance_10 rfl ?_
    refine x_iconst (v := nI 0) dX7_chance_11 (by decide) ?_
    refine x_iconst (v := nI 1) dX7_chance_12 (by decide) ?_
    refine x_callS m_X7_isWithin l_X7_72 (c_within (p := ((0 : Nat) : Int)) (q := ((0 : Nat) : Int)) (r := ((1 : Nat) : Int)) (nI_toInt (by omega)) (nI_toInt (by omega)) (nI_toInt (by omega))) (by omega) rfl rfl (Nat.le_of_ble_eq_true rfl) ⟨Nat.le_refl _, Nat.le_refl _⟩ dX7_chance_13 (fun r3 s3 q3 => ?_)
    obtain ⟨rfl, eq3⟩ := q3
    obtain rfl := eq3.symm
    refine x_stk (st' := [.int (bI (decide (((0 : Nat) : Int) ≤ ((0 : Nat) : Int) ∧ ((0 : Nat) : Int) ≤ ((1 : Nat) : Int))))]) rfl ?_
    refine x_ifP_ne (P := ((0 : Nat) : Int) ≤ ((0 : Nat) : Int) ∧ ((0 : Nat) : Int) ≤ ((1 : Nat) : Int)) inferInstance (tgt := 23) dX7_chance_16 (by decide) (fun hv4 => ?_) (fun hv4 => ?_)
    · refine x_aload_n dX7_chance_23 rfl ?_
      refine x_get (v := .ref 11) f_X7_19 k0 rfl dX7_chance_24 ?_
      refine x_aload_n dX7_chance_27 rfl ?_
      refine x_get (v := .ref 1) f_X7_10 k0 rfl dX7_chance_28 ?_
      refine x_callV m_X2_become l_X7_168 (c_become hT9 h (by omega)) rfl t0 (by omega) rfl rfl (Nat.le_of_ble_eq_true rfl) ⟨Nat.le_refl _, Nat.le_refl _⟩ dX7_chance_31 (fun r5 s5 q5 => ?_)
      obtain ⟨rfl, P5, F5⟩ := q5
      refine x_stk (st' := []) rfl ?_
      refine x_iconst (v := nI 0) dX7_chance_34 (by decide) ?_
      refine x_istore dX7_chance_35 (by decide) rfl ?_
      refine x_lv (lv' := [some (.ref 0), some (.int sd), some (.int (nI cnt)), some (.int (nI 0)), some (.int (nI 0)), none]) rfl ?_
      refine x_iconst (v := nI 0) dX7_chance_37 (by decide) ?_
      refine x_istore dX7_chance_38 (by decide) rfl ?_
      refine x_lv (lv' := [some (.ref 0), some (.int sd), some (.int (nI cnt)), some (.int (nI 0)), some (.int (nI 0)), some (.int (nI 0))]) rfl ?_
      exact l_chance0 (σ0 := σ) hr1 h.2.2.2.2.2.1 h.2.2.2.2.2.2.2.2.2.1 h.2.2.2.2.2.2.2.2.2.2.2.2 hc1 hc20 (by omega) cnt 0 D s5 (F5.at (by omega) k0) P5 (fun _ => rfl) (hJ.fr F5 (by omega)) (F5.mono (fun i hi => by omega)) (by omega)
    · exact absurd hv4 (by omega)
set_option maxHeartbeats 4000000 in
theorem c_chance1 {σ : ZS} {tx ik : Int32} (k0 : zg σ 0 = some (.inr (.inr (6, [.ref 1, .ref 6, .ref 11, .ref 16, .ref 22, .ref 28, .ref 31, .int tx, .int ik])))) {rr dn ru n : Nat} {K N : List Nat} {W : List Int32} {D : List Nat} (h : Pa σ 1 (nI rr) (nI dn) (nI ru) n K N W D) (hr1 : rr ≤ 1) (hJ : SeJ σ) (h11 : PaJ σ 11) {sd : Int32} {cnt : Nat} (hc1 : 1 ≤ cnt) (hc20 : cnt ≤ 20) : Cn 14 M_X7_chance 0 0 [.ref 0, .int sd, .int (nI cnt), .int (nI 1)] σ (fun r9 σ' => r9 = some (.long (chaV (havS rr n K N D sd cnt) cnt 1)) ∧ SeJ σ' ∧ PaJ σ' 11 ∧ Fr (fun i => (11 ≤ i ∧ i ≤ 15) ∨ (22 ≤ i ∧ i ≤ 27)) σ σ') := by
  obtain ⟨ro9, di9, ru9, n9, K9, N9, W9, D9, hT9⟩ := id h11
  have t0 := hT9.1
  refine Cn.intro (lv0 := [some (.ref 0), some (.int sd), some (.int (nI cnt)), some (.int (nI 1)), none, none]) rfl (Nat.le_of_ble_eq_true rfl) rfl (fun d hd => ?_)
  refine x_iload_n dX7_chance_0 rfl ?_
  refine x_iconst (v := nI 1) dX7_chance_1 (by decide) ?_
  refine x_bipush (v := nI 20) dX7_chance_2 (by decide) ?_
  refine x_callS m_X7_isWithin l_X7_72 (c_within (p := ((cnt : Nat) : Int)) (q := ((1 : Nat) : Int)) (r := ((20 : Nat) : Int)) (nI_toInt (by omega)) (nI_toInt (by omega)) (nI_toInt (by omega))) (by omega) rfl rfl (Nat.le_of_ble_eq_true rfl) ⟨Nat.le_refl _, Nat.le_refl _⟩ dX7_chance_4 (fun r1 s1 q1 => ?_)
  obtain ⟨rfl, eq1⟩ := q1
  obtain rfl := eq1.symm
  refine x_stk (st' := [.int (bI (decide (((1 : Nat) : Int) ≤ ((cnt : Nat) : Int) ∧ ((cnt : Nat) : Int) ≤ ((20 : Nat) : Int))))]) rfl ?_
  refine x_ifP_eq (P := ((1 : Nat) : Int) ≤ ((cnt : Nat) : Int) ∧ ((cnt : Nat) : Int) ≤ ((20 : Nat) : Int)) inferInstance (tgt := 19) dX7_chance_7 (by decide) (fun hv2 => ?_) (fun hv2 => ?_)
  · exact absurd hv2 (by omega)
  · refine x_iload_n dX7_chance_10 rfl ?_
    refine x_iconst (v := nI 0) dX7_chance_11 (by decide) ?_
    refine x_iconst (v := nI 1) dX7_chance_12 (by decide) ?_
    refine x_callS m_X7_isWithin l_X7_72 (c_within (p := ((1 : Nat) : Int)) (q := ((0 : Nat) : Int)) (r := ((1 : Nat) : Int)) (nI_toInt (by omega)) (nI_toInt (by omega)) (nI_toInt (by omega))) (by omega) rfl rfl (Nat.le_of_ble_eq_true rfl) ⟨Nat.le_refl _, Nat.le_refl _⟩ dX7_chance_13 (fun r3 s3 q3 => ?_)
    obtain ⟨rfl, eq3⟩ := q3
    obtain rfl := eq3.symm
    refine x_stk (st' := [.int (bI (decide (((0 : Nat) : Int) ≤ ((1 : Nat) : Int) ∧ ((1 : Nat) : Int) ≤ ((1 : Nat) : Int))))]) rfl ?_
    refine x_ifP_ne (P := ((0 : Nat) : Int) ≤ ((1 : Nat) : Int) ∧ ((1 : Nat) : Int) ≤ ((1 : Nat) : Int)) inferInstance (tgt := 23) dX7_chance_16 (by decide) (fun hv4 => ?_) (fun hv4 => ?_)
    · refine x_aload_n dX7_chance_23 rfl ?_
      refine x_get (v := .ref 11) f_X7_19 k0 rfl dX7_chance_24 ?_
      refine x_aload_n dX7_chance_27 rfl ?_
      refine x_get (v := .ref 1) f_X7_10 k0 rfl dX7_chance_28 ?_
      refine x_callV m_X2_become l_X7_168 (c_become hT9 h (by omega)) rfl t0 (by omega) rfl rfl (Nat.le_of_ble_eq_true rfl) ⟨Nat.le_refl _, Nat.le_refl _⟩ dX7_chance_31 (fun r5 s5 q5 => ?_)
      obtain ⟨rfl, P5, F5⟩ := q5
      refine x_stk (st' := []) rfl ?_
      refine x_iconst (v := nI 0) dX7_chance_34 (by decide) ?_
      refine x_istore dX7_chance_35 (by decide) rfl ?_
      refine x_lv (lv' := [some (.ref 0), some (.int sd), some (.int (nI cnt)), some (.int (nI 1)), some (.int (nI 0)), none]) rfl ?_
      refine x_iconst (v := nI 0) dX7_chance_37 (by decide) ?_
      refine x_istore dX7_chance_38 (by decide) rfl ?_
      refine x_lv (lv' := [some (.ref 0), some (.int sd), some (.int (nI cnt)), some (.int (nI 1)), some (.int (nI 0)), some (.int (nI 0))]) rfl ?_
      exact l_chance1 (σ0 := σ) hr1 h.2.2.2.2.2.1 h.2.2.2.2.2.2.2.2.2.1 h.2.2.2.2.2.2.2.2.2.2.2.2 hc1 hc20 (by omega) cnt 0 D s5 (F5.at (by omega) k0) P5 (fun _ => rfl) (hJ.fr F5 (by omega)) (F5.mono (fun i hi => by omega)) (by omega)
    · exact absurd hv4 (by omega)
set_option maxHeartbeats 4000000 in
theorem c_chance_b {σ : ZS} {tx ik : Int32} (k0 : zg σ 0 = some (.inr (.inr (6, [.ref 1, .ref 6, .ref 11, .ref 16, .ref 22, .ref 28, .ref 31, .int tx, .int ik])))) {sd x w : Int32} (hb : ¬ (1 ≤ x.toInt ∧ x.toInt ≤ 20) ∨ ¬ (0 ≤ w.toInt ∧ w.toInt ≤ 1)) : Cn 14 M_X7_chance 0 0 [.ref 0, .int sd, .int x, .int w] σ (fun r9 σ' => r9 = some (.long (-4611686018427387904)) ∧ σ' = σ) := by
  refine Cn.intro (lv0 := [some (.ref 0), some (.int sd), some (.int x), some (.int w), none, none]) rfl (Nat.le_of_ble_eq_true rfl) rfl (fun d hd => ?_)
  refine x_iload_n dX7_chance_0 rfl ?_
  refine x_iconst (v := nI 1) dX7_chance_1 (by decide) ?_
  refine x_bipush (v := nI 20) dX7_chance_2 (by decide) ?_
  refine x_callS m_X7_isWithin l_X7_72 (c_within (p := (x).toInt) (q := ((1 : Nat) : Int)) (r := ((20 : Nat) : Int)) rfl (nI_toInt (by omega)) (nI_toInt (by omega))) (by omega) rfl rfl (Nat.le_of_ble_eq_true rfl) ⟨Nat.le_refl _, Nat.le_refl _⟩ dX7_chance_4 (fun r1 s1 q1 => ?_)
  obtain ⟨rfl, eq1⟩ := q1
  obtain rfl := eq1.symm
  refine x_stk (st' := [.int (bI (decide (((1 : Nat) : Int) ≤ (x).toInt ∧ (x).toInt ≤ ((20 : Nat) : Int))))]) rfl ?_
  refine x_ifP_eq (P := ((1 : Nat) : Int) ≤ (x).toInt ∧ (x).toInt ≤ ((20 : Nat) : Int)) inferInstance (tgt := 19) dX7_chance_7 (by decide) (fun hv2 => ?_) (fun hv2 => ?_)
  · refine x_ldc2 (v := (-4611686018427387904)) cl_X7_286 dX7_chance_19 ?_
    exact x_lret ⟨Nat.le_refl _, Nat.le_refl _⟩ rfl dX7_chance_22 ⟨rfl, rfl⟩
  · refine x_iload_n dX7_chance_10 rfl ?_
    refine x_iconst (v := nI 0) dX7_chance_11 (by decide) ?_
    refine x_iconst (v := nI 1) dX7_chance_12 (by decide) ?_
    refine x_callS m_X7_isWithin l_X7_72 (c_within (p := (w).toInt) (q := ((0 : Nat) : Int)) (r := ((1 : Nat) : Int)) rfl (nI_toInt (by omega)) (nI_toInt (by omega))) (by omega) rfl rfl (Nat.le_of_ble_eq_true rfl) ⟨Nat.le_refl _, Nat.le_refl _⟩ dX7_chance_13 (fun r3 s3 q3 => ?_)
    obtain ⟨rfl, eq3⟩ := q3
    obtain rfl := eq3.symm
    refine x_stk (st' := [.int (bI (decide (((0 : Nat) : Int) ≤ (w).toInt ∧ (w).toInt ≤ ((1 : Nat) : Int))))]) rfl ?_
    refine x_ifP_ne (P := ((0 : Nat) : Int) ≤ (w).toInt ∧ (w).toInt ≤ ((1 : Nat) : Int)) inferInstance (tgt := 23) dX7_chance_16 (by decide) (fun hv4 => ?_) (fun hv4 => ?_)
    · exact absurd hv4 (by omega)
    · refine x_ldc2 (v := (-4611686018427387904)) cl_X7_286 dX7_chance_19 ?_
      exact x_lret ⟨Nat.le_refl _, Nat.le_refl _⟩ rfl dX7_chance_22 ⟨rfl, rfl⟩
