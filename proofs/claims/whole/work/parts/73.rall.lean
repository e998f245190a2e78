set_option maxHeartbeats 4000000 in
theorem lr_counts {σ0 : ZS} {rr n : Nat} {K N : List Nat} {W : List Int32} {D : List Nat} {fr : Int32} {ru : Nat} {L S : List Nat} {lf jf m : Nat} {oo wo : Bool} {a0 : Nat → Int32} {b0 : Nat → List Int32} {f x A : Nat} {t : List Nat} (hA8 : A < 128) (hpc : popc A = f + 1) (hxf : x + (f + 1) = m) (hbits : ∀ p, A.testBit p = true → p < n) (ht : T7 t) (hTn : ∀ i, i < x → t.getD i 0 < n) (IH : ∀ (x A : Nat) (t : List Nat) (q : Q5T) (a : Nat → Int32) (tw : Int64) (b : Nat → List Int32) (σ : ZS), popc A = f → x + f = m → A < 128 → (∀ p, A.testBit p = true → p < n) → RM σ0 σ a tw b → SW a b rr n K N W D fr ru L S lf jf m oo wo → Q5 a q → PT x (b 7) t → T7 t → (∀ i, i < x → t.getD i 0 < n) → Cn (f + 170) M_X8_counts 0 0 [.ref 1000, .int (nI x), .int (nI A)] σ (fun r9 σ' => r9 = none ∧ ∃ (a' : Nat → Int32) (tw' : Int64) (b' : Nat → List Int32), RM σ0 σ' a' tw' b' ∧ FrQ a a' ∧ Fq b b' ∧ PT x (b' 7) t ∧ Q5 a' (skS n (decide (rr = 1)) false (fun (t : List Nat) (q : Q5T) => ctV (ffrom (fun s => !rfB rr m t (wlS K N D n (setS t m) fr) s) m 0).isSome q) f x A t q))) {d : Nat} (hd : f + 1 + 170 ≤ d) : ∀ (c k : Nat) (q : Q5T) (a : Nat → Int32) (tw : Int64) (b : Nat → List Int32) (σ : ZS) (hR : RM σ0 σ a tw b) (hS : SW a b rr n K N W D fr ru L S lf jf m oo wo) (hq : Q5 a q) (hP : PT x (b 7) t) (hA : FrQ a0 a) (hB : Fq b0 b), k + c = n → X M_X8_counts d 0 0 (fun r9 σ' => r9 = none ∧ ∃ (a' : Nat → Int32) (tw' : Int64) (b' : Nat → List Int32), RM σ0 σ' a' tw' b' ∧ FrQ a0 a' ∧ Fq b0 b' ∧ PT x (b' 7) t ∧ Q5 a' (skL (fun p q => skS n (decide (rr = 1)) false (fun (t : List Nat) (q : Q5T) => ctV (ffrom (fun s => !rfB rr m t (wlS K N D n (setS t m) fr) s) m 0).isSome q) f (x + 1) (A &&& (2 ^ p ^^^ 127)) (t.set x p) q) A (decide (x = 0) && decide (rr = 1)) c k q)) 0 0 29 [some (.ref 1000), some (.int (nI x)), some (.int (nI A)), some (.int (nI k))] [] σ := by
  intro c
  induction c with
  | zero =>
    intro k q a tw b σ hR hS hq hP hA hB hk
    obtain ⟨hC, hT, c31, hm, c38, c39⟩ := id hS
    obtain ⟨c7, hrr, c13, hn7, -⟩ := id hC
    obtain ⟨c33, c34, c35, c36, c37⟩ := id hq
    refine x_iload_n dX8_counts_29 rfl ?_
    refine x_aload_n dX8_counts_30 rfl ?_
    refine x_rget (v := .int (nI n)) f_X8_82 hR (rg c13) dX8_counts_31 ?_
    refine x_icmpN_ge (tgt := 86) dX8_counts_34 (by decide) (by omega) (by omega) (fun hv1 => ?_) (fun hv1 => ?_)
    · exact x_vret ⟨Nat.le_refl _, Nat.le_refl _⟩ rfl dX8_counts_86 ⟨rfl, a, tw, b, hR, hA, hB, hP, hq⟩
    · exact absurd hv1 (by omega)
  | succ c ih =>
    intro k q a tw b σ hR hS hq hP hA hB hk
    obtain ⟨hC, hT, c31, hm, c38, c39⟩ := id hS
    obtain ⟨c7, hrr, c13, hn7, -⟩ := id hC
    obtain ⟨c33, c34, c35, c36, c37⟩ := id hq
    refine x_iload_n dX8_counts_29 rfl ?_
    refine x_aload_n dX8_counts_30 rfl ?_
    refine x_rget (v := .int (nI n)) f_X8_82 hR (rg c13) dX8_counts_31 ?_
    refine x_icmpN_ge (tgt := 86) dX8_counts_34 (by decide) (by omega) (by omega) (fun hv1 => ?_) (fun hv1 => ?_)
    · exact absurd hv1 (by omega)
    · refine x_iload_n dX8_counts_37 rfl ?_
      refine x_iload_n dX8_counts_38 rfl ?_
      refine x_ishr dX8_counts_39 ?_
      refine x_iconst (v := nI 1) dX8_counts_40 (by decide) ?_
      refine x_iand dX8_counts_41 ?_
      refine x_topi (y := nI ((A / 2 ^ k % 2))) (z_bit (by omega) (by omega)) ?_
      refine x_iconst (v := nI 1) dX8_counts_42 (by decide) ?_
      refine x_icmpN_ne (tgt := 80) dX8_counts_43 (by decide) (by omega) (by omega) (fun hv2 => ?_) (fun hv2 => ?_)
      · refine x_iincN dX8_counts_80 rfl (by decide) rfl ?_
        refine x_lv (lv' := [some (.ref 1000), some (.int (nI x)), some (.int (nI A)), some (.int (nI (k + 1)))]) rfl ?_
        refine x_goto (tgt := 29) dX8_counts_83 (by decide) ?_
        rw [skL, if_neg (by rw [tb_dm]; exact fun z => hv2 (of_decide_eq_true z))]
        exact ih (k + 1) q a tw b σ hR hS hq hP hA hB (by omega)
      · have hbit : A.testBit k = true := by rw [tb_dm]; exact decide_eq_true hv2
        refine x_aload_n dX8_counts_46 rfl ?_
        refine x_rget f_X8_41 hR rfl dX8_counts_47 ?_
        refine x_iload_n dX8_counts_50 rfl ?_
        refine x_iload_n dX8_counts_51 rfl ?_
        refine x_rast (j := 7) (n := x) hR rfl (by decide) rfl rfl (rlt hR (m := 7) (by decide) rfl (by omega)) dX8_counts_52 (fun sw3 Rw3 => ?_)
        refine x_aload_n dX8_counts_53 rfl ?_
        refine x_iload_n dX8_counts_54 rfl ?_
        refine x_iconst (v := nI 1) dX8_counts_55 (by decide) ?_
        refine x_iaddN dX8_counts_56 ?_
        refine x_iload_n dX8_counts_57 rfl ?_
        refine x_iconst (v := nI 1) dX8_counts_58 (by decide) ?_
        refine x_iload_n dX8_counts_59 rfl ?_
        refine x_ishl dX8_counts_60 ?_
        refine x_topi (y := nI (2 ^ k)) (z_shl1 (by omega)) ?_
        refine x_iconst (v := (-1)) dX8_counts_61 (by decide) ?_
        refine x_ixor dX8_counts_62 ?_
        refine x_iand dX8_counts_63 ?_
        refine x_topi (y := nI ((A &&& (2 ^ k ^^^ 127)))) (andA hA8 (p128 _ (by omega))) ?_
        refine x_callV m_X8_counts l_X8_388 (IH (x + 1) (A &&& (2 ^ k ^^^ 127)) (t.set x k) q a tw (up b 7 ((b 7).set x (nI k))) sw3 (by have := popc_rm A hA8 k (by omega) hbit; omega) (by omega) (and128 hA8) (fun p hp => hbits p (bit_rm hp)) Rw3 (hS.fr FrQ.rf (Fq.rf.up)) hq (hP.set (rlt hR (m := 7) (by decide) rfl (by omega)) (by rw [ht.1]; omega)) (ht.set (by omega)) (fun i hi => by rw [getD_set]; split <;> first | omega | exact hTn i (by have h9 := ht.1; omega))) rfl Rw3.2.1 (by omega) rfl rfl (Nat.le_of_ble_eq_true rfl) ⟨Nat.le_refl _, Nat.le_refl _⟩ dX8_counts_64 (fun r4 s4 q4 => ?_)
        obtain ⟨rfl, a4, tw4, b4, R4, A4, B4, P4, hq4⟩ := q4
        have hS4 := (hS.fr FrQ.rf (Fq.rf.up (l := (b 7).set x (nI k)))).fr A4 B4
        obtain ⟨hC4, hT4, c314, hm4, c384, c394⟩ := id hS4
        obtain ⟨c74, hrr4, c134, hn74, -⟩ := id hC4
        obtain ⟨c334, c344, c354, c364, c374⟩ := id hq4
        have hB4 : Fq b0 b4 := (hB.up (l := (b 7).set x (nI k))).tr B4
        have hA4 := hA.tr A4
        have hP4 : PT x (b4 7) t := fun i hi => by rw [P4 i (by omega), getD_set, if_neg (by omega)]
        refine x_stk (st' := []) rfl ?_
        refine x_iload_n dX8_counts_67 rfl ?_
        refine x_ifN_ne (tgt := 80) dX8_counts_68 (by decide) (by omega) (fun hv5 => ?_) (fun hv5 => ?_)
        · refine x_iincN dX8_counts_80 rfl (by decide) rfl ?_
          refine x_lv (lv' := [some (.ref 1000), some (.int (nI x)), some (.int (nI A)), some (.int (nI (k + 1)))]) rfl ?_
          refine x_goto (tgt := 29) dX8_counts_83 (by decide) ?_
          rw [skL, if_pos hbit, if_neg (by rw [Bool.and_eq_true, decide_eq_true_iff, decide_eq_true_iff]; omega)]
          exact ih (k + 1) _ a4 tw4 b4 s4 R4 hS4 hq4 hP4 hA4 hB4 (by omega)
        · refine x_aload_n dX8_counts_71 rfl ?_
          refine x_rget (v := .int (nI rr)) f_X8_23 R4 (rg c74) dX8_counts_72 ?_
          refine x_iconst (v := nI 1) dX8_counts_75 (by decide) ?_
          refine x_icmpN_ne (tgt := 80) dX8_counts_76 (by decide) (by omega) (by omega) (fun hv6 => ?_) (fun hv6 => ?_)
          · refine x_iincN dX8_counts_80 rfl (by decide) rfl ?_
            refine x_lv (lv' := [some (.ref 1000), some (.int (nI x)), some (.int (nI A)), some (.int (nI (k + 1)))]) rfl ?_
            refine x_goto (tgt := 29) dX8_counts_83 (by decide) ?_
            rw [skL, if_pos hbit, if_neg (by rw [Bool.and_eq_true, decide_eq_true_iff, decide_eq_true_iff]; omega)]
            exact ih (k + 1) _ a4 tw4 b4 s4 R4 hS4 hq4 hP4 hA4 hB4 (by omega)
          · exact x_vret ⟨Nat.le_refl _, Nat.le_refl _⟩ rfl dX8_counts_79 ⟨rfl, _, _, _, R4, hA4, hB4, hP4, by rw [skL, if_pos hbit, if_pos (by rw [Bool.and_eq_true, decide_eq_true_iff, decide_eq_true_iff]; omega)]; exact hq4⟩
set_option maxHeartbeats 4000000 in
theorem r_counts {σ0 : ZS} {rr n : Nat} {K N : List Nat} {W : List Int32} {D : List Nat} {fr : Int32} {ru : Nat} {L S : List Nat} {lf jf m : Nat} {oo wo : Bool} : ∀ (f : Nat), ∀ (x A : Nat) (t : List Nat) (q : Q5T) (a : Nat → Int32) (tw : Int64) (b : Nat → List Int32) (σ : ZS), popc A = f → x + f = m → A < 128 → (∀ p, A.testBit p = true → p < n) → RM σ0 σ a tw b → SW a b rr n K N W D fr ru L S lf jf m oo wo → Q5 a q → PT x (b 7) t → T7 t → (∀ i, i < x → t.getD i 0 < n) → Cn (f + 170) M_X8_counts 0 0 [.ref 1000, .int (nI x), .int (nI A)] σ (fun r9 σ' => r9 = none ∧ ∃ (a' : Nat → Int32) (tw' : Int64) (b' : Nat → List Int32), RM σ0 σ' a' tw' b' ∧ FrQ a a' ∧ Fq b b' ∧ PT x (b' 7) t ∧ Q5 a' (skS n (decide (rr = 1)) false (fun (t : List Nat) (q : Q5T) => ctV (ffrom (fun s => !rfB rr m t (wlS K N D n (setS t m) fr) s) m 0).isSome q) f x A t q)) := by
  intro f
  induction f with
  | zero =>
    intro x A t q a tw b σ hpc hxf hA8 hbits hR hS hq hP ht hTn
    obtain ⟨hC, hT, c31, hm, c38, c39⟩ := id hS
    obtain ⟨c7, hrr, c13, hn7, -⟩ := id hC
    obtain ⟨c33, c34, c35, c36, c37⟩ := id hq
    obtain rfl := popc_0 A hA8 hpc
    obtain rfl : x = m := by omega
    refine Cn.intro (lv0 := [some (.ref 1000), some (.int (nI x)), some (.int (nI 0)), none]) rfl (Nat.le_of_ble_eq_true rfl) rfl (fun d hd => ?_)
    refine x_iload_n dX8_counts_0 rfl ?_
    refine x_ifN_ne (tgt := 27) dX8_counts_1 (by decide) (by omega) (fun hv1 => ?_) (fun hv1 => ?_)
    · exact absurd hv1 (by omega)
    · refine x_aload_n dX8_counts_4 rfl ?_
      refine x_dup dX8_counts_5 rfl ?_
      refine x_rget (v := .int q.1) f_X8_317 hR (rg c33) dX8_counts_6 ?_
      refine x_aload_n dX8_counts_9 rfl ?_
      refine x_callV m_X8_unlawful l_X8_308 (r_unlawful hR hC c31 hm hP ht hTn) rfl hR.2.1 (by omega) rfl rfl (Nat.le_of_ble_eq_true rfl) ⟨Nat.le_refl _, Nat.le_refl _⟩ dX8_counts_10 (fun r2 s2 q2 => ?_)
      obtain ⟨rfl, eq2⟩ := q2
      obtain rfl := eq2.symm
      refine x_stk (st' := [.int ((oI (ffrom (fun s => !rfB rr x t (wlS K N D n (setS t x) fr) s) x 0))), .int q.1, .ref 1000]) rfl ?_
      refine x_iconst (v := (-1)) dX8_counts_13 (by decide) ?_
      rcases hu9 : (ffrom (fun s => !rfB rr x t (wlS K N D n (setS t x) fr) s) x 0) with _ | c9
      · refine x_stk (st' := [.int ((-1)), .int ((-1)), .int q.1, .ref 1000]) rfl ?_
        refine x_icmpT_ne (p := (-1)) (q := (-1)) (tgt := 21) (by decide) (by decide) dX8_counts_14 (by decide) (fun hv3 => ?_) (fun hv3 => ?_)
        · exact absurd rfl hv3
        · refine x_iconst (v := nI 1) dX8_counts_17 (by decide) ?_
          refine x_goto (tgt := 22) dX8_counts_18 (by decide) ?_
          refine x_iadd dX8_counts_22 ?_
          refine x_rput (up a 33 ((q.1 + nI 1))) tw f_X8_317 hR (by decide) rfl (fun c => ⟨rfl, rfl⟩) dX8_counts_23 (fun sw4 Rw4 => ?_)
          exact x_vret ⟨Nat.le_refl _, Nat.le_refl _⟩ rfl dX8_counts_26 ⟨rfl, _, _, _, Rw4, (FrQ.rf.up (by omega)), Fq.rf, hP, by show Q5 _ (ctV (ffrom (fun s => !rfB rr x t (wlS K N D n (setS t x) fr) s) x 0).isSome q); rw [hu9]; exact ⟨rfl, c34, c35, c36, c37⟩⟩
      · have hc9 := (ffrom_lt _ _ hu9).2.1
        refine x_stk (st' := [.int ((-1)), .int (nI c9), .int q.1, .ref 1000]) rfl ?_
        refine x_icmpT_ne (p := ((c9 : Nat) : Int)) (q := (-1)) (tgt := 21) (nI_toInt (by omega)) (by decide) dX8_counts_14 (by decide) (fun hv5 => ?_) (fun hv5 => ?_)
        · refine x_iconst (v := nI 0) dX8_counts_21 (by decide) ?_
          refine x_iadd dX8_counts_22 ?_
          refine x_rput (up a 33 ((q.1 + nI 0))) tw f_X8_317 hR (by decide) rfl (fun c => ⟨rfl, rfl⟩) dX8_counts_23 (fun sw6 Rw6 => ?_)
          exact x_vret ⟨Nat.le_refl _, Nat.le_refl _⟩ rfl dX8_counts_26 ⟨rfl, _, _, _, Rw6, (FrQ.rf.up (by omega)), Fq.rf, hP, by show Q5 _ (ctV (ffrom (fun s => !rfB rr x t (wlS K N D n (setS t x) fr) s) x 0).isSome q); rw [hu9]; exact ⟨rfl, c34, c35, c36, c37⟩⟩
        · exact absurd hv5 (by omega)
  | succ f IH =>
    intro x A t q a tw b σ hpc hxf hA8 hbits hR hS hq hP ht hTn
    obtain ⟨hC, hT, c31, hm, c38, c39⟩ := id hS
    obtain ⟨c7, hrr, c13, hn7, -⟩ := id hC
    obtain ⟨c33, c34, c35, c36, c37⟩ := id hq
    have hA0 : A ≠ 0 := fun e => by rw [e, popc00] at hpc; exact absurd hpc (by omega)
    refine Cn.intro (lv0 := [some (.ref 1000), some (.int (nI x)), some (.int (nI A)), none]) rfl (Nat.le_of_ble_eq_true rfl) rfl (fun d hd => ?_)
    refine x_iload_n dX8_counts_0 rfl ?_
    refine x_ifN_ne (tgt := 27) dX8_counts_1 (by decide) (by omega) (fun hv1 => ?_) (fun hv1 => ?_)
    · refine x_iconst (v := nI 0) dX8_counts_27 (by decide) ?_
      refine x_istore_n dX8_counts_28 (by decide) rfl ?_
      refine x_lv (lv' := [some (.ref 1000), some (.int (nI x)), some (.int (nI A)), some (.int (nI 0))]) rfl ?_
      rw [skS, if_neg (fun z => absurd z.1 (by decide))]
      exact lr_counts (f := f) (x := x) hA8 hpc hxf hbits ht hTn IH hd n 0 q a tw b σ hR hS hq hP FrQ.rf Fq.rf (by omega)
    · exact absurd hv1 hA0
theorem popc_low : ∀ L, L < 128 → 0 < L → popc (L &&& (L - 1)) + 1 = popc L ∧ (L &&& (L - 1)) < 128 := by decide +kernel
set_option maxHeartbeats 4000000 in
theorem lr_bits {σ : ZS} {A : Nat} {d : Nat} (hd : 0 ≤ d) : ∀ (q k : Nat) (A0 L : Nat) (hL : L < 128) (hp : popc L = q), k + q = popc A → X M_X8_bitsOf d 0 0 (fun r9 σ' => r9 = some (.int (nI (popc A))) ∧ σ' = σ) 0 0 4 [some (.int (nI A0)), some (.int (nI k)), some (.int (nI L))] [] σ := by
  intro q
  induction q with
  | zero =>
    intro k A0 L hL hp hk
    refine x_iload_n dX8_bitsOf_4 rfl ?_
    refine x_ifN_eq (tgt := 20) dX8_bitsOf_5 (by decide) (by omega) (fun hv1 => ?_) (fun hv1 => ?_)
    · refine x_iload_n dX8_bitsOf_20 rfl ?_
      exact x_iret ⟨Nat.le_refl _, Nat.le_refl _⟩ rfl dX8_bitsOf_21 ⟨by rw [show k = popc A by omega], rfl⟩
    · exact absurd (popc_0 L hL hp) (by omega)
  | succ q ih =>
    intro k A0 L hL hp hk
    refine x_iload_n dX8_bitsOf_4 rfl ?_
    refine x_ifN_eq (tgt := 20) dX8_bitsOf_5 (by decide) (by omega) (fun hv1 => ?_) (fun hv1 => ?_)
    · rw [hv1, popc00] at hp; exact absurd hp (by omega)
    · refine x_iincN dX8_bitsOf_8 rfl (by decide) rfl ?_
      refine x_lv (lv' := [some (.int (nI A0)), some (.int (nI (k + 1))), some (.int (nI L))]) rfl ?_
      refine x_iload_n dX8_bitsOf_11 rfl ?_
      refine x_iload_n dX8_bitsOf_12 rfl ?_
      refine x_iconst (v := nI 1) dX8_bitsOf_13 (by decide) ?_
      refine x_isubN (by omega) dX8_bitsOf_14 ?_
      refine x_iandN dX8_bitsOf_15 ?_
      refine x_istore_n dX8_bitsOf_16 (by decide) rfl ?_
      refine x_lv (lv' := [some (.int (nI A0)), some (.int (nI (k + 1))), some (.int (nI (L &&& (L - 1))))]) rfl ?_
      refine x_goto (tgt := 4) dX8_bitsOf_17 (by decide) ?_
      have e := popc_low L hL (by omega)
      exact ih (k + 1) A0 (L &&& (L - 1)) e.2 (by omega) (by omega)
set_option maxHeartbeats 4000000 in
theorem r_bitsOf {σ : ZS} {A : Nat} (hA : A < 128) : Cn 0 M_X8_bitsOf 0 0 [.int (nI A)] σ (fun r9 σ' => r9 = some (.int (nI (popc A))) ∧ σ' = σ) := by
  refine Cn.intro (lv0 := [some (.int (nI A)), none, none]) rfl (Nat.le_of_ble_eq_true rfl) rfl (fun d hd => ?_)
  refine x_iconst (v := nI 0) dX8_bitsOf_0 (by decide) ?_
  refine x_istore_n dX8_bitsOf_1 (by decide) rfl ?_
  refine x_lv (lv' := [some (.int (nI A)), some (.int (nI 0)), none]) rfl ?_
  refine x_iload_n dX8_bitsOf_2 rfl ?_
  refine x_istore_n dX8_bitsOf_3 (by decide) rfl ?_
  refine x_lv (lv' := [some (.int (nI A)), some (.int (nI 0)), some (.int (nI A))]) rfl ?_
  exact lr_bits hd (popc A) 0 A A hA rfl (by omega)
def FrR (a a' : Nat → Int32) : Prop := ∀ k, ¬ ((15 ≤ k ∧ k ≤ 29) ∨ k = 31 ∨ (33 ≤ k ∧ k ≤ 39)) → a' k = a k
theorem FrR.rf {a : Nat → Int32} : FrR a a := fun _ _ => rfl
theorem FrR.tr {a a' a'' : Nat → Int32} (h : FrR a a') (h' : FrR a' a'') : FrR a a'' := fun k hk => (h' k hk).trans (h k hk)
theorem FrR.up {a a' : Nat → Int32} (h : FrR a a') {j : Nat} {v : Int32} (hj : j = 31 ∨ (33 ≤ j ∧ j ≤ 39)) : FrR a (up a' j v) := fun k hk => (up_ne a' v (fun q => hk (by rw [q]; exact Or.inr hj))).trans (h k hk)
theorem FrQ.R {a a' : Nat → Int32} (h : FrQ a a') : FrR a a' := fun k hk => h k (fun q => hk (by omega))
theorem FrS.R {a a' : Nat → Int32} (h : FrS a a') : FrR a a' := fun k hk => h k (fun q => hk (Or.inl q))
theorem FrB.R {a a' : Nat → Int32} (h : FrB a a') : FrR a a' := fun k hk => h k (fun q => hk (by omega))
def BW (a : Nat → Int32) (b : Nat → List Int32) (rr n : Nat) (K N : List Nat) (W : List Int32) (D : List Nat) (fr : Int32) (ru : Nat) (L S : List Nat) (lf jf : Nat) : Prop := RC a b rr n K N W D fr ∧ RT a b ru L S lf jf
theorem RC.frr {a a' : Nat → Int32} {b b' : Nat → List Int32} {rr n : Nat} {K N : List Nat} {W : List Int32} {D : List Nat} {fr : Int32} (h : RC a b rr n K N W D fr) (hA : FrR a a') (hB : Fq b b') : RC a' b' rr n K N W D fr := by
  obtain ⟨c7, hrr, c13, hn7, c14, cK, cN, cW, cD, r⟩ := h
  exact ⟨(hA 7 (by omega)).trans c7, hrr, (hA 13 (by omega)).trans c13, hn7, (hA 14 (by omega)).trans c14, fun i hi => by rw [hB 3 (by decide) (by decide)]; exact cK i hi, by rw [hB 4 (by decide) (by decide)]; exact cN, by rw [hB 5 (by decide) (by decide)]; exact cW, by rw [hB 6 (by decide) (by decide)]; exact cD, r⟩
theorem RT.frr {a a' : Nat → Int32} {b b' : Nat → List Int32} {ru : Nat} {L S : List Nat} {lf jf : Nat} (h : RT a b ru L S lf jf) (hA : FrR a a') (hB : Fq b b') : RT a' b' ru L S lf jf := by
  have h2 := h.setB (hB 0 (by decide) (by decide)) (hB 1 (by decide) (by decide))
  exact ⟨(hA 4 (by omega)).trans h2.1, h2.2⟩
theorem BW.fr {a a' : Nat → Int32} {b b' : Nat → List Int32} {rr n : Nat} {K N : List Nat} {W : List Int32} {D : List Nat} {fr : Int32} {ru : Nat} {L S : List Nat} {lf jf : Nat} (h : BW a b rr n K N W D fr ru L S lf jf) (hA : FrR a a') (hB : Fq b b') : BW a' b' rr n K N W D fr ru L S lf jf := ⟨h.1.frr hA hB, h.2.frr hA hB⟩
abbrev q0S : Q5T := (nI 0, nI 0, nI 0, nI 0, -1)
set_option maxHeartbeats 4000000 in
theorem r_begins {σ0 σ : ZS} {a : Nat → Int32} {tw : Int64} {b : Nat → List Int32} (hR : RM σ0 σ a tw b) {oo wo : Bool} : Cn 0 M_X8_begins 0 0 [.ref 1000, .int (bI oo), .int (bI wo)] σ (fun r9 σ' => r9 = none ∧ ∃ a' : Nat → Int32, RM σ0 σ' a' tw b ∧ FrR a a' ∧ Q5 a' q0S ∧ a' 38 = bI oo ∧ a' 39 = bI wo ∧ a' 31 = a 31) := by
  refine Cn.intro (lv0 := [some (.ref 1000), some (.int (bI oo)), some (.int (bI wo))]) rfl (Nat.le_of_ble_eq_true rfl) rfl (fun d hd => ?_)
  refine x_aload_n dX8_begins_0 rfl ?_
  refine x_iconst (v := nI 0) dX8_begins_1 (by decide) ?_
  refine x_rput (up a 33 (nI 0)) tw f_X8_317 hR (by decide) rfl (fun c => ⟨rfl, rfl⟩) dX8_begins_2 (fun sw1 Rw1 => ?_)
  refine x_aload_n dX8_begins_5 rfl ?_
  refine x_iconst (v := nI 0) dX8_begins_6 (by decide) ?_
  refine x_rput (up (up a 33 (nI 0)) 34 (nI 0)) tw f_X8_320 Rw1 (by decide) rfl (fun c => ⟨rfl, rfl⟩) dX8_begins_7 (fun sw2 Rw2 => ?_)
  refine x_aload_n dX8_begins_10 rfl ?_
  refine x_iconst (v := nI 0) dX8_begins_11 (by decide) ?_
  refine x_rput (up (up (up a 33 (nI 0)) 34 (nI 0)) 35 (nI 0)) tw f_X8_323 Rw2 (by decide) rfl (fun c => ⟨rfl, rfl⟩) dX8_begins_12 (fun sw3 Rw3 => ?_)
  refine x_aload_n dX8_begins_15 rfl ?_
  refine x_iconst (v := nI 0) dX8_begins_16 (by decide) ?_
  refine x_rput (up (up (up (up a 33 (nI 0)) 34 (nI 0)) 35 (nI 0)) 36 (nI 0)) tw f_X8_326 Rw3 (by decide) rfl (fun c => ⟨rfl, rfl⟩) dX8_begins_17 (fun sw4 Rw4 => ?_)
  refine x_aload_n dX8_begins_20 rfl ?_
  refine x_iconst (v := (-1)) dX8_begins_21 (by decide) ?_
  refine x_rput (up (up (up (up (up a 33 (nI 0)) 34 (nI 0)) 35 (nI 0)) 36 (nI 0)) 37 ((-1))) tw f_X8_329 Rw4 (by decide) rfl (fun c => ⟨rfl, rfl⟩) dX8_begins_22 (fun sw5 Rw5 => ?_)
  refine x_aload_n dX8_begins_25 rfl ?_
  refine x_iload_n dX8_begins_26 rfl ?_
  refine x_rput (up (up (up (up (up (up a 33 (nI 0)) 34 (nI 0)) 35 (nI 0)) 36 (nI 0)) 37 ((-1))) 38 (bI oo)) tw f_X8_332 Rw5 (by decide) rfl (fun c => ⟨bI_nar _, bI_fit _⟩) dX8_begins_27 (fun sw6 Rw6 => ?_)
  refine x_aload_n dX8_begins_30 rfl ?_
  refine x_iload_n dX8_begins_31 rfl ?_
  refine x_rput (up (up (up (up (up (up (up a 33 (nI 0)) 34 (nI 0)) 35 (nI 0)) 36 (nI 0)) 37 ((-1))) 38 (bI oo)) 39 (bI wo)) tw f_X8_335 Rw6 (by decide) rfl (fun c => ⟨bI_nar _, bI_fit _⟩) dX8_begins_32 (fun sw7 Rw7 => ?_)
  exact x_vret ⟨Nat.le_refl _, Nat.le_refl _⟩ rfl dX8_begins_35 ⟨rfl, _, Rw7, (((((((FrR.rf.up (by omega)).up (by omega)).up (by omega)).up (by omega)).up (by omega)).up (by omega)).up (by omega)), ⟨rfl, rfl, rfl, rfl, rfl⟩, rfl, rfl, rfl⟩
theorem popc_le : ∀ A, A < 128 → popc A ≤ 7 := by decide +kernel
def t0S : List Nat := List.replicate 7 0
theorem T70 : T7 t0S := ⟨rfl, fun i => by
  rw [t0S, List.getD_eq_getElem?_getD, List.getElem?_replicate]
  split <;> decide⟩
set_option maxHeartbeats 4000000 in
theorem r_seeksAll {σ0 σ : ZS} {a : Nat → Int32} {tw : Int64} {b : Nat → List Int32} {rr n : Nat} {K N : List Nat} {W : List Int32} {D : List Nat} {fr : Int32} {ru : Nat} {L S : List Nat} {lf jf : Nat} (hR : RM σ0 σ a tw b) (hW : BW a b rr n K N W D fr ru L S lf jf) {A : Nat} (hA8 : A < 128) (hbits : ∀ p, A.testBit p = true → p < n) {oo wo : Bool} : Cn 180 M_X8_seeksAll 0 0 [.ref 1000, .int (nI A), .int (bI oo), .int (bI wo)] σ (fun r9 σ' => r9 = none ∧ ∃ (a' : Nat → Int32) (tw' : Int64) (b' : Nat → List Int32), RM σ0 σ' a' tw' b' ∧ FrR a a' ∧ Fq b b' ∧ a' 31 = nI (popc A) ∧ Q5 a' (skS n (decide (rr = 1)) oo (fun (t : List Nat) (q : Q5T) => lkV (ffrom (fun s => !rfB rr (popc A) t (wlS K N D n (setS t (popc A)) fr) s) (popc A) 0).isSome (allJ (fun x y => gdI S jf K N W D (t.getD x 0) (t.getD y 0) x (popc A)) (bsB rr (popc A)) (popc A) (popc A)) (dgS t (popc A)) (allS (hdD S lf jf K N W t (popc A) (prS (decide (rr = 1)) (popc A)) D) n n) oo wo q) (popc A) 0 A t0S q0S)) := by
  refine Cn.intro (lv0 := [some (.ref 1000), some (.int (nI A)), some (.int (bI oo)), some (.int (bI wo))]) rfl (Nat.le_of_ble_eq_true rfl) rfl (fun d hd => ?_)
  refine x_aload_n dX8_seeksAll_0 rfl ?_
  refine x_iload_n dX8_seeksAll_1 rfl ?_
  refine x_iload_n dX8_seeksAll_2 rfl ?_
  refine x_callV m_X8_begins l_X8_347 (r_begins hR (oo := oo) (wo := wo)) rfl hR.2.1 (by omega) rfl rfl (Nat.le_of_ble_eq_true rfl) ⟨Nat.le_refl _, Nat.le_refl _⟩ dX8_seeksAll_3 (fun r1 s1 q1 => ?_)
  obtain ⟨rfl, a1, R1, A1, q1, o1, w1, -⟩ := q1
  refine x_stk (st' := []) rfl ?_
  refine x_aload_n dX8_seeksAll_6 rfl ?_
  refine x_iload_n dX8_seeksAll_7 rfl ?_
  refine x_callS m_X8_bitsOf l_X8_351 (r_bitsOf (by omega)) (by omega) rfl rfl (Nat.le_of_ble_eq_true rfl) ⟨Nat.le_refl _, Nat.le_refl _⟩ dX8_seeksAll_8 (fun r2 s2 q2 => ?_)
  obtain ⟨rfl, eq2⟩ := q2
  obtain rfl := eq2.symm
  refine x_stk (st' := [.int (nI ((popc A))), .ref 1000]) rfl ?_
  refine x_rput (up a1 31 (nI ((popc A)))) tw f_X8_255 R1 (by decide) rfl (fun c => ⟨rfl, rfl⟩) dX8_seeksAll_11 (fun sw3 Rw3 => ?_)
  refine x_aload_n dX8_seeksAll_14 rfl ?_
  refine x_iconst (v := nI 0) dX8_seeksAll_15 (by decide) ?_
  refine x_iload_n dX8_seeksAll_16 rfl ?_
  refine x_callV m_X8_seeks l_X8_344 (r_seeks (rr := rr) (n := n) (K := K) (N := N) (W := W) (D := D) (fr := fr) (ru := ru) (L := L) (S := S) (lf := lf) (jf := jf) (m := popc A) (oo := oo) (wo := wo) (popc A) 0 A t0S q0S (up a1 31 (nI ((popc A)))) tw b sw3 rfl (by omega) hA8 hbits Rw3 ⟨(hW.1.frr (A1.up (by omega)) Fq.rf), (hW.2.frr (A1.up (by omega)) Fq.rf), rfl, popc_le A hA8, o1, w1⟩ q1 (fun i h => absurd h (by omega)) T70 (fun i h => absurd h (by omega))) rfl Rw3.2.1 (by have := popc_le A hA8; omega) rfl rfl (Nat.le_of_ble_eq_true rfl) ⟨Nat.le_refl _, Nat.le_refl _⟩ dX8_seeksAll_17 (fun r4 s4 q4 => ?_)
  obtain ⟨rfl, a4, tw4, b4, R4, F4, B4, P4, q4⟩ := q4
  refine x_stk (st' := []) rfl ?_
  exact x_vret ⟨Nat.le_refl _, Nat.le_refl _⟩ rfl dX8_seeksAll_20 ⟨rfl, _, _, _, R4, ((A1.up (by omega)).tr F4.R), B4, (F4 31 (by omega)).trans rfl, q4⟩
def dgR (v : Int32) : Int32 := v - v / nI 10 * nI 10 - nI 1
def sbL : Nat → Int32 → List Int32 → List Int32
  | 0, _, l => l
  | q + 1, v, l => sbL q (v / nI 10) (l.set q (dgR v))
theorem sbL_len : ∀ (q : Nat) (v : Int32) (l : List Int32), (sbL q v l).length = l.length
  | 0, _, _ => rfl
  | q + 1, v, l => by rw [sbL, sbL_len, List.length_set]
theorem sbL_get {t : List Nat} (ht : T7 t) : ∀ (q : Nat) (l : List Int32), q ≤ 7 → q ≤ l.length → (∀ i, i < q → (sbL q (nI (dgS t q)) l).getD i 0 = nI (t.getD i 0)) ∧ ∀ i, q ≤ i → (sbL q (nI (dgS t q)) l).getD i 0 = l.getD i 0
  | 0, l, _, _ => ⟨fun i h => absurd h (by omega), fun i _ => rfl⟩
  | q + 1, l, hq, hl => by
    have h1 := dgS_lt ht (m := q) (by omega)
    have h2 := ht.2 q
    have e1 : nI (dgS t (q + 1)) / nI 10 = nI (dgS t q) := by
      rw [pk_div (by rw [dgS]; omega) (by decide) (by decide), dgS]
      congr 1
      omega
    have e2 : dgR (nI (dgS t (q + 1))) = nI (t.getD q 0) := by
      rw [dgR, pk_rem (by rw [dgS]; omega) (by decide) (by decide), dgS]
      have : (dgS t q * 10 + t.getD q 0 + 1) % 10 = t.getD q 0 + 1 := by omega
      rw [this, nI_suc]
    rw [sbL, e1, e2]
    obtain ⟨g1, g2⟩ := sbL_get ht q (l.set q (nI (t.getD q 0))) (by omega) (by rw [List.length_set]; omega)
    refine ⟨fun i hi => ?_, fun i hi => ?_⟩
    · by_cases e : i = q
      · rw [e, g2 q (Nat.le_refl _), gset (by omega), if_pos rfl]
      · exact g1 i (by omega)
    · rw [g2 i (by omega), gset (by omega), if_neg (by omega)]
set_option maxHeartbeats 4000000 in
theorem lr_sitsBy {σ0 : ZS} {a : Nat → Int32} {tw : Int64} {b0 : Nat → List Int32} {R : List Int32} {d : Nat} (hd : 0 ≤ d) : ∀ (k : Nat) (v v0 : Int32) (b : Nat → List Int32) (σ : ZS) (hR : RM σ0 σ a tw b) (hI : sbL k v (b 7) = R) (hB : Fb 7 b0 b), k ≤ 7 → X M_X8_sitsBy d 0 0 (fun r9 σ' => r9 = none ∧ ∃ b' : Nat → List Int32, RM σ0 σ' a tw b' ∧ Fb 7 b0 b' ∧ b' 7 = R) 0 0 17 [some (.ref 1000), some (.int v0), some (.int v), some (.int ((nI k - nI 1)))] [] σ := by
  intro k
  induction k with
  | zero =>
    intro v v0 b σ hR hI hB hk
    refine x_iload_n dX8_sitsBy_17 rfl ?_
    refine x_ifT_lt (p := ((0 : Int) - 1)) (tgt := 44) (by decide) dX8_sitsBy_18 (by decide) (fun hv1 => ?_) (fun hv1 => ?_)
    · exact x_vret ⟨Nat.le_refl _, Nat.le_refl _⟩ rfl dX8_sitsBy_44 ⟨rfl, b, hR, hB, hI⟩
    · exact absurd hv1 (by decide)
  | succ k ih =>
    intro v v0 b σ hR hI hB hk
    refine x_lv (lv' := [some (.ref 1000), some (.int v0), some (.int v), some (.int (nI k))]) (by rw [nI_suc]) ?_
    refine x_iload_n dX8_sitsBy_17 rfl ?_
    refine x_ifN_lt (tgt := 44) dX8_sitsBy_18 (by omega) ?_ (by decide)
    refine x_aload_n dX8_sitsBy_21 rfl ?_
    refine x_rget f_X8_41 hR rfl dX8_sitsBy_22 ?_
    refine x_iload_n dX8_sitsBy_25 rfl ?_
    refine x_iload_n dX8_sitsBy_26 rfl ?_
    refine x_bipush (v := nI 10) dX8_sitsBy_27 (by decide) ?_
    refine x_irem dX8_sitsBy_29 (by decide) ?_
    refine x_iconst (v := nI 1) dX8_sitsBy_30 (by decide) ?_
    refine x_isub dX8_sitsBy_31 ?_
    refine x_rast (j := 7) (n := k) hR rfl (by decide) rfl rfl (rlt hR (m := 7) (by decide) rfl (by omega)) dX8_sitsBy_32 (fun sw2 Rw2 => ?_)
    refine x_iload_n dX8_sitsBy_33 rfl ?_
    refine x_bipush (v := nI 10) dX8_sitsBy_34 (by decide) ?_
    refine x_idiv dX8_sitsBy_36 (by decide) ?_
    refine x_istore_n dX8_sitsBy_37 (by decide) rfl ?_
    refine x_lv (lv' := [some (.ref 1000), some (.int v0), some (.int ((v / nI 10))), some (.int (nI k))]) rfl ?_
    refine x_iinc (v := (nI k + (-1))) dX8_sitsBy_38 rfl rfl (by decide) rfl ?_
    refine x_lv (lv' := [some (.ref 1000), some (.int v0), some (.int ((v / nI 10))), some (.int ((nI k + (-1))))]) rfl ?_
    refine x_goto (tgt := 17) dX8_sitsBy_41 (by decide) ?_
    refine x_lv (lv' := [some (.ref 1000), some (.int v0), some (.int ((v / nI 10))), some (.int (nI k - nI 1))]) (by rw [← nI_dec]; rfl) ?_
    exact ih (v / nI 10) v0 _ sw2 Rw2 hI (hB.tr Fb.ups) (by omega)
set_option maxHeartbeats 4000000 in
theorem r_sitsBy {σ0 σ : ZS} {a : Nat → Int32} {tw : Int64} {b : Nat → List Int32} (hR : RM σ0 σ a tw b) {n : Nat} (c13 : a 13 = nI n) (hn7 : n ≤ 7) {v : Int32} : Cn 0 M_X8_sitsBy 0 0 [.ref 1000, .int v] σ (fun r9 σ' => r9 = none ∧ ∃ b' : Nat → List Int32, RM σ0 σ' (up a 31 (nI n)) tw b' ∧ Fb 7 b b' ∧ b' 7 = sbL n v (b 7)) := by
  refine Cn.intro (lv0 := [some (.ref 1000), some (.int v), none, none]) rfl (Nat.le_of_ble_eq_true rfl) rfl (fun d hd => ?_)
  refine x_iload_n dX8_sitsBy_0 rfl ?_
  refine x_istore_n dX8_sitsBy_1 (by decide) rfl ?_
  refine x_lv (lv' := [some (.ref 1000), some (.int v), some (.int v), none]) rfl ?_
  refine x_aload_n dX8_sitsBy_2 rfl ?_
  refine x_aload_n dX8_sitsBy_3 rfl ?_
  refine x_rget (v := .int (nI n)) f_X8_82 hR (rg c13) dX8_sitsBy_4 ?_
  refine x_rput (up a 31 (nI n)) tw f_X8_255 hR (by decide) rfl (fun c => ⟨rfl, rfl⟩) dX8_sitsBy_7 (fun sw1 Rw1 => ?_)
  refine x_aload_n dX8_sitsBy_10 rfl ?_
  refine x_rget (v := .int (nI n)) f_X8_82 Rw1 (rg c13) dX8_sitsBy_11 ?_
  refine x_iconst (v := nI 1) dX8_sitsBy_14 (by decide) ?_
  refine x_isub dX8_sitsBy_15 ?_
  refine x_istore_n dX8_sitsBy_16 (by decide) rfl ?_
  refine x_lv (lv' := [some (.ref 1000), some (.int v), some (.int v), some (.int ((nI n - nI 1)))]) rfl ?_
  exact lr_sitsBy hd n v v b sw1 Rw1 rfl Fb.rf hn7
