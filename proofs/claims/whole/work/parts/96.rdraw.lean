/-! debts drawn -/
theorem drIn_g {i : Nat} (hi : i < 7) : ∀ (j : Nat) (x : Int32 × List Nat), j ≤ 7 → Dg x.2 → Dg (drIn i j x).2
  | 0, x, _, h => h
  | j + 1, x, hj, h => by
    have h1 := drIn_g hi j x (by omega) h
    rw [drIn]
    by_cases e : i = j
    · rw [if_pos e]; exact h1
    · rw [if_neg e]; exact Dg_set h1 hi (by omega) e
theorem drOut_g {n : Nat} (hn : n ≤ 7) : ∀ (i : Nat) (x : Int32 × List Nat), i ≤ n → Dg x.2 → Dg (drOut n i x).2
  | 0, x, _, h => h
  | i + 1, x, hi, h => drIn_g (by omega) n _ hn (drOut_g hn i x (by omega) h)
set_option maxHeartbeats 4000000 in
theorem lr_law1 {Q : Option Value → ZS → Prop} {σ0 : ZS} {a : Nat → Int32} {tw : Int64} {b0 : Nat → List Int32} {sd : Int32} {d : Nat} (hd : 0 ≤ d) (hout : ∀ (b : Nat → List Int32) (σ : ZS), RM σ0 σ a tw b → (∀ j, j ≠ 9 → b j = b0 j) → b 9 = b0 6 → X M_X8_lawfulBy d 0 0 Q 0 0 26 [some (.ref 1000), some (.int sd), some (.int (nI 49)), none, none] [] σ) : ∀ (q k : Nat) (b : Nat → List Int32) (σ : ZS) (hR : RM σ0 σ a tw b) (hB : ∀ j, j ≠ 9 → b j = b0 j) (hc9 : Cp k (b 9) (b0 6)), k + q = 49 → X M_X8_lawfulBy d 0 0 (Q) 0 0 2 [some (.ref 1000), some (.int sd), some (.int (nI k)), none, none] [] σ := by
  intro q
  induction q with
  | zero =>
    intro k b σ hR hB hc9 hk
    refine x_iload_n dX8_lawfulBy_2 rfl ?_
    refine x_bipush (v := nI 49) dX8_lawfulBy_3 (by decide) ?_
    refine x_icmpN_ge (tgt := 26) dX8_lawfulBy_5 (by decide) (by omega) (by omega) (fun hv1 => ?_) (fun hv1 => ?_)
    · obtain rfl : k = 49 := by omega
      exact hout b σ hR hB (hc9.all ((hR.rlen (j := 9) (by decide) (m := 49) rfl).trans (by omega)) (by rw [← hB 6 (by decide)]; exact (hR.rlen (j := 6) (by decide) (m := 49) rfl).trans (by omega)))
    · exact absurd hv1 (by omega)
  | succ q ih =>
    intro k b σ hR hB hc9 hk
    refine x_iload_n dX8_lawfulBy_2 rfl ?_
    refine x_bipush (v := nI 49) dX8_lawfulBy_3 (by decide) ?_
    refine x_icmpN_ge (tgt := 26) dX8_lawfulBy_5 (by decide) (by omega) (by omega) (fun hv1 => ?_) (fun hv1 => ?_)
    · exact absurd hv1 (by omega)
    · refine x_aload_n dX8_lawfulBy_8 rfl ?_
      refine x_rget f_X8_47 hR rfl dX8_lawfulBy_9 ?_
      refine x_iload_n dX8_lawfulBy_12 rfl ?_
      refine x_aload_n dX8_lawfulBy_13 rfl ?_
      refine x_rget f_X8_35 hR rfl dX8_lawfulBy_14 ?_
      refine x_iload_n dX8_lawfulBy_17 rfl ?_
      refine x_rald (j := 6) (n := k) hR rfl (by decide) rfl rfl (rlt hR (m := 49) (by decide) rfl (by omega)) dX8_lawfulBy_18 ?_
      refine x_rast (j := 9) (n := k) hR rfl (by decide) rfl rfl (rlt hR (m := 49) (by decide) rfl (by omega)) dX8_lawfulBy_19 (fun sw2 Rw2 => ?_)
      refine x_iincN dX8_lawfulBy_20 rfl (by decide) rfl ?_
      refine x_lv (lv' := [some (.ref 1000), some (.int sd), some (.int (nI (k + 1))), none, none]) rfl ?_
      refine x_goto (tgt := 2) dX8_lawfulBy_23 (by decide) ?_
      exact ih (k + 1) (up b 9 ((b 9).set k (((b 6).getD k 0)))) sw2 Rw2 (fun j h9 => (up_ne _ _ h9).trans (hB j h9)) (by have z := hc9.s (l' := b0 6) (rlt hR (j := 9) (m := 49) (by decide) rfl (by omega)); rw [← hB 6 (by decide)] at z ⊢; exact z) (by omega)
set_option maxHeartbeats 4000000 in
theorem lr_draw1 {Q : Option Value → ZS → Prop} {σ0 : ZS} {a : Nat → Int32} {tw : Int64} {b0 : Nat → List Int32} {sd : Int32} {n : Nat} (c13 : a 13 = nI n) (hn7 : n ≤ 7) {x : Int32 × List Nat} {i : Nat} (hi : i < n) {d : Nat} (hd : 0 ≤ d) (hout : ∀ (b : Nat → List Int32) (σ : ZS), RM σ0 σ a tw b → Fb 6 b0 b → b 6 = (drIn i n x).2.map nI → (drIn i n x).2.length = 49 → X M_X8_lawfulBy d 0 0 Q 0 0 30 [some (.ref 1000), some (.int sd), some (.int ((drIn i n x).1)), some (.int (nI (i + 1))), none] [] σ) : ∀ (q j : Nat) (b : Nat → List Int32) (σ : ZS) (hR : RM σ0 σ a tw b) (hB : Fb 6 b0 b) (h6 : b 6 = (drIn i j x).2.map nI) (hl : (drIn i j x).2.length = 49), j + q = n → X M_X8_lawfulBy d 0 0 (Q) 0 0 41 [some (.ref 1000), some (.int sd), some (.int ((drIn i j x).1)), some (.int (nI i)), some (.int (nI j))] [] σ := by
  intro q
  induction q with
  | zero =>
    intro j b σ hR hB h6 hl hk
    refine x_iload dX8_lawfulBy_41 rfl ?_
    refine x_aload_n dX8_lawfulBy_43 rfl ?_
    refine x_rget (v := .int (nI n)) f_X8_82 hR (rg c13) dX8_lawfulBy_44 ?_
    refine x_icmpN_ge (tgt := 91) dX8_lawfulBy_47 (by decide) (by omega) (by omega) (fun hv1 => ?_) (fun hv1 => ?_)
    · refine x_iincN dX8_lawfulBy_91 rfl (by decide) rfl ?_
      refine x_goto (tgt := 30) dX8_lawfulBy_94 (by decide) ?_
      refine x_drop 4 ?_
      obtain rfl : n = j := by omega
      exact hout b σ hR hB h6 hl
    · exact absurd hv1 (by omega)
  | succ q ih =>
    intro j b σ hR hB h6 hl hk
    refine x_iload dX8_lawfulBy_41 rfl ?_
    refine x_aload_n dX8_lawfulBy_43 rfl ?_
    refine x_rget (v := .int (nI n)) f_X8_82 hR (rg c13) dX8_lawfulBy_44 ?_
    refine x_icmpN_ge (tgt := 91) dX8_lawfulBy_47 (by decide) (by omega) (by omega) (fun hv1 => ?_) (fun hv1 => ?_)
    · exact absurd hv1 (by omega)
    · refine x_iload_n dX8_lawfulBy_50 rfl ?_
      refine x_iload dX8_lawfulBy_51 rfl ?_
      refine x_icmpN_eq (tgt := 85) dX8_lawfulBy_53 (by decide) (by omega) (by omega) (fun hv2 => ?_) (fun hv2 => ?_)
      · refine x_iincN dX8_lawfulBy_85 rfl (by decide) rfl ?_
        refine x_lv (lv' := [some (.ref 1000), some (.int sd), some (.int ((drIn i j x).1)), some (.int (nI i)), some (.int (nI (j + 1)))]) rfl ?_
        refine x_goto (tgt := 41) dX8_lawfulBy_88 (by decide) ?_
        refine x_lv (lv' := [some (.ref 1000), some (.int sd), some (.int ((drIn i (j + 1) x).1)), some (.int (nI i)), some (.int (nI (j + 1)))]) (by rw [drIn, if_pos (by omega)]) ?_
        exact ih (j + 1) b σ hR hB (by rw [drIn, if_pos (by omega)]; exact h6) (by rw [drIn, if_pos (by omega)]; exact hl) (by omega)
      · refine x_iload_n dX8_lawfulBy_56 rfl ?_
        refine x_ldcw (v := (1103515245)) c_X8_387 dX8_lawfulBy_57 ?_
        refine x_topi (y := nI 1103515245) (by decide) ?_
        refine x_imul dX8_lawfulBy_60 ?_
        refine x_sipush (v := nI 12345) dX8_lawfulBy_61 (by decide) ?_
        refine x_iadd dX8_lawfulBy_64 ?_
        refine x_topi (y := (drZ (drIn i j x).1)) rfl ?_
        refine x_istore_n dX8_lawfulBy_65 (by decide) rfl ?_
        refine x_lv (lv' := [some (.ref 1000), some (.int sd), some (.int ((drZ (drIn i j x).1))), some (.int (nI i)), some (.int (nI j))]) rfl ?_
        refine x_aload_n dX8_lawfulBy_66 rfl ?_
        refine x_rget f_X8_35 hR rfl dX8_lawfulBy_67 ?_
        refine x_bipush (v := nI 7) dX8_lawfulBy_70 (by decide) ?_
        refine x_iload_n dX8_lawfulBy_72 rfl ?_
        refine x_imulN dX8_lawfulBy_73 ?_
        refine x_topi (y := nI (i * 7)) (by rw [Nat.mul_comm]) ?_
        refine x_iload dX8_lawfulBy_74 rfl ?_
        refine x_iaddN dX8_lawfulBy_76 ?_
        refine x_iload_n dX8_lawfulBy_77 rfl ?_
        refine x_bipush (v := nI 9) dX8_lawfulBy_78 (by decide) ?_
        refine x_iushr dX8_lawfulBy_80 ?_
        refine x_topi (y := nI (((drZ (drIn i j x).1).toBitVec.toNat / 512))) (drV_eq _) ?_
        have hz9 := (drZ (drIn i j x).1).toBitVec.isLt
        refine x_bipush (v := nI 100) dX8_lawfulBy_81 (by decide) ?_
        refine x_iremN (by omega) (by omega) (by omega) dX8_lawfulBy_83 ?_
        refine x_rast (j := 6) (n := (i * 7) + j) hR rfl (by decide) rfl rfl (rlt hR (m := 49) (by decide) rfl (by omega)) dX8_lawfulBy_84 (fun sw3 Rw3 => ?_)
        refine x_iincN dX8_lawfulBy_85 rfl (by decide) rfl ?_
        refine x_lv (lv' := [some (.ref 1000), some (.int sd), some (.int ((drZ (drIn i j x).1))), some (.int (nI i)), some (.int (nI (j + 1)))]) rfl ?_
        refine x_goto (tgt := 41) dX8_lawfulBy_88 (by decide) ?_
        refine x_lv (lv' := [some (.ref 1000), some (.int sd), some (.int ((drIn i (j + 1) x).1)), some (.int (nI i)), some (.int (nI (j + 1)))]) (by rw [drIn, if_neg (by omega)]) ?_
        exact ih (j + 1) (up b 6 ((b 6).set ((i * 7) + j) (nI ((((drZ (drIn i j x).1).toBitVec.toNat / 512)) % 100)))) sw3 Rw3 (hB.tr Fb.ups) (by rw [drIn, if_neg (by omega)]; exact (rset h6)) (by rw [drIn, if_neg (by omega)]; exact (List.length_set ..).trans hl) (by omega)
set_option maxHeartbeats 4000000 in
theorem lr_draw2 {Q : Option Value → ZS → Prop} {σ0 : ZS} {a : Nat → Int32} {tw : Int64} {b0 : Nat → List Int32} {sd : Int32} {n : Nat} (c13 : a 13 = nI n) (hn7 : n ≤ 7) {D0 : List Nat} {d : Nat} (hd : 0 ≤ d) (hout : ∀ (b : Nat → List Int32) (σ : ZS), RM σ0 σ a tw b → Fb 6 b0 b → b 6 = (drOut n n (sd, D0)).2.map nI → X M_X8_lawfulBy d 0 0 Q 0 0 97 [some (.ref 1000), some (.int sd), some (.int ((drOut n n (sd, D0)).1)), some (.int (nI n)), none] [] σ) : ∀ (q i : Nat) (b : Nat → List Int32) (σ : ZS) (hR : RM σ0 σ a tw b) (hB : Fb 6 b0 b) (h6 : b 6 = (drOut n i (sd, D0)).2.map nI) (hl : (drOut n i (sd, D0)).2.length = 49), i + q = n → X M_X8_lawfulBy d 0 0 (Q) 0 0 30 [some (.ref 1000), some (.int sd), some (.int ((drOut n i (sd, D0)).1)), some (.int (nI i)), none] [] σ := by
  intro q
  induction q with
  | zero =>
    intro i b σ hR hB h6 hl hk
    refine x_iload_n dX8_lawfulBy_30 rfl ?_
    refine x_aload_n dX8_lawfulBy_31 rfl ?_
    refine x_rget (v := .int (nI n)) f_X8_82 hR (rg c13) dX8_lawfulBy_32 ?_
    refine x_icmpN_ge (tgt := 97) dX8_lawfulBy_35 (by decide) (by omega) (by omega) (fun hv1 => ?_) (fun hv1 => ?_)
    · obtain rfl : n = i := by omega
      exact hout b σ hR hB h6
    · exact absurd hv1 (by omega)
  | succ q ih =>
    intro i b σ hR hB h6 hl hk
    refine x_iload_n dX8_lawfulBy_30 rfl ?_
    refine x_aload_n dX8_lawfulBy_31 rfl ?_
    refine x_rget (v := .int (nI n)) f_X8_82 hR (rg c13) dX8_lawfulBy_32 ?_
    refine x_icmpN_ge (tgt := 97) dX8_lawfulBy_35 (by decide) (by omega) (by omega) (fun hv1 => ?_) (fun hv1 => ?_)
    · exact absurd hv1 (by omega)
    · refine x_iconst (v := nI 0) dX8_lawfulBy_38 (by decide) ?_
      refine x_istore dX8_lawfulBy_39 (by decide) rfl ?_
      refine x_lv (lv' := [some (.ref 1000), some (.int sd), some (.int ((drOut n i (sd, D0)).1)), some (.int (nI i)), some (.int (nI 0))]) rfl ?_
      refine x_lv (lv' := [some (.ref 1000), some (.int sd), some (.int ((drIn i 0 (drOut n i (sd, D0))).1)), some (.int (nI i)), some (.int (nI 0))]) rfl ?_
      exact lr_draw1 c13 hn7 (by omega) hd (fun b1 σ1 R1 B1 e1 l1 => ih (i + 1) b1 σ1 R1 B1 e1 l1 (by omega)) n 0 b σ hR hB h6 hl (by omega)
set_option maxHeartbeats 4000000 in
theorem lr_law3 {Q : Option Value → ZS → Prop} {σ0 : ZS} {a : Nat → Int32} {tw : Int64} {b0 : Nat → List Int32} {sd z9 : Int32} {d : Nat} (hd : 0 ≤ d) (hout : ∀ (b : Nat → List Int32) (σ : ZS), RM σ0 σ a tw b → (∀ j, j ≠ 6 → b j = b0 j) → b 6 = b0 9 → X M_X8_lawfulBy d 0 0 Q 0 0 146 [some (.ref 1000), some (.int sd), some (.int z9), some (.int (nI 49)), none] [] σ) : ∀ (q k : Nat) (b : Nat → List Int32) (σ : ZS) (hR : RM σ0 σ a tw b) (hB : ∀ j, j ≠ 6 → b j = b0 j) (hc6 : Cp k (b 6) (b0 9)), k + q = 49 → X M_X8_lawfulBy d 0 0 (Q) 0 0 122 [some (.ref 1000), some (.int sd), some (.int z9), some (.int (nI k)), none] [] σ := by
  intro q
  induction q with
  | zero =>
    intro k b σ hR hB hc6 hk
    refine x_iload_n dX8_lawfulBy_122 rfl ?_
    refine x_bipush (v := nI 49) dX8_lawfulBy_123 (by decide) ?_
    refine x_icmpN_ge (tgt := 146) dX8_lawfulBy_125 (by decide) (by omega) (by omega) (fun hv1 => ?_) (fun hv1 => ?_)
    · obtain rfl : k = 49 := by omega
      exact hout b σ hR hB (hc6.all ((hR.rlen (j := 6) (by decide) (m := 49) rfl).trans (by omega)) (by rw [← hB 9 (by decide)]; exact (hR.rlen (j := 9) (by decide) (m := 49) rfl).trans (by omega)))
    · exact absurd hv1 (by omega)
  | succ q ih =>
    intro k b σ hR hB hc6 hk
    refine x_iload_n dX8_lawfulBy_122 rfl ?_
    refine x_bipush (v := nI 49) dX8_lawfulBy_123 (by decide) ?_
    refine x_icmpN_ge (tgt := 146) dX8_lawfulBy_125 (by decide) (by omega) (by omega) (fun hv1 => ?_) (fun hv1 => ?_)
    · exact absurd hv1 (by omega)
    · refine x_aload_n dX8_lawfulBy_128 rfl ?_
      refine x_rget f_X8_35 hR rfl dX8_lawfulBy_129 ?_
      refine x_iload_n dX8_lawfulBy_132 rfl ?_
      refine x_aload_n dX8_lawfulBy_133 rfl ?_
      refine x_rget f_X8_47 hR rfl dX8_lawfulBy_134 ?_
      refine x_iload_n dX8_lawfulBy_137 rfl ?_
      refine x_rald (j := 9) (n := k) hR rfl (by decide) rfl rfl (rlt hR (m := 49) (by decide) rfl (by omega)) dX8_lawfulBy_138 ?_
      refine x_rast (j := 6) (n := k) hR rfl (by decide) rfl rfl (rlt hR (m := 49) (by decide) rfl (by omega)) dX8_lawfulBy_139 (fun sw2 Rw2 => ?_)
      refine x_iincN dX8_lawfulBy_140 rfl (by decide) rfl ?_
      refine x_lv (lv' := [some (.ref 1000), some (.int sd), some (.int z9), some (.int (nI (k + 1))), none]) rfl ?_
      refine x_goto (tgt := 122) dX8_lawfulBy_143 (by decide) ?_
      exact ih (k + 1) (up b 6 ((b 6).set k (((b 9).getD k 0)))) sw2 Rw2 (fun j h6 => (up_ne _ _ h6).trans (hB j h6)) (by have z := hc6.s (l' := b0 9) (rlt hR (j := 6) (m := 49) (by decide) rfl (by omega)); rw [← hB 9 (by decide)] at z ⊢; exact z) (by omega)
set_option maxHeartbeats 4000000 in
theorem r_lawfulBy {σ0 σ : ZS} {a : Nat → Int32} {tw : Int64} {b : Nat → List Int32} {rr n : Nat} {K N : List Nat} {W : List Int32} {D : List Nat} {ru : Nat} {L S : List Nat} {lf jf : Nat} (hR : RM σ0 σ a tw b) (hW : BW a b rr n K N W D (-1) ru L S lf jf) (hg : Dg D) {sd : Int32} : Cn 180 M_X8_lawfulBy 0 0 [.ref 1000, .int sd] σ (fun r9 σ' => ∃ (a' : Nat → Int32) (tw' : Int64) (b' : Nat → List Int32), r9 = some (.int (nI ((lwf (decide (rr = 1)) (2 ^ n - 1) (wlS K N (drOut n n (sd, D)).2 n (2 ^ n - 1) (-1))).length))) ∧ RM σ0 σ' a' tw' b' ∧ FrR a a' ∧ (∀ j, j ≠ 7 → j ≠ 8 → j ≠ 9 → b' j = b j)) := by
  obtain ⟨hC, hT⟩ := id hW
  obtain ⟨c7, hrr, c13, hn7, c14, cK, cN, cW, cD, hN7, hW7, hD49, hK5, hN9, hD999⟩ := id hC
  have hA8 := (all_bit n hn7).2
  have hpc := (all_bit n hn7).1
  have hbits : ∀ p, (2 ^ n - 1).testBit p = true → p < n := fun p hp => all_in hp
  refine Cn.intro (lv0 := [some (.ref 1000), some (.int sd), none, none, none]) rfl (Nat.le_of_ble_eq_true rfl) rfl (fun d hd => ?_)
  refine x_iconst (v := nI 0) dX8_lawfulBy_0 (by decide) ?_
  refine x_istore_n dX8_lawfulBy_1 (by decide) rfl ?_
  refine x_lv (lv' := [some (.ref 1000), some (.int sd), some (.int (nI 0)), none, none]) rfl ?_
  refine lr_law1 (Nat.zero_le d) ?_ 49 0 b σ hR (fun _ _ => rfl) Cp.z (by omega)
  intro b1 σ1 R1 B1 e1
  refine x_iload_n dX8_lawfulBy_26 rfl ?_
  refine x_istore_n dX8_lawfulBy_27 (by decide) rfl ?_
  refine x_lv (lv' := [some (.ref 1000), some (.int sd), some (.int sd), none, none]) rfl ?_
  refine x_iconst (v := nI 0) dX8_lawfulBy_28 (by decide) ?_
  refine x_istore_n dX8_lawfulBy_29 (by decide) rfl ?_
  refine x_lv (lv' := [some (.ref 1000), some (.int sd), some (.int ((drOut n 0 (sd, D)).1)), some (.int (nI 0)), none]) rfl ?_
  have C1 : RC a b1 rr n K N W D (-1) := hC.fr9 B1
  have T1 : RT a b1 ru L S lf jf := hT.setB (B1 0 (by decide)) (B1 1 (by decide))
  refine lr_draw2 (D0 := D) (b0 := b1) c13 hn7 (Nat.zero_le d) ?_ n 0 b1 σ1 R1 Fb.rf ((B1 6 (by decide)).trans cD) hD49 (by omega)
  intro b2 σ2 R2 B2 e2
  have C2 : RC a b2 rr n K N W (drOut n n (sd, D)).2 (-1) := C1.setD B2 e2 (drOut_ok n n (sd, D) hD49 hD999)
  have T2 : RT a b2 ru L S lf jf := T1.setB (B2 0 (by decide)) (B2 1 (by decide))
  have hg2 : Dg (drOut n n (sd, D)).2 := drOut_g hn7 n (sd, D) (Nat.le_refl _) hg
  refine x_aload_n dX8_lawfulBy_97 rfl ?_
  refine x_iconst (v := nI 0) dX8_lawfulBy_98 (by decide) ?_
  refine x_iconst (v := nI 0) dX8_lawfulBy_99 (by decide) ?_
  refine x_stk (st' := [.int (bI false), .int (bI false), .ref 1000]) (by rw [bI_f]) ?_
  refine x_callV m_X8_begins l_X8_347 (r_begins R2 (oo := false) (wo := false)) rfl R2.2.1 (by omega) rfl rfl (Nat.le_of_ble_eq_true rfl) ⟨Nat.le_refl _, Nat.le_refl _⟩ dX8_lawfulBy_100 (fun r121 s121 q121 => ?_)
  obtain ⟨rfl, a121, R121, A121, q121, o121, w121, -⟩ := q121
  refine x_stk (st' := []) rfl ?_
  refine x_aload_n dX8_lawfulBy_103 rfl ?_
  refine x_aload_n dX8_lawfulBy_104 rfl ?_
  refine x_rget (v := .int (nI n)) f_X8_82 R121 (rg ((A121 13 (by omega)).trans c13)) dX8_lawfulBy_105 ?_
  refine x_rput (up a121 31 (nI n)) tw f_X8_255 R121 (by decide) rfl (fun c => ⟨rfl, rfl⟩) dX8_lawfulBy_108 (fun sw122 Rw122 => ?_)
  refine x_aload_n dX8_lawfulBy_111 rfl ?_
  refine x_iconst (v := nI 0) dX8_lawfulBy_112 (by decide) ?_
  refine x_aload_n dX8_lawfulBy_113 rfl ?_
  refine x_callV m_X8_everybody l_X8_356 (r_everybody Rw122 (C2.frr (A121.up (by omega)) Fq.rf)) rfl Rw122.2.1 (by omega) rfl rfl (Nat.le_of_ble_eq_true rfl) ⟨Nat.le_refl _, Nat.le_refl _⟩ dX8_lawfulBy_114 (fun r123 s123 q123 => ?_)
  obtain ⟨rfl, eq123⟩ := q123
  obtain rfl := eq123.symm
  refine x_stk (st' := [.int (nI ((2 ^ n - 1))), .int (nI 0), .ref 1000]) rfl ?_
  refine x_callV m_X8_counts l_X8_388 (r_counts (rr := rr) (n := n) (K := K) (N := N) (W := W) (D := (drOut n n (sd, D)).2) (fr := (-1)) (ru := ru) (L := L) (S := S) (lf := lf) (jf := jf) (m := popc (2 ^ n - 1)) (oo := false) (wo := false) (popc (2 ^ n - 1)) 0 (2 ^ n - 1) t0S q0S (up a121 31 (nI n)) tw b2 sw122 rfl (by omega) hA8 hbits Rw122 ⟨C2.frr (A121.up (by omega)) Fq.rf, T2.frr (A121.up (by omega)) Fq.rf, (by rw [hpc]; rfl), popc_le _ hA8, o121, w121⟩ q121 (fun i h => absurd h (by omega)) T70 (fun i h => absurd h (by omega))) rfl Rw122.2.1 (by rw [hpc]; omega) rfl rfl (Nat.le_of_ble_eq_true rfl) ⟨Nat.le_refl _, Nat.le_refl _⟩ dX8_lawfulBy_117 (fun r124 s124 q124 => ?_)
  obtain ⟨rfl, a124, tw124, b124, R124, F124, B124, P124, q124⟩ := q124
  refine x_stk (st' := []) rfl ?_
  refine x_iconst (v := nI 0) dX8_lawfulBy_120 (by decide) ?_
  refine x_istore_n dX8_lawfulBy_121 (by decide) rfl ?_
  refine x_lv (lv' := [some (.ref 1000), some (.int sd), some (.int ((drOut n n (sd, D)).1)), some (.int (nI 0)), none]) rfl ?_
  refine lr_law3 (Nat.zero_le d) ?_ 49 0 b124 _ R124 (fun _ _ => rfl) Cp.z (by omega)
  intro b5 σ5 R5 B5 e5
  refine x_aload_n dX8_lawfulBy_146 rfl ?_
  refine x_rget f_X8_317 R5 rfl dX8_lawfulBy_147 ?_
  exact x_iret ⟨Nat.le_refl _, Nat.le_refl _⟩ rfl dX8_lawfulBy_150 ⟨_, _, b5, by rw [q124.1]; exact congrArg (fun u => some (Value.int u)) (ofN (ref_cnt (K := K) (N := N) (D := (drOut n n (sd, D)).2) (fr := (-1)) hrr hn7 hA8 hbits hg2)), R5, (A121.up (by omega)).tr F124.R, fun j h7 h8 h9 => by
    by_cases e : j = 6
    · rw [e, e5, B124 9 (by decide) (by decide), B2 9 (by decide), e1]
    · rw [B5 j e, B124 j h7 h8, B2 j e, B1 j h9]⟩
set_option maxHeartbeats 4000000 in
theorem r_drawn {σ0 σ : ZS} {a : Nat → Int32} {tw : Int64} {b : Nat → List Int32} {rr n : Nat} {K N : List Nat} {W : List Int32} {D : List Nat} {ru : Nat} {L S : List Nat} {lf jf : Nat} (hR : RM σ0 σ a tw b) (hW : BW a b rr n K N W D (-1) ru L S lf jf) (hg : Dg D) {sd : Int32} : Cn 181 M_X8_drawn 0 0 [.ref 1000, .int sd] σ (fun r9 σ' => ∃ (a' : Nat → Int32) (tw' : Int64) (b' : Nat → List Int32), r9 = some (.int (nI ((lwf (decide (rr = 1)) (2 ^ n - 1) (wlS K N (drOut n n (sd, D)).2 n (2 ^ n - 1) (-1))).length))) ∧ RM σ0 σ' a' tw' b' ∧ FrR a a' ∧ (∀ j, j ≠ 7 → j ≠ 8 → j ≠ 9 → b' j = b j)) := by
  refine Cn.intro (lv0 := [some (.ref 1000), some (.int sd)]) rfl (Nat.le_of_ble_eq_true rfl) rfl (fun d hd => ?_)
  refine x_aload_n dX8_drawn_0 rfl ?_
  refine x_iload_n dX8_drawn_1 rfl ?_
  refine x_callV m_X8_lawfulBy l_X8_391 (r_lawfulBy hR hW hg) rfl hR.2.1 (by omega) rfl rfl (Nat.le_of_ble_eq_true rfl) ⟨Nat.le_refl _, Nat.le_refl _⟩ dX8_drawn_2 (fun r1 s1 q1 => ?_)
  obtain ⟨a1, tw1, b1, rfl, R1, A1, B1⟩ := q1
  refine x_stk (st' := [.int (nI (((lwf (decide (rr = 1)) (2 ^ n - 1) (wlS K N (drOut n n (sd, D)).2 n (2 ^ n - 1) (-1))).length)))]) rfl ?_
  exact x_iret ⟨Nat.le_refl _, Nat.le_refl _⟩ rfl dX8_drawn_5 ⟨_, _, _, rfl, R1, A1, B1⟩
