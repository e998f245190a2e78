set_option maxHeartbeats 4000000 in
theorem lr_run1 {Q : Option Value → ZS → Prop} {σ0 : ZS} {a : Nat → Int32} {tw : Int64} {b0 : Nat → List Int32} {cnt : Nat} {w : Int32} {d : Nat} (hd : 0 ≤ d) (hout : ∀ (b : Nat → List Int32) (σ : ZS), RM σ0 σ a tw b → (∀ j, j ≠ 9 → b j = b0 j) → b 9 = b0 6 → X M_X8_run d 0 0 Q 0 0 53 [some (.ref 1000), some (.int (nI cnt)), some (.int w), some (.int (nI 49)), none, none, none] [] σ) : ∀ (q k : Nat) (b : Nat → List Int32) (σ : ZS) (hR : RM σ0 σ a tw b) (hB : ∀ j, j ≠ 9 → b j = b0 j) (hc9 : Cp k (b 9) (b0 6)), k + q = 49 → X M_X8_run d 0 0 (Q) 0 0 29 [some (.ref 1000), some (.int (nI cnt)), some (.int w), some (.int (nI k)), none, none, none] [] σ := by
  intro q
  induction q with
  | zero =>
    intro k b σ hR hB hc9 hk
    refine x_iload_n dX8_run_29 rfl ?_
    refine x_bipush (v := nI 49) dX8_run_30 (by decide) ?_
    refine x_icmpN_ge (tgt := 53) dX8_run_32 (by decide) (by omega) (by omega) (fun hv1 => ?_) (fun hv1 => ?_)
    · obtain rfl : k = 49 := by omega
      exact hout b σ hR hB (hc9.all ((hR.rlen (j := 9) (by decide) (m := 49) rfl).trans (by omega)) (by rw [← hB 6 (by decide)]; exact (hR.rlen (j := 6) (by decide) (m := 49) rfl).trans (by omega)))
    · exact absurd hv1 (by omega)
  | succ q ih =>
    intro k b σ hR hB hc9 hk
    refine x_iload_n dX8_run_29 rfl ?_
    refine x_bipush (v := nI 49) dX8_run_30 (by decide) ?_
    refine x_icmpN_ge (tgt := 53) dX8_run_32 (by decide) (by omega) (by omega) (fun hv1 => ?_) (fun hv1 => ?_)
    · exact absurd hv1 (by omega)
    · refine x_aload_n dX8_run_35 rfl ?_
      refine x_rget f_X8_47 hR rfl dX8_run_36 ?_
      refine x_iload_n dX8_run_39 rfl ?_
      refine x_aload_n dX8_run_40 rfl ?_
      refine x_rget f_X8_35 hR rfl dX8_run_41 ?_
      refine x_iload_n dX8_run_44 rfl ?_
      refine x_rald (j := 6) (n := k) hR rfl (by decide) rfl rfl (rlt hR (m := 49) (by decide) rfl (by omega)) dX8_run_45 ?_
      refine x_rast (j := 9) (n := k) hR rfl (by decide) rfl rfl (rlt hR (m := 49) (by decide) rfl (by omega)) dX8_run_46 (fun sw2 Rw2 => ?_)
      refine x_iincN dX8_run_47 rfl (by decide) rfl ?_
      refine x_lv (lv' := [some (.ref 1000), some (.int (nI cnt)), some (.int w), some (.int (nI (k + 1))), none, none, none]) rfl ?_
      refine x_goto (tgt := 29) dX8_run_50 (by decide) ?_
      exact ih (k + 1) (up b 9 ((b 9).set k (((b 6).getD k 0)))) sw2 Rw2 (fun j h9 => (up_ne _ _ h9).trans (hB j h9)) (by have z := hc9.s (l' := b0 6) (rlt hR (j := 9) (m := 49) (by decide) rfl (by omega)); rw [← hB 6 (by decide)] at z ⊢; exact z) (by omega)
set_option maxHeartbeats 4000000 in
theorem lr_run3 {Q : Option Value → ZS → Prop} {σ0 : ZS} {a : Nat → Int32} {tw : Int64} {b0 : Nat → List Int32} {cnt he : Nat} {w is v : Int32} {d : Nat} (hd : 0 ≤ d) (hout : ∀ (b : Nat → List Int32) (σ : ZS), RM σ0 σ a tw b → (∀ j, j ≠ 6 → b j = b0 j) → b 6 = b0 9 → X M_X8_run d 0 0 Q 0 0 171 [some (.ref 1000), some (.int (nI cnt)), some (.int w), some (.int (nI he)), some (.int is), some (.int v), some (.int (nI 49))] [] σ) : ∀ (q k : Nat) (b : Nat → List Int32) (σ : ZS) (hR : RM σ0 σ a tw b) (hB : ∀ j, j ≠ 6 → b j = b0 j) (hc6 : Cp k (b 6) (b0 9)), k + q = 49 → X M_X8_run d 0 0 (Q) 0 0 144 [some (.ref 1000), some (.int (nI cnt)), some (.int w), some (.int (nI he)), some (.int is), some (.int v), some (.int (nI k))] [] σ := by
  intro q
  induction q with
  | zero =>
    intro k b σ hR hB hc6 hk
    refine x_iload dX8_run_144 rfl ?_
    refine x_bipush (v := nI 49) dX8_run_146 (by decide) ?_
    refine x_icmpN_ge (tgt := 171) dX8_run_148 (by decide) (by omega) (by omega) (fun hv1 => ?_) (fun hv1 => ?_)
    · obtain rfl : k = 49 := by omega
      exact hout b σ hR hB (hc6.all ((hR.rlen (j := 6) (by decide) (m := 49) rfl).trans (by omega)) (by rw [← hB 9 (by decide)]; exact (hR.rlen (j := 9) (by decide) (m := 49) rfl).trans (by omega)))
    · exact absurd hv1 (by omega)
  | succ q ih =>
    intro k b σ hR hB hc6 hk
    refine x_iload dX8_run_144 rfl ?_
    refine x_bipush (v := nI 49) dX8_run_146 (by decide) ?_
    refine x_icmpN_ge (tgt := 171) dX8_run_148 (by decide) (by omega) (by omega) (fun hv1 => ?_) (fun hv1 => ?_)
    · exact absurd hv1 (by omega)
    · refine x_aload_n dX8_run_151 rfl ?_
      refine x_rget f_X8_35 hR rfl dX8_run_152 ?_
      refine x_iload dX8_run_155 rfl ?_
      refine x_aload_n dX8_run_157 rfl ?_
      refine x_rget f_X8_47 hR rfl dX8_run_158 ?_
      refine x_iload dX8_run_161 rfl ?_
      refine x_rald (j := 9) (n := k) hR rfl (by decide) rfl rfl (rlt hR (m := 49) (by decide) rfl (by omega)) dX8_run_163 ?_
      refine x_rast (j := 6) (n := k) hR rfl (by decide) rfl rfl (rlt hR (m := 49) (by decide) rfl (by omega)) dX8_run_164 (fun sw2 Rw2 => ?_)
      refine x_iincN dX8_run_165 rfl (by decide) rfl ?_
      refine x_lv (lv' := [some (.ref 1000), some (.int (nI cnt)), some (.int w), some (.int (nI he)), some (.int is), some (.int v), some (.int (nI (k + 1)))]) rfl ?_
      refine x_goto (tgt := 144) dX8_run_168 (by decide) ?_
      exact ih (k + 1) (up b 6 ((b 6).set k (((b 9).getD k 0)))) sw2 Rw2 (fun j h6 => (up_ne _ _ h6).trans (hB j h6)) (by have z := hc6.s (l' := b0 9) (rlt hR (j := 6) (m := 49) (by decide) rfl (by omega)); rw [← hB 9 (by decide)] at z ⊢; exact z) (by omega)
/-! dinners one behind the other -/
def runS (rr n : Nat) (K N : List Nat) (W : List Int32) (S : List Nat) (lf jf : Nat) : Nat → List Nat → Nat × List Nat
  | 0, D => (0, D)
  | f + 1, D => match (bstB (totB (vW false S lf jf K N W D n) (decide (rr = 1)) n) (lwf (decide (rr = 1)) (2 ^ n - 1) (wlS K N D n (2 ^ n - 1) (-1)))) with
    | none => (0, D)
    | some y => ((runS rr n K N W S lf jf f (hdD S lf jf K N W y n (prS (decide (rr = 1)) n) D)).1 + 1, (runS rr n K N W S lf jf f (hdD S lf jf K N W y n (prS (decide (rr = 1)) n) D)).2)
theorem hd_keep {S : List Nat} {lf jf : Nat} {K N : List Nat} {W : List Int32} {D : List Nat} {n m : Nat} {r : Bool} {t : List Nat} (hn : n ≤ 7) (hD : D49 D) (hd : Dis n m t) (hg : Dg D) (hz : Dz n D) : ∀ k, k ≤ prS r m → Dg (hdD S lf jf K N W t m k D) ∧ Dz n (hdD S lf jf K N W t m k D)
  | 0, _ => ⟨hg, hz⟩
  | k + 1, hk => by
    obtain ⟨h1, h2⟩ := hd_keep (r := r) hn hD hd hg hz k (by omega)
    have hp := hd.prAll (r := r) (s := k) (by omega)
    have hD1 := hdD_ok (S := S) (lf := lf) (jf := jf) (K := K) (N := N) (W := W) (t := t) (m := m) hD k
    have g := mtD_get (S := S) (lf := lf) (jf := jf) (K := K) (N := N) (W := W) (a := t.getD k 0) (sa := k) (b := t.getD (nxS m k) 0) (sb := nxS m k) (size := m) (by omega) (by omega) hp.2.2 hD1.1 hD1.1
    rw [hdD]
    refine ⟨fun i hi => ?_, fun i j hi hj hij => ?_⟩
    · rw [g.1 _ (by omega) (by omega)]; exact h1 i hi
    · rw [g.1 _ (by omega) (by omega)]; exact h2 i j hi hj hij
theorem RC.D9 {a : Nat → Int32} {b : Nat → List Int32} {rr n : Nat} {K N : List Nat} {W : List Int32} {D : List Nat} {f9 : Int32} (h : RC a b rr n K N W D f9) : D49 D := by
  obtain ⟨c7, hrr, c13, hn7, c14, cK, cN, cW, cD, hN7, hW7, hD49, hK5, hN9, hD999⟩ := h
  exact ⟨hD49, hD999⟩
set_option maxHeartbeats 4000000 in
theorem lr_run2 {Q : Option Value → ZS → Prop} {σ0 : ZS} {a0 : Nat → Int32} {b0 : Nat → List Int32} {rr n : Nat} {K N : List Nat} {W : List Int32} {ru : Nat} {L S : List Nat} {lf jf : Nat} {cnt : Nat} (hc20 : cnt ≤ 20) {w : Int32} {R : Nat × List Nat} {d : Nat} (hd : 182 ≤ d) (hout : ∀ (a : Nat → Int32) (tw : Int64) (b : Nat → List Int32) (σ : ZS) (is : Int32), RM σ0 σ a tw b → RC a b rr n K N W R.2 (-1) → FrR a0 a → (∀ j, j ≠ 6 → j ≠ 7 → j ≠ 8 → b j = b0 j) → X M_X8_run d 0 0 Q 0 0 115 [some (.ref 1000), some (.int (nI cnt)), some (.int w), some (.int (nI R.1)), some (.int is), none, none] [] σ) : ∀ (q k : Nat) (D : List Nat) (a : Nat → Int32) (tw : Int64) (b : Nat → List Int32) (σ : ZS) (hR : RM σ0 σ a tw b) (hW : BW a b rr n K N W D (-1) ru L S lf jf) (hg : Dg D) (hz : Dz n D) (hI : (k + (runS rr n K N W S lf jf q D).1, (runS rr n K N W S lf jf q D).2) = R) (hA : FrR a0 a) (hB : (∀ j, j ≠ 6 → j ≠ 7 → j ≠ 8 → b j = b0 j)), k + q = cnt → X M_X8_run d 0 0 (Q) 0 0 58 [some (.ref 1000), some (.int (nI cnt)), some (.int w), some (.int (nI k)), some (.int (nI 1)), none, none] [] σ := by
  intro q
  induction q with
  | zero =>
    intro k D a tw b σ hR hW hg hz hI hA hB hk
    obtain ⟨hC, hT⟩ := id hW
    obtain ⟨c7, hrr, c13, hn7, c14, cK, cN, cW, cD, hN7, hW7, hD49, hK5, hN9, hD999⟩ := id hC
    have hA8 := (all_bit n hn7).2
    have hpc := (all_bit n hn7).1
    have hbits : ∀ p, (2 ^ n - 1).testBit p = true → p < n := fun p hp => all_in hp
    refine x_iload_n dX8_run_58 rfl ?_
    refine x_iload_n dX8_run_59 rfl ?_
    refine x_icmpN_ge (tgt := 115) dX8_run_60 (by decide) (by omega) (by omega) (fun hv1 => ?_) (fun hv1 => ?_)
    · have e9 : R = (k, D) := by rw [← hI]; rfl
      subst e9
      exact hout a tw b σ _ hR hW.1 hA hB
    · exact absurd hv1 (by omega)
  | succ q ih =>
    intro k D a tw b σ hR hW hg hz hI hA hB hk
    obtain ⟨hC, hT⟩ := id hW
    obtain ⟨c7, hrr, c13, hn7, c14, cK, cN, cW, cD, hN7, hW7, hD49, hK5, hN9, hD999⟩ := id hC
    have hA8 := (all_bit n hn7).2
    have hpc := (all_bit n hn7).1
    have hbits : ∀ p, (2 ^ n - 1).testBit p = true → p < n := fun p hp => all_in hp
    refine x_iload_n dX8_run_58 rfl ?_
    refine x_iload_n dX8_run_59 rfl ?_
    refine x_icmpN_ge (tgt := 115) dX8_run_60 (by decide) (by omega) (by omega) (fun hv1 => ?_) (fun hv1 => ?_)
    · exact absurd hv1 (by omega)
    · refine x_iload dX8_run_63 rfl ?_
      refine x_ifN_eq (tgt := 115) dX8_run_65 (by decide) (by omega) (fun hv2 => ?_) (fun hv2 => ?_)
      · exact absurd hv2 (by decide)
      · refine x_aload_n dX8_run_68 rfl ?_
        refine x_aload_n dX8_run_69 rfl ?_
        refine x_callV m_X8_everybody l_X8_356 (r_everybody hR hC) rfl hR.2.1 (by omega) rfl rfl (Nat.le_of_ble_eq_true rfl) ⟨Nat.le_refl _, Nat.le_refl _⟩ dX8_run_70 (fun r3 s3 q3 => ?_)
        obtain ⟨rfl, eq3⟩ := q3
        obtain rfl := eq3.symm
        refine x_stk (st' := [.int (nI ((2 ^ n - 1))), .ref 1000]) rfl ?_
        refine x_iconst (v := nI 0) dX8_run_73 (by decide) ?_
        refine x_iconst (v := nI 0) dX8_run_74 (by decide) ?_
        refine x_topi (y := bI false) bI_f.symm ?_
        refine x_callV m_X8_seeksAll l_X8_359 (r_seekBest hR hW hA8 hbits hg) rfl hR.2.1 (by omega) rfl rfl (Nat.le_of_ble_eq_true rfl) ⟨Nat.le_refl _, Nat.le_refl _⟩ dX8_run_75 (fun r4 s4 q4 => ?_)
        obtain ⟨rfl, a4, tw4, b4, R4, A4, B4, m4, z4⟩ := q4
        refine x_stk (st' := []) rfl ?_
        refine x_aload_n dX8_run_78 rfl ?_
        refine x_rget f_X8_317 R4 rfl dX8_run_79 ?_
        rcases hbs : (bstB (totB (vW false S lf jf K N W D n) (decide (rr = 1)) n) (lwf (decide (rr = 1)) (2 ^ n - 1) (wlS K N D n (2 ^ n - 1) (-1)))) with _ | y
        · rw [hpc] at z4
          obtain ⟨l9, g9⟩ := z4.len.1 hbs
          have l9 : (a4 33).toInt = 0 := l9
          refine x_ifT_le (p := ((a4 33)).toInt) (tgt := 89) rfl dX8_run_82 (by decide) (fun hv5 => ?_) (fun hv5 => ?_)
          · refine x_iconst (v := nI 0) dX8_run_89 (by decide) ?_
            refine x_istore dX8_run_90 (by decide) rfl ?_
            refine x_lv (lv' := [some (.ref 1000), some (.int (nI cnt)), some (.int w), some (.int (nI k)), some (.int (nI 0)), none, none]) rfl ?_
            refine x_iload dX8_run_92 rfl ?_
            refine x_ifN_eq (tgt := 58) dX8_run_94 (by decide) (by omega) (fun hv6 => ?_) (fun hv6 => ?_)
            · refine x_iload_n dX8_run_58 rfl ?_
              refine x_iload_n dX8_run_59 rfl ?_
              refine x_icmpN_ge (tgt := 115) dX8_run_60 (by decide) (by omega) (by omega) (fun hv7 => ?_) (fun hv7 => ?_)
              · exact absurd hv7 (by omega)
              · refine x_iload dX8_run_63 rfl ?_
                refine x_ifN_eq (tgt := 115) dX8_run_65 (by decide) (by omega) (fun hv8 => ?_) (fun hv8 => ?_)
                · have e9 : R = (k, D) := by rw [← hI, runS, hbs]; rfl
                  subst e9
                  exact hout a4 tw4 b4 s4 _ R4 (hW.1.frr A4 B4) (hA.tr A4) (fun j h6 h7 h8 => (B4 j h7 h8).trans (hB j h6 h7 h8))
                · exact absurd hv8 (by decide)
            · exact absurd hv6 (by decide)
          · omega
        · rw [hpc] at z4
          obtain ⟨l9, g9⟩ := z4.len.2 y hbs
          have l9 : 0 < (a4 33).toInt := l9
          have g9 : a4 34 = nI (dgS y n) := g9
          have y7 := bst_T7 hbs
          have yd := bst_Dis hn7 hbs
          refine x_ifT_le (p := ((a4 33)).toInt) (tgt := 89) rfl dX8_run_82 (by decide) (fun hv9 => ?_) (fun hv9 => ?_)
          · omega
          · refine x_iconst (v := nI 1) dX8_run_85 (by decide) ?_
            refine x_goto (tgt := 90) dX8_run_86 (by decide) ?_
            refine x_istore dX8_run_90 (by decide) rfl ?_
            refine x_lv (lv' := [some (.ref 1000), some (.int (nI cnt)), some (.int w), some (.int (nI k)), some (.int (nI 1)), none, none]) rfl ?_
            refine x_iload dX8_run_92 rfl ?_
            refine x_ifN_eq (tgt := 58) dX8_run_94 (by decide) (by omega) (fun hv10 => ?_) (fun hv10 => ?_)
            · exact absurd hv10 (by decide)
            · refine x_aload_n dX8_run_97 rfl ?_
              refine x_aload_n dX8_run_98 rfl ?_
              refine x_rget (v := .int (nI ((dgS y n)))) f_X8_320 R4 (rg g9) dX8_run_99 ?_
              refine x_callV m_X8_sitsBy l_X8_368 (r_sitsBy R4 (show a4 13 = nI n from (A4 13 (by omega)).trans c13) hn7) rfl R4.2.1 (by omega) rfl rfl (Nat.le_of_ble_eq_true rfl) ⟨Nat.le_refl _, Nat.le_refl _⟩ dX8_run_102 (fun r11 s11 q11 => ?_)
              obtain ⟨rfl, b11, R11, B11, e11⟩ := q11
              refine x_stk (st' := []) rfl ?_
              have hl7 : (b4 7).length = 7 := R4.rlen (j := 7) (by decide) (m := 7) rfl
              refine x_aload_n dX8_run_105 rfl ?_
              refine x_callV m_X8_dines l_X8_290 (r_dines R11 (show TW (up a4 31 (nI n)) b11 rr n K N W D (-1) ru L S lf jf n y from ⟨(hW.fr (A4.up (by omega)) (B4.tr B11.q7)).1, (hW.fr (A4.up (by omega)) (B4.tr B11.q7)).2, rfl, hn7, (fun j hj => by rw [e11]; exact (sbL_get y7 n _ hn7 (by rw [hl7]; omega)).1 j hj), y7, yd.1⟩)) rfl R11.2.1 (by omega) rfl rfl (Nat.le_of_ble_eq_true rfl) ⟨Nat.le_refl _, Nat.le_refl _⟩ dX8_run_106 (fun r12 s12 q12 => ?_)
              obtain ⟨rfl, a12, tw12, b12, R12, A12, B12, h612⟩ := q12
              refine x_stk (st' := []) rfl ?_
              refine x_iincN dX8_run_109 rfl (by decide) rfl ?_
              refine x_lv (lv' := [some (.ref 1000), some (.int (nI cnt)), some (.int w), some (.int (nI (k + 1))), some (.int (nI 1)), none, none]) rfl ?_
              refine x_goto (tgt := 58) dX8_run_112 (by decide) ?_
              have hkp := hd_keep (S := S) (lf := lf) (jf := jf) (K := K) (N := N) (W := W) (r := decide (rr = 1)) hn7 hW.1.D9 yd hg hz _ (Nat.le_refl _)
              refine x_lv (lv' := [some (.ref 1000), some (.int (nI cnt)), some (.int w), some (.int (nI (k + 1))), some (.int (nI 1)), none, none]) rfl ?_
              refine ih (k + 1) (hdD S lf jf K N W y n (prS (decide (rr = 1)) n) D) _ _ _ s12 R12 ⟨((hW.fr (A4.up (by omega)) (B4.tr B11.q7)).1.fr A12).setD B12 h612 (hdD_ok hW.1.D9 _), ((hW.fr (A4.up (by omega)) (B4.tr B11.q7)).2.fr A12).setB (B12 0 (by decide)) (B12 1 (by decide))⟩ hkp.1 hkp.2 (by rw [← hI, runS, hbs]; simp only [Prod.mk.injEq, and_true]; omega) (hA.tr ((A4.up (by omega)).tr A12.R)) (fun j h6 h7 h8 => (B12 j h6).trans ((B11 j h7).trans ((B4 j h7 h8).trans (hB j h6 h7 h8)))) (by omega)
theorem RC.fr9 {a : Nat → Int32} {b b' : Nat → List Int32} {rr n : Nat} {K N : List Nat} {W : List Int32} {D : List Nat} {f9 : Int32} (h : RC a b rr n K N W D f9) (hB : ∀ j, j ≠ 9 → b' j = b j) : RC a b' rr n K N W D f9 := by
  obtain ⟨c7, hrr, c13, hn7, c14, cK, cN, cW, cD, r⟩ := h
  exact ⟨c7, hrr, c13, hn7, c14, fun i hi => by rw [hB 3 (by decide)]; exact cK i hi, by rw [hB 4 (by decide)]; exact cN, by rw [hB 5 (by decide)]; exact cW, by rw [hB 6 (by decide)]; exact cD, r⟩
set_option maxHeartbeats 4000000 in
theorem r_run {σ0 σ : ZS} {a : Nat → Int32} {tw : Int64} {b : Nat → List Int32} {rr n : Nat} {K N : List Nat} {W : List Int32} {D : List Nat} {ru : Nat} {L S : List Nat} {lf jf : Nat} (hR : RM σ0 σ a tw b) (hW : BW a b rr n K N W D (-1) ru L S lf jf) (hg : Dg D) (hz : Dz n D) {cnt : Nat} (hc20 : cnt ≤ 20) {w : Int32} (hw : 0 ≤ w.toInt ∧ w.toInt ≤ 2) : Cn 183 M_X8_run 0 0 [.ref 1000, .int (nI cnt), .int w] σ (fun r9 σ' => r9 = some (.int (if w.toInt = 0 then nI (runS rr n K N W S lf jf cnt D).1 else if w.toInt = 1 then nI (allS (runS rr n K N W S lf jf cnt D).2 n n) else nI (ruinS (runS rr n K N W S lf jf cnt D).2 n n))) ∧ ∃ (a' : Nat → Int32) (tw' : Int64) (b' : Nat → List Int32), RM σ0 σ' a' tw' b' ∧ FrR a a' ∧ (∀ j, j ≠ 7 → j ≠ 8 → j ≠ 9 → b' j = b j)) := by
  obtain ⟨hC, hT⟩ := id hW
  obtain ⟨c7, hrr, c13, hn7, c14, cK, cN, cW, cD, hN7, hW7, hD49, hK5, hN9, hD999⟩ := id hC
  refine Cn.intro (lv0 := [some (.ref 1000), some (.int (nI cnt)), some (.int w), none, none, none, none]) rfl (Nat.le_of_ble_eq_true rfl) rfl (fun d hd => ?_)
  refine x_iload_n dX8_run_0 rfl ?_
  refine x_i2l dX8_run_1 ?_
  refine x_lconst (v := 0) dX8_run_2 (by decide) ?_
  refine x_ldc2 (v := (20)) cl_X8_366 dX8_run_3 ?_
  refine x_callS m_X8_in l_X8_85 (r_in (p := ((cnt : Nat) : Int)) (q := 0) (r := (20)) (tL (nI_toInt (by omega))) (by decide) (by decide)) (by omega) rfl rfl (Nat.le_of_ble_eq_true rfl) ⟨Nat.le_refl _, Nat.le_refl _⟩ dX8_run_6 (fun r1 s1 q1 => ?_)
  obtain ⟨rfl, eq1⟩ := q1
  obtain rfl := eq1.symm
  refine x_stk (st' := [.int (bI (decide (0 ≤ ((cnt : Nat) : Int) ∧ ((cnt : Nat) : Int) ≤ (20))))]) rfl ?_
  refine x_ifP_eq (P := 0 ≤ ((cnt : Nat) : Int) ∧ ((cnt : Nat) : Int) ≤ (20)) inferInstance (tgt := 24) dX8_run_9 (by decide) (fun hv2 => ?_) (fun hv2 => ?_)
  · exact absurd (by omega) hv2
  · refine x_iload_n dX8_run_12 rfl ?_
    refine x_i2l dX8_run_13 ?_
    refine x_lconst (v := 0) dX8_run_14 (by decide) ?_
    refine x_ldc2 (v := (2)) cl_X8_302 dX8_run_15 ?_
    refine x_callS m_X8_in l_X8_85 (r_in (p := w.toInt) (q := 0) (r := (2)) (tL rfl) (by decide) (by decide)) (by omega) rfl rfl (Nat.le_of_ble_eq_true rfl) ⟨Nat.le_refl _, Nat.le_refl _⟩ dX8_run_18 (fun r3 s3 q3 => ?_)
    obtain ⟨rfl, eq3⟩ := q3
    obtain rfl := eq3.symm
    refine x_stk (st' := [.int (bI (decide (0 ≤ w.toInt ∧ w.toInt ≤ (2))))]) rfl ?_
    refine x_ifP_ne (P := 0 ≤ w.toInt ∧ w.toInt ≤ (2)) inferInstance (tgt := 27) dX8_run_21 (by decide) (fun hv4 => ?_) (fun hv4 => ?_)
    · refine x_iconst (v := nI 0) dX8_run_27 (by decide) ?_
      refine x_istore_n dX8_run_28 (by decide) rfl ?_
      refine x_lv (lv' := [some (.ref 1000), some (.int (nI cnt)), some (.int w), some (.int (nI 0)), none, none, none]) rfl ?_
      refine lr_run1 (Nat.zero_le d) ?_ 49 0 b σ hR (fun _ _ => rfl) Cp.z (by omega)
      intro b1 σ1 R1 B1 e1
      refine x_iconst (v := nI 0) dX8_run_53 (by decide) ?_
      refine x_istore_n dX8_run_54 (by decide) rfl ?_
      refine x_lv (lv' := [some (.ref 1000), some (.int (nI cnt)), some (.int w), some (.int (nI 0)), none, none, none]) rfl ?_
      refine x_iconst (v := nI 1) dX8_run_55 (by decide) ?_
      refine x_istore dX8_run_56 (by decide) rfl ?_
      refine x_lv (lv' := [some (.ref 1000), some (.int (nI cnt)), some (.int w), some (.int (nI 0)), some (.int (nI 1)), none, none]) rfl ?_
      have W1 : BW a b1 rr n K N W D (-1) ru L S lf jf := ⟨hC.fr9 B1, hT.setB (B1 0 (by decide)) (B1 1 (by decide))⟩
      refine lr_run2 (a0 := a) (b0 := b1) hc20 (R := (runS rr n K N W S lf jf cnt D)) (Nat.le_trans (by decide) hd) ?_ cnt 0 D a tw b1 σ1 R1 W1 hg hz (by rw [Nat.zero_add]) FrR.rf (fun _ _ _ _ => rfl) (by omega)
      intro a3 tw3 b3 σ3 is3 R3 C3 A3 B3
      generalize hhe : (runS rr n K N W S lf jf cnt D).1 = he9
      refine x_iload_n dX8_run_115 rfl ?_
      refine x_ifT_ne (p := w.toInt) (tgt := 123) rfl dX8_run_116 (by decide) (fun hv121 => ?_) (fun hv121 => ?_)
      · refine x_iload_n dX8_run_123 rfl ?_
        refine x_iconst (v := nI 1) dX8_run_124 (by decide) ?_
        refine x_icmpT_ne (p := w.toInt) (q := ((1 : Nat) : Int)) (tgt := 135) rfl (nI_toInt (by omega)) dX8_run_125 (by decide) (fun hv122 => ?_) (fun hv122 => ?_)
        · refine x_aload_n dX8_run_135 rfl ?_
          refine x_callV m_X8_ruined l_X8_372 (r_ruined R3 C3) rfl R3.2.1 (by omega) rfl rfl (Nat.le_of_ble_eq_true rfl) ⟨Nat.le_refl _, Nat.le_refl _⟩ dX8_run_136 (fun r123 s123 q123 => ?_)
          obtain ⟨rfl, eq123⟩ := q123
          obtain rfl := eq123.symm
          refine x_stk (st' := [.int (nI ((ruinS (runS rr n K N W S lf jf cnt D).2 n n)))]) rfl ?_
          refine x_istore dX8_run_139 (by decide) rfl ?_
          refine x_lv (lv' := [some (.ref 1000), some (.int (nI cnt)), some (.int w), some (.int (nI he9)), some (.int is3), some (.int (nI ((ruinS (runS rr n K N W S lf jf cnt D).2 n n)))), none]) rfl ?_
          refine x_iconst (v := nI 0) dX8_run_141 (by decide) ?_
          refine x_istore dX8_run_142 (by decide) rfl ?_
          refine x_lv (lv' := [some (.ref 1000), some (.int (nI cnt)), some (.int w), some (.int (nI he9)), some (.int is3), some (.int (nI ((ruinS (runS rr n K N W S lf jf cnt D).2 n n)))), some (.int (nI 0))]) rfl ?_
          have ev : (if w.toInt = 0 then nI he9 else if w.toInt = 1 then nI (allS (runS rr n K N W S lf jf cnt D).2 n n) else nI (ruinS (runS rr n K N W S lf jf cnt D).2 n n)) = nI ((ruinS (runS rr n K N W S lf jf cnt D).2 n n)) := by rw [if_neg (by omega), if_neg (by omega)]
          rw [ev]
          generalize nI ((ruinS (runS rr n K N W S lf jf cnt D).2 n n)) = v9
          refine lr_run3 (Nat.zero_le d) ?_ 49 0 b3 _ R3 (fun _ _ => rfl) Cp.z (by omega)
          intro b5 σ5 R5 B5 e5
          refine x_iload dX8_run_171 rfl ?_
          exact x_iret ⟨Nat.le_refl _, Nat.le_refl _⟩ rfl dX8_run_173 ⟨rfl, _, _, b5, R5, A3, fun j h7 h8 h9 => by
            by_cases e : j = 6
            · rw [e, e5, B3 9 (by decide) (by decide) (by decide), e1]
            · rw [B5 j e, B3 j e h7 h8, B1 j h9]⟩
        · refine x_aload_n dX8_run_128 rfl ?_
          refine x_callV m_X8_owed l_X8_293 (r_owed R3 C3) rfl R3.2.1 (by omega) rfl rfl (Nat.le_of_ble_eq_true rfl) ⟨Nat.le_refl _, Nat.le_refl _⟩ dX8_run_129 (fun r124 s124 q124 => ?_)
          obtain ⟨rfl, eq124⟩ := q124
          obtain rfl := eq124.symm
          refine x_stk (st' := [.int (nI ((allS (runS rr n K N W S lf jf cnt D).2 n n)))]) rfl ?_
          refine x_goto (tgt := 139) dX8_run_132 (by decide) ?_
          refine x_istore dX8_run_139 (by decide) rfl ?_
          refine x_lv (lv' := [some (.ref 1000), some (.int (nI cnt)), some (.int w), some (.int (nI he9)), some (.int is3), some (.int (nI ((allS (runS rr n K N W S lf jf cnt D).2 n n)))), none]) rfl ?_
          refine x_iconst (v := nI 0) dX8_run_141 (by decide) ?_
          refine x_istore dX8_run_142 (by decide) rfl ?_
          refine x_lv (lv' := [some (.ref 1000), some (.int (nI cnt)), some (.int w), some (.int (nI he9)), some (.int is3), some (.int (nI ((allS (runS rr n K N W S lf jf cnt D).2 n n)))), some (.int (nI 0))]) rfl ?_
          have ev : (if w.toInt = 0 then nI he9 else if w.toInt = 1 then nI (allS (runS rr n K N W S lf jf cnt D).2 n n) else nI (ruinS (runS rr n K N W S lf jf cnt D).2 n n)) = nI ((allS (runS rr n K N W S lf jf cnt D).2 n n)) := by rw [if_neg (by omega), if_pos (by omega)]
          rw [ev]
          generalize nI ((allS (runS rr n K N W S lf jf cnt D).2 n n)) = v9
          refine lr_run3 (Nat.zero_le d) ?_ 49 0 b3 _ R3 (fun _ _ => rfl) Cp.z (by omega)
          intro b5 σ5 R5 B5 e5
          refine x_iload dX8_run_171 rfl ?_
          exact x_iret ⟨Nat.le_refl _, Nat.le_refl _⟩ rfl dX8_run_173 ⟨rfl, _, _, b5, R5, A3, fun j h7 h8 h9 => by
            by_cases e : j = 6
            · rw [e, e5, B3 9 (by decide) (by decide) (by decide), e1]
            · rw [B5 j e, B3 j e h7 h8, B1 j h9]⟩
      · refine x_iload_n dX8_run_119 rfl ?_
        refine x_goto (tgt := 139) dX8_run_120 (by decide) ?_
        refine x_istore dX8_run_139 (by decide) rfl ?_
        refine x_lv (lv' := [some (.ref 1000), some (.int (nI cnt)), some (.int w), some (.int (nI he9)), some (.int is3), some (.int (nI he9)), none]) rfl ?_
        refine x_iconst (v := nI 0) dX8_run_141 (by decide) ?_
        refine x_istore dX8_run_142 (by decide) rfl ?_
        refine x_lv (lv' := [some (.ref 1000), some (.int (nI cnt)), some (.int w), some (.int (nI he9)), some (.int is3), some (.int (nI he9)), some (.int (nI 0))]) rfl ?_
        have ev : (if w.toInt = 0 then nI he9 else if w.toInt = 1 then nI (allS (runS rr n K N W S lf jf cnt D).2 n n) else nI (ruinS (runS rr n K N W S lf jf cnt D).2 n n)) = nI he9 := by rw [if_pos (by omega)]
        rw [ev]
        refine lr_run3 (Nat.zero_le d) ?_ 49 0 b3 _ R3 (fun _ _ => rfl) Cp.z (by omega)
        intro b5 σ5 R5 B5 e5
        refine x_iload dX8_run_171 rfl ?_
        exact x_iret ⟨Nat.le_refl _, Nat.le_refl _⟩ rfl dX8_run_173 ⟨rfl, _, _, b5, R5, A3, fun j h7 h8 h9 => by
          by_cases e : j = 6
          · rw [e, e5, B3 9 (by decide) (by decide) (by decide), e1]
          · rw [B5 j e, B3 j e h7 h8, B1 j h9]⟩
    · exact absurd hw hv4
set_option maxHeartbeats 4000000 in
theorem r_run_b {σ0 σ : ZS} {a : Nat → Int32} {tw : Int64} {b : Nat → List Int32} {rr n : Nat} {K N : List Nat} {W : List Int32} {D : List Nat} {ru : Nat} {L S : List Nat} {lf jf : Nat} (hR : RM σ0 σ a tw b) (hW : BW a b rr n K N W D (-1) ru L S lf jf) {x w : Int32} (hb : ¬ (0 ≤ x.toInt ∧ x.toInt ≤ 20) ∨ ¬ (0 ≤ w.toInt ∧ w.toInt ≤ 2)) : Cn 3 M_X8_run 0 0 [.ref 1000, .int x, .int w] σ (fun r9 σ' => r9 = some (.int (-2)) ∧ σ' = σ) := by
  obtain ⟨hC, hT⟩ := id hW
  obtain ⟨c7, hrr, c13, hn7, c14, cK, cN, cW, cD, hN7, hW7, hD49, hK5, hN9, hD999⟩ := id hC
  refine Cn.intro (lv0 := [some (.ref 1000), some (.int x), some (.int w), none, none, none, none]) rfl (Nat.le_of_ble_eq_true rfl) rfl (fun d hd => ?_)
  refine x_iload_n dX8_run_0 rfl ?_
  refine x_i2l dX8_run_1 ?_
  refine x_lconst (v := 0) dX8_run_2 (by decide) ?_
  refine x_ldc2 (v := (20)) cl_X8_366 dX8_run_3 ?_
  refine x_callS m_X8_in l_X8_85 (r_in (p := x.toInt) (q := 0) (r := (20)) (tL rfl) (by decide) (by decide)) (by omega) rfl rfl (Nat.le_of_ble_eq_true rfl) ⟨Nat.le_refl _, Nat.le_refl _⟩ dX8_run_6 (fun r1 s1 q1 => ?_)
  obtain ⟨rfl, eq1⟩ := q1
  obtain rfl := eq1.symm
  refine x_stk (st' := [.int (bI (decide (0 ≤ x.toInt ∧ x.toInt ≤ (20))))]) rfl ?_
  refine x_ifP_eq (P := 0 ≤ x.toInt ∧ x.toInt ≤ (20)) inferInstance (tgt := 24) dX8_run_9 (by decide) (fun hv2 => ?_) (fun hv2 => ?_)
  · refine x_bipush (v := (-2)) dX8_run_24 (by decide) ?_
    exact x_iret ⟨Nat.le_refl _, Nat.le_refl _⟩ rfl dX8_run_26 ⟨rfl, rfl⟩
  · refine x_iload_n dX8_run_12 rfl ?_
    refine x_i2l dX8_run_13 ?_
    refine x_lconst (v := 0) dX8_run_14 (by decide) ?_
    refine x_ldc2 (v := (2)) cl_X8_302 dX8_run_15 ?_
    refine x_callS m_X8_in l_X8_85 (r_in (p := w.toInt) (q := 0) (r := (2)) (tL rfl) (by decide) (by decide)) (by omega) rfl rfl (Nat.le_of_ble_eq_true rfl) ⟨Nat.le_refl _, Nat.le_refl _⟩ dX8_run_18 (fun r3 s3 q3 => ?_)
    obtain ⟨rfl, eq3⟩ := q3
    obtain rfl := eq3.symm
    refine x_stk (st' := [.int (bI (decide (0 ≤ w.toInt ∧ w.toInt ≤ (2))))]) rfl ?_
    refine x_ifP_ne (P := 0 ≤ w.toInt ∧ w.toInt ≤ (2)) inferInstance (tgt := 27) dX8_run_21 (by decide) (fun hv4 => ?_) (fun hv4 => ?_)
    · exfalso; omega
    · refine x_bipush (v := (-2)) dX8_run_24 (by decide) ?_
      exact x_iret ⟨Nat.le_refl _, Nat.le_refl _⟩ rfl dX8_run_26 ⟨rfl, rfl⟩
