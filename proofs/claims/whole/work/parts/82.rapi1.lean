/-! the reference: is there any, which is best -/
theorem ofI {x : Int32} {z : Int} (h : x.toInt = z) : x = Int32.ofInt z := by rw [← h, Int32.ofInt_toInt]
theorem ofN {x : Int32} {k : Nat} (h : x.toInt = (k : Int)) : x = nI k := by rw [ofI h]; rfl
theorem r_seekAny {σ0 σ : ZS} {a : Nat → Int32} {tw : Int64} {b : Nat → List Int32} {rr n : Nat} {K N : List Nat} {W : List Int32} {D : List Nat} {fr : Int32} {ru : Nat} {L S : List Nat} {lf jf : Nat} (hR : RM σ0 σ a tw b) (hW : BW a b rr n K N W D fr ru L S lf jf) {A : Nat} (hA8 : A < 128) (hbits : ∀ p, A.testBit p = true → p < n) (hg : Dg D) : Cn 180 M_X8_seeksAll 0 0 [.ref 1000, .int (nI A), .int (nI 1), .int (nI 0)] σ (fun r9 σ' => r9 = none ∧ ∃ (a' : Nat → Int32) (tw' : Int64) (b' : Nat → List Int32), RM σ0 σ' a' tw' b' ∧ FrR a a' ∧ Fq b b' ∧ (0 < (a' 33).toInt ↔ 0 < (lwf (decide (rr = 1)) A (wlS K N D n A fr)).length)) := by
  have h := r_seeksAll (oo := true) (wo := false) hR hW hA8 hbits
  rw [bI_t, bI_f] at h
  refine h.mono (fun r9 σ' hq => ?_)
  obtain ⟨h1, a', tw', b', h2, h3, h4, h5, h6⟩ := hq
  exact ⟨h1, a', tw', b', h2, h3, h4, by rw [h6.1]; exact ref_any hW.1.2.1 hW.1.2.2.2.1 hA8 hbits hg⟩
theorem r_seekBest {σ0 σ : ZS} {a : Nat → Int32} {tw : Int64} {b : Nat → List Int32} {rr n : Nat} {K N : List Nat} {W : List Int32} {D : List Nat} {fr : Int32} {ru : Nat} {L S : List Nat} {lf jf : Nat} (hR : RM σ0 σ a tw b) (hW : BW a b rr n K N W D fr ru L S lf jf) {A : Nat} (hA8 : A < 128) (hbits : ∀ p, A.testBit p = true → p < n) (hg : Dg D) {wo : Bool} : Cn 180 M_X8_seeksAll 0 0 [.ref 1000, .int (nI A), .int (nI 0), .int (bI wo)] σ (fun r9 σ' => r9 = none ∧ ∃ (a' : Nat → Int32) (tw' : Int64) (b' : Nat → List Int32), RM σ0 σ' a' tw' b' ∧ FrR a a' ∧ Fq b b' ∧ a' 31 = nI (popc A) ∧ FndQ (decide (rr = 1)) (popc A) n D (vW false S lf jf K N W D (popc A)) (vW true S lf jf K N W D (popc A)) (lwf (decide (rr = 1)) A (wlS K N D n A fr)) wo (a' 33, a' 34, a' 35, a' 36, a' 37)) := by
  have h := r_seeksAll (oo := false) (wo := wo) hR hW hA8 hbits
  rw [bI_f] at h
  refine h.mono (fun r9 σ' hq => ?_)
  obtain ⟨h1, a', tw', b', h2, h3, h4, h5, h6⟩ := hq
  obtain ⟨c1, c2, c3, c4, c5⟩ := h6
  refine ⟨h1, a', tw', b', h2, h3, h4, h5, ?_⟩
  rw [c1, c2, c3, c4, c5]
  obtain ⟨c7, hrr, c13, hn7, c14, cK, cN, cW, cD, hN7, hW7, hD49, hK5, hN9, hD999⟩ := hW.1
  exact ref_best hrr hn7 hA8 hbits hN9 ⟨hD49, hD999⟩ hg
set_option maxHeartbeats 4000000 in
theorem r_isAny {σ0 σ : ZS} {a : Nat → Int32} {tw : Int64} {b : Nat → List Int32} {rr n : Nat} {K N : List Nat} {W : List Int32} {D : List Nat} {fr : Int32} {ru : Nat} {L S : List Nat} {lf jf : Nat} (hR : RM σ0 σ a tw b) (hW : BW a b rr n K N W D fr ru L S lf jf) {A : Nat} (hA8 : A < 128) (hbits : ∀ p, A.testBit p = true → p < n) (hg : Dg D) : Cn 181 M_X8_isAny 0 0 [.ref 1000, .int (nI A)] σ (fun r9 σ' => ∃ (a' : Nat → Int32) (tw' : Int64) (b' : Nat → List Int32), r9 = some (.int (bI (decide (0 < (lwf (decide (rr = 1)) A (wlS K N D n A fr)).length)))) ∧ RM σ0 σ' a' tw' b' ∧ FrR a a' ∧ Fq b b') := by
  obtain ⟨hC, hT⟩ := id hW
  obtain ⟨c7, hrr, c13, hn7, c14, cK, cN, cW, cD, hN7, hW7, hD49, hK5, hN9, hD999⟩ := id hC
  refine Cn.intro (lv0 := [some (.ref 1000), some (.int (nI A))]) rfl (Nat.le_of_ble_eq_true rfl) rfl (fun d hd => ?_)
  refine x_aload_n dX8_isAny_0 rfl ?_
  refine x_iload_n dX8_isAny_1 rfl ?_
  refine x_iconst (v := nI 1) dX8_isAny_2 (by decide) ?_
  refine x_iconst (v := nI 0) dX8_isAny_3 (by decide) ?_
  refine x_callV m_X8_seeksAll l_X8_359 (r_seekAny hR hW hA8 hbits hg) rfl hR.2.1 (by omega) rfl rfl (Nat.le_of_ble_eq_true rfl) ⟨Nat.le_refl _, Nat.le_refl _⟩ dX8_isAny_4 (fun r1 s1 q1 => ?_)
  obtain ⟨rfl, a1, tw1, b1, R1, A1, B1, z1⟩ := q1
  refine x_stk (st' := []) rfl ?_
  refine x_aload_n dX8_isAny_7 rfl ?_
  refine x_rget f_X8_317 R1 rfl dX8_isAny_8 ?_
  refine x_ifT_le (p := ((a1 33)).toInt) (tgt := 18) rfl dX8_isAny_11 (by decide) (fun hv2 => ?_) (fun hv2 => ?_)
  · refine x_iconst (v := nI 0) dX8_isAny_18 (by decide) ?_
    exact x_zret ⟨Nat.le_refl _, Nat.le_refl _⟩ rfl (by decide) dX8_isAny_19 ⟨_, _, _, by rw [bI_0 (by omega)], R1, A1, B1⟩
  · refine x_iconst (v := nI 1) dX8_isAny_14 (by decide) ?_
    refine x_goto (tgt := 19) dX8_isAny_15 (by decide) ?_
    exact x_zret ⟨Nat.le_refl _, Nat.le_refl _⟩ rfl (by decide) dX8_isAny_19 ⟨_, _, _, by rw [bI_1 (by omega)], R1, A1, B1⟩
def TV (r : Bool) (m n : Nat) (D : List Nat) (v0 v1 : Nat → Nat → Nat → Int32) (LL : List (List Nat)) (w : Int) : Int32 :=
  if w = 0 then nI LL.length else if w = 1 then (match bstB (totB v0 r m) LL with
  | none => nI 0
  | some y => nI (dgS y m)) else if w = 2 then (match bstB (totB v0 r m) LL with
  | none => nI 0
  | some y => Int32.ofInt (totB v0 r m y)) else if w = 3 then (match bstB (totB v1 r m) LL with
  | none => nI 0
  | some y => nI (dgS y m)) else if w = 4 then (match bstB (totB v1 r m) LL with
  | none => -1
  | some y => Int32.ofInt (((allS D n n : Nat) : Int) - totB v1 r m y)) else -2
theorem FndQ.tv {r : Bool} {m n : Nat} {D : List Nat} {v0 v1 : Nat → Nat → Nat → Int32} {LL : List (List Nat)} {wo : Bool} {q : Q5T} (h : FndQ r m n D v0 v1 LL wo q) : q.1 = TV r m n D v0 v1 LL 0 ∧ q.2.1 = TV r m n D v0 v1 LL 1 ∧ q.2.2.1 = TV r m n D v0 v1 LL 2 ∧ (wo = true → q.2.2.2.1 = TV r m n D v0 v1 LL 3 ∧ q.2.2.2.2 = TV r m n D v0 v1 LL 4) := by
  obtain ⟨h1, h2, h3⟩ := h
  refine ⟨ofN h1, ?_, ?_, fun hw => ?_⟩
  · show q.2.1 = (match bstB (totB v0 r m) LL with | none => nI 0 | some y => nI (dgS y m))
    cases hx : bstB (totB v0 r m) LL with
    | none => rw [hx] at h2; exact h2.1
    | some y => rw [hx] at h2; exact h2.1
  · show q.2.2.1 = (match bstB (totB v0 r m) LL with | none => nI 0 | some y => Int32.ofInt (totB v0 r m y))
    cases hx : bstB (totB v0 r m) LL with
    | none => rw [hx] at h2; exact h2.2
    | some y => rw [hx] at h2; exact ofI h2.2
  · have h3 := h3 hw
    refine ⟨?_, ?_⟩
    · show q.2.2.2.1 = (match bstB (totB v1 r m) LL with | none => nI 0 | some y => nI (dgS y m))
      cases hx : bstB (totB v1 r m) LL with
      | none => rw [hx] at h3; exact h3.1
      | some y => rw [hx] at h3; exact h3.1
    · show q.2.2.2.2 = (match bstB (totB v1 r m) LL with | none => -1 | some y => Int32.ofInt (((allS D n n : Nat) : Int) - totB v1 r m y))
      cases hx : bstB (totB v1 r m) LL with
      | none => rw [hx] at h3; exact h3.2
      | some y => rw [hx] at h3; exact ofI h3.2
theorem TV_bad {r : Bool} {m n : Nat} {D : List Nat} {v0 v1 : Nat → Nat → Nat → Int32} {LL : List (List Nat)} {w : Int} (h : ¬ (0 ≤ w ∧ w ≤ 4)) : TV r m n D v0 v1 LL w = -2 := by
  unfold TV
  rw [if_neg (by omega), if_neg (by omega), if_neg (by omega), if_neg (by omega), if_neg (by omega)]
set_option maxHeartbeats 4000000 in
theorem r_tables {σ0 σ : ZS} {a : Nat → Int32} {tw : Int64} {b : Nat → List Int32} {rr n : Nat} {K N : List Nat} {W : List Int32} {D : List Nat} {fr : Int32} {ru : Nat} {L S : List Nat} {lf jf : Nat} (hR : RM σ0 σ a tw b) (hW : BW a b rr n K N W D fr ru L S lf jf) (hg : Dg D) {x : Int32} : Cn 182 M_X8_tables 0 0 [.ref 1000, .int x] σ (fun r9 σ' => ∃ (a' : Nat → Int32) (tw' : Int64) (b' : Nat → List Int32), r9 = some (.int (TV (decide (rr = 1)) n n D (vW false S lf jf K N W D n) (vW true S lf jf K N W D n) (lwf (decide (rr = 1)) (2 ^ n - 1) (wlS K N D n (2 ^ n - 1) fr)) x.toInt)) ∧ RM σ0 σ' a' tw' b' ∧ FrR a a' ∧ Fq b b') := by
  obtain ⟨hC, hT⟩ := id hW
  obtain ⟨c7, hrr, c13, hn7, c14, cK, cN, cW, cD, hN7, hW7, hD49, hK5, hN9, hD999⟩ := id hC
  have hA8 := (all_bit n hn7).2
  have hpc := (all_bit n hn7).1
  have hbits : ∀ p, (2 ^ n - 1).testBit p = true → p < n := fun p hp => all_in hp
  refine Cn.intro (lv0 := [some (.ref 1000), some (.int x)]) rfl (Nat.le_of_ble_eq_true rfl) rfl (fun d hd => ?_)
  refine x_iload_n dX8_tables_0 rfl ?_
  refine x_i2l dX8_tables_1 ?_
  refine x_lconst (v := 0) dX8_tables_2 (by decide) ?_
  refine x_ldc2 (v := (4)) cl_X8_354 dX8_tables_3 ?_
  refine x_callS m_X8_in l_X8_85 (r_in (p := (x).toInt) (q := 0) (r := (4)) (tL rfl) (by decide) (by decide)) (by omega) rfl rfl (Nat.le_of_ble_eq_true rfl) ⟨Nat.le_refl _, Nat.le_refl _⟩ dX8_tables_6 (fun r1 s1 q1 => ?_)
  obtain ⟨rfl, eq1⟩ := q1
  obtain rfl := eq1.symm
  refine x_stk (st' := [.int (bI (decide (0 ≤ (x).toInt ∧ (x).toInt ≤ (4))))]) rfl ?_
  refine x_ifP_ne (P := 0 ≤ (x).toInt ∧ (x).toInt ≤ (4)) inferInstance (tgt := 15) dX8_tables_9 (by decide) (fun hv2 => ?_) (fun hv2 => ?_)
  · refine x_aload_n dX8_tables_15 rfl ?_
    refine x_aload_n dX8_tables_16 rfl ?_
    refine x_callV m_X8_everybody l_X8_356 (r_everybody hR hC) rfl hR.2.1 (by omega) rfl rfl (Nat.le_of_ble_eq_true rfl) ⟨Nat.le_refl _, Nat.le_refl _⟩ dX8_tables_17 (fun r3 s3 q3 => ?_)
    obtain ⟨rfl, eq3⟩ := q3
    obtain rfl := eq3.symm
    refine x_stk (st' := [.int (nI ((2 ^ n - 1))), .ref 1000]) rfl ?_
    refine x_iconst (v := nI 0) dX8_tables_20 (by decide) ?_
    refine x_iload_n dX8_tables_21 rfl ?_
    refine x_iconst (v := nI 2) dX8_tables_22 (by decide) ?_
    refine x_icmpT_le (p := (x).toInt) (q := ((2 : Nat) : Int)) (tgt := 30) rfl (nI_toInt (by omega)) dX8_tables_23 (by decide) (fun hv4 => ?_) (fun hv4 => ?_)
    · refine x_iconst (v := nI 0) dX8_tables_30 (by decide) ?_
      refine x_topi (y := bI (decide (2 < x.toInt))) (bI_0 (by omega)).symm ?_
      refine x_callV m_X8_seeksAll l_X8_359 (r_seekBest hR hW hA8 hbits hg) rfl hR.2.1 (by omega) rfl rfl (Nat.le_of_ble_eq_true rfl) ⟨Nat.le_refl _, Nat.le_refl _⟩ dX8_tables_31 (fun r5 s5 q5 => ?_)
      obtain ⟨rfl, a5, tw5, b5, R5, A5, B5, m5, z5⟩ := q5
      refine x_stk (st' := []) rfl ?_
      refine x_iload_n dX8_tables_34 rfl ?_
      refine x_ifT_ne (p := (x).toInt) (tgt := 45) rfl dX8_tables_35 (by decide) (fun hv6 => ?_) (fun hv6 => ?_)
      · refine x_iload_n dX8_tables_45 rfl ?_
        refine x_iconst (v := nI 1) dX8_tables_46 (by decide) ?_
        refine x_icmpT_ne (p := (x).toInt) (q := ((1 : Nat) : Int)) (tgt := 57) rfl (nI_toInt (by omega)) dX8_tables_47 (by decide) (fun hv7 => ?_) (fun hv7 => ?_)
        · refine x_iload_n dX8_tables_57 rfl ?_
          refine x_iconst (v := nI 2) dX8_tables_58 (by decide) ?_
          refine x_icmpT_ne (p := (x).toInt) (q := ((2 : Nat) : Int)) (tgt := 69) rfl (nI_toInt (by omega)) dX8_tables_59 (by decide) (fun hv8 => ?_) (fun hv8 => ?_)
          · refine x_iload_n dX8_tables_69 rfl ?_
            refine x_iconst (v := nI 3) dX8_tables_70 (by decide) ?_
            refine x_icmpT_ne (p := (x).toInt) (q := ((3 : Nat) : Int)) (tgt := 81) rfl (nI_toInt (by omega)) dX8_tables_71 (by decide) (fun hv9 => ?_) (fun hv9 => ?_)
            · refine x_aload_n dX8_tables_81 rfl ?_
              refine x_rget f_X8_329 R5 rfl dX8_tables_82 ?_
              exact x_iret ⟨Nat.le_refl _, Nat.le_refl _⟩ rfl dX8_tables_85 ⟨_, _, _, by rw [hpc] at z5; rw [show x.toInt = 4 by omega]; exact congrArg (fun u => some (Value.int u)) ((z5.tv.2.2.2 (decide_eq_true (by omega))).2), R5, A5, B5⟩
            · refine x_aload_n dX8_tables_74 rfl ?_
              refine x_rget f_X8_326 R5 rfl dX8_tables_75 ?_
              refine x_goto (tgt := 85) dX8_tables_78 (by decide) ?_
              exact x_iret ⟨Nat.le_refl _, Nat.le_refl _⟩ rfl dX8_tables_85 ⟨_, _, _, by rw [hpc] at z5; rw [show x.toInt = 3 by omega]; exact congrArg (fun u => some (Value.int u)) ((z5.tv.2.2.2 (decide_eq_true (by omega))).1), R5, A5, B5⟩
          · refine x_aload_n dX8_tables_62 rfl ?_
            refine x_rget f_X8_323 R5 rfl dX8_tables_63 ?_
            refine x_goto (tgt := 85) dX8_tables_66 (by decide) ?_
            exact x_iret ⟨Nat.le_refl _, Nat.le_refl _⟩ rfl dX8_tables_85 ⟨_, _, _, by rw [hpc] at z5; rw [show x.toInt = 2 by omega]; exact congrArg (fun u => some (Value.int u)) (z5.tv.2.2.1), R5, A5, B5⟩
        · refine x_aload_n dX8_tables_50 rfl ?_
          refine x_rget f_X8_320 R5 rfl dX8_tables_51 ?_
          refine x_goto (tgt := 85) dX8_tables_54 (by decide) ?_
          exact x_iret ⟨Nat.le_refl _, Nat.le_refl _⟩ rfl dX8_tables_85 ⟨_, _, _, by rw [hpc] at z5; rw [show x.toInt = 1 by omega]; exact congrArg (fun u => some (Value.int u)) (z5.tv.2.1), R5, A5, B5⟩
      · refine x_aload_n dX8_tables_38 rfl ?_
        refine x_rget f_X8_317 R5 rfl dX8_tables_39 ?_
        refine x_goto (tgt := 85) dX8_tables_42 (by decide) ?_
        exact x_iret ⟨Nat.le_refl _, Nat.le_refl _⟩ rfl dX8_tables_85 ⟨_, _, _, by rw [hpc] at z5; rw [show x.toInt = 0 by omega]; exact congrArg (fun u => some (Value.int u)) (z5.tv.1), R5, A5, B5⟩
    · refine x_iconst (v := nI 1) dX8_tables_26 (by decide) ?_
      refine x_goto (tgt := 31) dX8_tables_27 (by decide) ?_
      refine x_topi (y := bI (decide (2 < x.toInt))) (bI_1 (by omega)).symm ?_
      refine x_callV m_X8_seeksAll l_X8_359 (r_seekBest hR hW hA8 hbits hg) rfl hR.2.1 (by omega) rfl rfl (Nat.le_of_ble_eq_true rfl) ⟨Nat.le_refl _, Nat.le_refl _⟩ dX8_tables_31 (fun r10 s10 q10 => ?_)
      obtain ⟨rfl, a10, tw10, b10, R10, A10, B10, m10, z10⟩ := q10
      refine x_stk (st' := []) rfl ?_
      refine x_iload_n dX8_tables_34 rfl ?_
      refine x_ifT_ne (p := (x).toInt) (tgt := 45) rfl dX8_tables_35 (by decide) (fun hv11 => ?_) (fun hv11 => ?_)
      · refine x_iload_n dX8_tables_45 rfl ?_
        refine x_iconst (v := nI 1) dX8_tables_46 (by decide) ?_
        refine x_icmpT_ne (p := (x).toInt) (q := ((1 : Nat) : Int)) (tgt := 57) rfl (nI_toInt (by omega)) dX8_tables_47 (by decide) (fun hv12 => ?_) (fun hv12 => ?_)
        · refine x_iload_n dX8_tables_57 rfl ?_
          refine x_iconst (v := nI 2) dX8_tables_58 (by decide) ?_
          refine x_icmpT_ne (p := (x).toInt) (q := ((2 : Nat) : Int)) (tgt := 69) rfl (nI_toInt (by omega)) dX8_tables_59 (by decide) (fun hv13 => ?_) (fun hv13 => ?_)
          · refine x_iload_n dX8_tables_69 rfl ?_
            refine x_iconst (v := nI 3) dX8_tables_70 (by decide) ?_
            refine x_icmpT_ne (p := (x).toInt) (q := ((3 : Nat) : Int)) (tgt := 81) rfl (nI_toInt (by omega)) dX8_tables_71 (by decide) (fun hv14 => ?_) (fun hv14 => ?_)
            · refine x_aload_n dX8_tables_81 rfl ?_
              refine x_rget f_X8_329 R10 rfl dX8_tables_82 ?_
              exact x_iret ⟨Nat.le_refl _, Nat.le_refl _⟩ rfl dX8_tables_85 ⟨_, _, _, by rw [hpc] at z10; rw [show x.toInt = 4 by omega]; exact congrArg (fun u => some (Value.int u)) ((z10.tv.2.2.2 (decide_eq_true (by omega))).2), R10, A10, B10⟩
            · refine x_aload_n dX8_tables_74 rfl ?_
              refine x_rget f_X8_326 R10 rfl dX8_tables_75 ?_
              refine x_goto (tgt := 85) dX8_tables_78 (by decide) ?_
              exact x_iret ⟨Nat.le_refl _, Nat.le_refl _⟩ rfl dX8_tables_85 ⟨_, _, _, by rw [hpc] at z10; rw [show x.toInt = 3 by omega]; exact congrArg (fun u => some (Value.int u)) ((z10.tv.2.2.2 (decide_eq_true (by omega))).1), R10, A10, B10⟩
          · refine x_aload_n dX8_tables_62 rfl ?_
            refine x_rget f_X8_323 R10 rfl dX8_tables_63 ?_
            refine x_goto (tgt := 85) dX8_tables_66 (by decide) ?_
            exact x_iret ⟨Nat.le_refl _, Nat.le_refl _⟩ rfl dX8_tables_85 ⟨_, _, _, by rw [hpc] at z10; rw [show x.toInt = 2 by omega]; exact congrArg (fun u => some (Value.int u)) (z10.tv.2.2.1), R10, A10, B10⟩
        · refine x_aload_n dX8_tables_50 rfl ?_
          refine x_rget f_X8_320 R10 rfl dX8_tables_51 ?_
          refine x_goto (tgt := 85) dX8_tables_54 (by decide) ?_
          exact x_iret ⟨Nat.le_refl _, Nat.le_refl _⟩ rfl dX8_tables_85 ⟨_, _, _, by rw [hpc] at z10; rw [show x.toInt = 1 by omega]; exact congrArg (fun u => some (Value.int u)) (z10.tv.2.1), R10, A10, B10⟩
      · refine x_aload_n dX8_tables_38 rfl ?_
        refine x_rget f_X8_317 R10 rfl dX8_tables_39 ?_
        refine x_goto (tgt := 85) dX8_tables_42 (by decide) ?_
        exact x_iret ⟨Nat.le_refl _, Nat.le_refl _⟩ rfl dX8_tables_85 ⟨_, _, _, by rw [hpc] at z10; rw [show x.toInt = 0 by omega]; exact congrArg (fun u => some (Value.int u)) (z10.tv.1), R10, A10, B10⟩
  · refine x_bipush (v := (-2)) dX8_tables_12 (by decide) ?_
    exact x_iret ⟨Nat.le_refl _, Nat.le_refl _⟩ rfl dX8_tables_14 ⟨_, _, _, by rw [TV_bad (by omega)], hR, FrR.rf, Fq.rf⟩
def barS (r : Bool) (n : Nat) (K N D : List Nat) : Int32 := if 0 < (lwf r (2 ^ n - 1) (wlS K N D n (2 ^ n - 1) (-1))).length then -1 else oI (ffrom (fun p => decide (0 < (lwf r (2 ^ n - 1) (wlS K N D n (2 ^ n - 1) (nI p))).length)) n 0)
theorem RC.free {a : Nat → Int32} {b : Nat → List Int32} {rr n : Nat} {K N : List Nat} {W : List Int32} {D : List Nat} {fr f2 : Int32} (h : RC a b rr n K N W D fr) : RC (up a 14 f2) b rr n K N W D f2 := by
  obtain ⟨c7, hrr, c13, hn7, c14, r⟩ := h
  exact ⟨c7, hrr, c13, hn7, rfl, r⟩
theorem BW.free {a : Nat → Int32} {b : Nat → List Int32} {rr n : Nat} {K N : List Nat} {W : List Int32} {D : List Nat} {fr : Int32} {ru : Nat} {L S : List Nat} {lf jf : Nat} {f2 : Int32} (h : BW a b rr n K N W D fr ru L S lf jf) : BW (up a 14 f2) b rr n K N W D f2 ru L S lf jf := ⟨h.1.free, h.2⟩
theorem FrR_back {a a' : Nat → Int32} {v w : Int32} (h : FrR (up a 14 v) a') (h14 : a 14 = w) : FrR a (up a' 14 w) := fun k hk => by
  by_cases e : k = 14
  · rw [e, up_eq, h14]
  · rw [up_ne _ _ e, h k hk, up_ne _ _ e]
set_option maxHeartbeats 4000000 in
theorem lr_bars {σ0 : ZS} {a0 : Nat → Int32} {b0 : Nat → List Int32} {rr n : Nat} {K N : List Nat} {W : List Int32} {D : List Nat} {ru : Nat} {L S : List Nat} {lf jf : Nat} (hg : Dg D) (hA8 : 2 ^ n - 1 < 128) (hbits : ∀ p, (2 ^ n - 1).testBit p = true → p < n) {d : Nat} (hd : 182 ≤ d) : ∀ (q k : Nat) (a : Nat → Int32) (tw : Int64) (b : Nat → List Int32) (σ : ZS) (hR : RM σ0 σ a tw b) (hW : BW a b rr n K N W D (-1) ru L S lf jf) (hA : FrR a0 a) (hB : Fq b0 b), k + q = n → X M_X8_bars d 0 0 (fun r9 σ' => ∃ (a' : Nat → Int32) (tw' : Int64) (b' : Nat → List Int32), r9 = some (.int (oI (ffrom (fun p => decide (0 < (lwf (decide (rr = 1)) (2 ^ n - 1) (wlS K N D n (2 ^ n - 1) (nI p))).length)) q k))) ∧ RM σ0 σ' a' tw' b' ∧ FrR a0 a' ∧ Fq b0 b') 0 0 17 [some (.ref 1000), some (.int ((-1))), some (.int (nI k))] [] σ := by
  intro q
  induction q with
  | zero =>
    intro k a tw b σ hR hW hA hB hk
    obtain ⟨hC, hT⟩ := id hW
    obtain ⟨c7, hrr, c13, hn7, c14, cK, cN, cW, cD, hN7, hW7, hD49, hK5, hN9, hD999⟩ := id hC
    refine x_iload_n dX8_bars_17 rfl ?_
    refine x_aload_n dX8_bars_18 rfl ?_
    refine x_rget (v := .int (nI n)) f_X8_82 hR (rg c13) dX8_bars_19 ?_
    refine x_icmpN_ge (tgt := 63) dX8_bars_22 (by decide) (by omega) (by omega) (fun hv1 => ?_) (fun hv1 => ?_)
    · refine x_iload_n dX8_bars_63 rfl ?_
      exact x_iret ⟨Nat.le_refl _, Nat.le_refl _⟩ rfl dX8_bars_64 ⟨_, _, _, by first | rfl | (rw [show q = 0 by omega]; rfl), hR, hA, hB⟩
    · exact absurd hv1 (by omega)
  | succ q ih =>
    intro k a tw b σ hR hW hA hB hk
    obtain ⟨hC, hT⟩ := id hW
    obtain ⟨c7, hrr, c13, hn7, c14, cK, cN, cW, cD, hN7, hW7, hD49, hK5, hN9, hD999⟩ := id hC
    refine x_iload_n dX8_bars_17 rfl ?_
    refine x_aload_n dX8_bars_18 rfl ?_
    refine x_rget (v := .int (nI n)) f_X8_82 hR (rg c13) dX8_bars_19 ?_
    refine x_icmpN_ge (tgt := 63) dX8_bars_22 (by decide) (by omega) (by omega) (fun hv1 => ?_) (fun hv1 => ?_)
    · exact absurd hv1 (by omega)
    · refine x_iload_n dX8_bars_25 rfl ?_
      refine x_iconst (v := (-1)) dX8_bars_26 (by decide) ?_
      refine x_icmpT_ne (p := (-1)) (q := (-1)) (tgt := 63) (by decide) (by decide) dX8_bars_27 (by decide) (fun hv2 => ?_) (fun hv2 => ?_)
      · exact absurd rfl hv2
      · refine x_aload_n dX8_bars_30 rfl ?_
        refine x_iload_n dX8_bars_31 rfl ?_
        refine x_rput (up a 14 (nI k)) tw f_X8_38 hR (by decide) rfl (fun c => ⟨rfl, rfl⟩) dX8_bars_32 (fun sw3 Rw3 => ?_)
        refine x_aload_n dX8_bars_35 rfl ?_
        refine x_aload_n dX8_bars_36 rfl ?_
        refine x_callV m_X8_everybody l_X8_356 (r_everybody Rw3 (hW.free (f2 := nI k)).1) rfl Rw3.2.1 (by omega) rfl rfl (Nat.le_of_ble_eq_true rfl) ⟨Nat.le_refl _, Nat.le_refl _⟩ dX8_bars_37 (fun r4 s4 q4 => ?_)
        obtain ⟨rfl, eq4⟩ := q4
        obtain rfl := eq4.symm
        refine x_stk (st' := [.int (nI ((2 ^ n - 1))), .ref 1000]) rfl ?_
        refine x_callV m_X8_isAny l_X8_363 (r_isAny (fr := (nI k)) Rw3 (hW.free (f2 := nI k)) hA8 hbits hg) rfl Rw3.2.1 (by omega) rfl rfl (Nat.le_of_ble_eq_true rfl) ⟨Nat.le_refl _, Nat.le_refl _⟩ dX8_bars_40 (fun r5 s5 q5 => ?_)
        obtain ⟨a5, tw5, b5, rfl, R5, A5, B5⟩ := q5
        refine x_stk (st' := [.int (bI (decide (0 < (lwf (decide (rr = 1)) (2 ^ n - 1) (wlS K N D n (2 ^ n - 1) (nI k))).length)))]) rfl ?_
        refine x_ifP_eq (P := 0 < (lwf (decide (rr = 1)) (2 ^ n - 1) (wlS K N D n (2 ^ n - 1) (nI k))).length) inferInstance (tgt := 50) dX8_bars_43 (by decide) (fun hv6 => ?_) (fun hv6 => ?_)
        · refine x_iconst (v := (-1)) dX8_bars_50 (by decide) ?_
          refine x_istore_n dX8_bars_51 (by decide) rfl ?_
          refine x_lv (lv' := [some (.ref 1000), some (.int ((-1))), some (.int (nI k))]) rfl ?_
          refine x_aload_n dX8_bars_52 rfl ?_
          refine x_iconst (v := (-1)) dX8_bars_53 (by decide) ?_
          refine x_rput (up a5 14 ((-1))) tw5 f_X8_38 R5 (by decide) rfl (fun c => ⟨rfl, rfl⟩) dX8_bars_54 (fun sw7 Rw7 => ?_)
          refine x_iincN dX8_bars_57 rfl (by decide) rfl ?_
          refine x_lv (lv' := [some (.ref 1000), some (.int ((-1))), some (.int (nI (k + 1)))]) rfl ?_
          refine x_goto (tgt := 17) dX8_bars_60 (by decide) ?_
          rw [ffrom, if_neg (by rw [decide_eq_true_iff]; exact hv6)]
          exact ih (k + 1) _ _ _ sw7 Rw7 ((hW.fr (FrR_back A5 hW.1.2.2.2.2.1) B5)) (hA.tr (FrR_back A5 hW.1.2.2.2.2.1)) (hB.tr B5) (by omega)
        · refine x_iload_n dX8_bars_46 rfl ?_
          refine x_goto (tgt := 51) dX8_bars_47 (by decide) ?_
          refine x_istore_n dX8_bars_51 (by decide) rfl ?_
          refine x_lv (lv' := [some (.ref 1000), some (.int (nI k)), some (.int (nI k))]) rfl ?_
          refine x_aload_n dX8_bars_52 rfl ?_
          refine x_iconst (v := (-1)) dX8_bars_53 (by decide) ?_
          refine x_rput (up a5 14 ((-1))) tw5 f_X8_38 R5 (by decide) rfl (fun c => ⟨rfl, rfl⟩) dX8_bars_54 (fun sw8 Rw8 => ?_)
          refine x_iincN dX8_bars_57 rfl (by decide) rfl ?_
          refine x_lv (lv' := [some (.ref 1000), some (.int (nI k)), some (.int (nI (k + 1)))]) rfl ?_
          refine x_goto (tgt := 17) dX8_bars_60 (by decide) ?_
          refine x_iload_n dX8_bars_17 rfl ?_
          refine x_aload_n dX8_bars_18 rfl ?_
          refine x_rget f_X8_82 Rw8 rfl dX8_bars_19 ?_
          refine x_icmpT_ge (p := ((k + 1 : Nat) : Int)) (q := (((up a5 14 ((-1))) 13)).toInt) (tgt := 63) (nI_toInt (by omega)) rfl dX8_bars_22 (by decide) (fun hv9 => ?_) (fun hv9 => ?_)
          · refine x_iload_n dX8_bars_63 rfl ?_
            exact x_iret ⟨Nat.le_refl _, Nat.le_refl _⟩ rfl dX8_bars_64 ⟨_, _, _, by rw [ffrom, if_pos (by rw [decide_eq_true_iff]; exact hv6)]; rfl, Rw8, hA.tr (FrR_back A5 hW.1.2.2.2.2.1), hB.tr B5⟩
          · refine x_iload_n dX8_bars_25 rfl ?_
            refine x_iconst (v := (-1)) dX8_bars_26 (by decide) ?_
            refine x_icmpT_ne (p := ((k : Nat) : Int)) (q := (-1)) (tgt := 63) (nI_toInt (by omega)) (by decide) dX8_bars_27 (by decide) (fun hv10 => ?_) (fun hv10 => ?_)
            · refine x_iload_n dX8_bars_63 rfl ?_
              exact x_iret ⟨Nat.le_refl _, Nat.le_refl _⟩ rfl dX8_bars_64 ⟨_, _, _, by rw [ffrom, if_pos (by rw [decide_eq_true_iff]; exact hv6)]; rfl, Rw8, hA.tr (FrR_back A5 hW.1.2.2.2.2.1), hB.tr B5⟩
            · exact absurd hv10 (by omega)
set_option maxHeartbeats 4000000 in
theorem r_bars {σ0 σ : ZS} {a : Nat → Int32} {tw : Int64} {b : Nat → List Int32} {rr n : Nat} {K N : List Nat} {W : List Int32} {D : List Nat} {ru : Nat} {L S : List Nat} {lf jf : Nat} (hR : RM σ0 σ a tw b) (hW : BW a b rr n K N W D (-1) ru L S lf jf) (hg : Dg D) : Cn 182 M_X8_bars 0 0 [.ref 1000] σ (fun r9 σ' => ∃ (a' : Nat → Int32) (tw' : Int64) (b' : Nat → List Int32), r9 = some (.int (barS (decide (rr = 1)) n K N D)) ∧ RM σ0 σ' a' tw' b' ∧ FrR a a' ∧ Fq b b') := by
  obtain ⟨hC, hT⟩ := id hW
  obtain ⟨c7, hrr, c13, hn7, c14, cK, cN, cW, cD, hN7, hW7, hD49, hK5, hN9, hD999⟩ := id hC
  have hA8 := (all_bit n hn7).2
  have hpc := (all_bit n hn7).1
  have hbits : ∀ p, (2 ^ n - 1).testBit p = true → p < n := fun p hp => all_in hp
  refine Cn.intro (lv0 := [some (.ref 1000), none, none]) rfl (Nat.le_of_ble_eq_true rfl) rfl (fun d hd => ?_)
  refine x_aload_n dX8_bars_0 rfl ?_
  refine x_aload_n dX8_bars_1 rfl ?_
  refine x_callV m_X8_everybody l_X8_356 (r_everybody hR hC) rfl hR.2.1 (by omega) rfl rfl (Nat.le_of_ble_eq_true rfl) ⟨Nat.le_refl _, Nat.le_refl _⟩ dX8_bars_2 (fun r1 s1 q1 => ?_)
  obtain ⟨rfl, eq1⟩ := q1
  obtain rfl := eq1.symm
  refine x_stk (st' := [.int (nI ((2 ^ n - 1))), .ref 1000]) rfl ?_
  refine x_callV m_X8_isAny l_X8_363 (r_isAny (fr := (-1)) hR hW hA8 hbits hg) rfl hR.2.1 (by omega) rfl rfl (Nat.le_of_ble_eq_true rfl) ⟨Nat.le_refl _, Nat.le_refl _⟩ dX8_bars_5 (fun r2 s2 q2 => ?_)
  obtain ⟨a2, tw2, b2, rfl, R2, A2, B2⟩ := q2
  refine x_stk (st' := [.int (bI (decide (0 < (lwf (decide (rr = 1)) (2 ^ n - 1) (wlS K N D n (2 ^ n - 1) (-1))).length)))]) rfl ?_
  refine x_ifP_eq (P := 0 < (lwf (decide (rr = 1)) (2 ^ n - 1) (wlS K N D n (2 ^ n - 1) (-1))).length) inferInstance (tgt := 13) dX8_bars_8 (by decide) (fun hv3 => ?_) (fun hv3 => ?_)
  · refine x_iconst (v := (-1)) dX8_bars_13 (by decide) ?_
    refine x_istore_n dX8_bars_14 (by decide) rfl ?_
    refine x_lv (lv' := [some (.ref 1000), some (.int ((-1))), none]) rfl ?_
    refine x_iconst (v := nI 0) dX8_bars_15 (by decide) ?_
    refine x_istore_n dX8_bars_16 (by decide) rfl ?_
    refine x_lv (lv' := [some (.ref 1000), some (.int ((-1))), some (.int (nI 0))]) rfl ?_
    rw [barS, if_neg hv3]
    exact lr_bars hg hA8 hbits hd n 0 _ _ _ s2 R2 (hW.fr A2 B2) A2 B2 (by omega)
  · refine x_iconst (v := (-1)) dX8_bars_11 (by decide) ?_
    exact x_iret ⟨Nat.le_refl _, Nat.le_refl _⟩ rfl dX8_bars_12 ⟨_, _, _, by rw [barS, if_pos hv3], R2, A2, B2⟩
