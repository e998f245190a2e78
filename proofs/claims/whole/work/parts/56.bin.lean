/-- a reading method's contract where nothing has failed -/
def CR (kd : Nat) (M : MD) (op : Nat) (L : List Nat) (Tp : List Int32) (lf jf : Int32) (P : Nat → PR) : Prop := ∀ (σ : ZS) (S : List Nat) (p : Nat), RdOk σ L Tp lf jf S p → S.length ≤ p → p ≤ L.length → Cn kd M 0 0 [Value.ref 28, .int (nI op)] σ (fun r9 σ' => r9 = none ∧ RdR σ' L Tp lf jf S (P p) ∧ Fr (fun i => i = 28 ∨ i = 30) σ σ')
set_option maxHeartbeats 4000000 in
theorem lb_term {σ0 : ZS} {S : List Nat} {L : List Nat} {Tp : List Int32} {lf jf : Int32} {sb : Nat → PR} {op kd : Nat} (hT : TxL L Tp) (hC : CR kd M_X3_readOne op L Tp lf jf sb) (hG : ∀ p, p ≤ L.length → Good L p (sb p)) {d : Nat} (hd : kd + 8 ≤ d) : ∀ (f i : Nat) (s : List Nat) (p : Nat) (σ : ZS) (hO : RdOk σ L Tp lf jf (S ++ s) p) (hle : (S ++ s).length ≤ p) (hp : p ≤ L.length) (hF : Fr (fun i => i = 28 ∨ i = 30) σ0 σ), i + f = 160 → X M_X3_readTerm d 0 0 (fun r9 σ' => r9 = none ∧ RdR σ' L Tp lf jf S (pLp op42 L sb f s p) ∧ Fr (fun i => i = 28 ∨ i = 30) σ0 σ') 0 0 7 [some (.ref 28), some (.int (nI op)), some (.int (nI i))] [] σ := by
  intro f
  induction f with
  | zero =>
    intro i s p σ hO hle hp hF hk
    obtain ⟨tv, St, h, hv, hS, hl⟩ := id hO
    obtain ⟨d_0, d_1, d_2, lt1, lt2⟩ := id h
    have hL := hT.1
    have hk9 := tkK_lt (L := L) (p := p)
    refine x_iload_n dX3_readTerm_7 rfl ?_
    refine x_sipush (v := nI 160) dX3_readTerm_8 (by decide) ?_
    refine x_icmpN_ge (tgt := 45) dX3_readTerm_11 (by decide) (by omega) (by omega) (fun hv1 => ?_) (fun hv1 => ?_)
    · exact x_vret ⟨Nat.le_refl _, Nat.le_refl _⟩ rfl dX3_readTerm_45 ⟨rfl, hO, hF⟩
    · exact absurd hv1 (by omega)
  | succ f ih =>
    intro i s p σ hO hle hp hF hk
    obtain ⟨tv, St, h, hv, hS, hl⟩ := id hO
    obtain ⟨d_0, d_1, d_2, lt1, lt2⟩ := id h
    have hL := hT.1
    have hk9 := tkK_lt (L := L) (p := p)
    refine x_iload_n dX3_readTerm_7 rfl ?_
    refine x_sipush (v := nI 160) dX3_readTerm_8 (by decide) ?_
    refine x_icmpN_ge (tgt := 45) dX3_readTerm_11 (by decide) (by omega) (by omega) (fun hv1 => ?_) (fun hv1 => ?_)
    · exact absurd hv1 (by omega)
    · refine x_aload_n dX3_readTerm_14 rfl ?_
      refine x_get (v := .int (nI ((tkK L p)))) f_X3_47 d_0 rfl dX3_readTerm_15 ?_
      refine x_bipush (v := nI 42) dX3_readTerm_18 (by decide) ?_
      refine x_icmpN_ne (tgt := 45) dX3_readTerm_20 (by decide) (by omega) (by omega) (fun hv2 => ?_) (fun hv2 => ?_)
      · exact x_vret ⟨Nat.le_refl _, Nat.le_refl _⟩ rfl dX3_readTerm_45 ⟨rfl, by rw [pLp, if_neg (show ¬ op42 (tkK L p) = true from fun e => hv2 (eq_of_beq e))]; exact hO, hF⟩
      · refine x_aload_n dX3_readTerm_23 rfl ?_
        refine x_callV m_X3_next l_X3_31 (c_next_ok hT hO (by omega)) rfl d_0 (by omega) rfl rfl (Nat.le_of_ble_eq_true rfl) ⟨Nat.le_refl _, Nat.le_refl _⟩ dX3_readTerm_24 (fun r3 s3 q3 => ?_)
        obtain ⟨rfl, hO3, F3⟩ := q3
        obtain ⟨tv3, St3, h3, hv3, hS3, hl3⟩ := id hO3
        obtain ⟨d3_0, d3_1, d3_2, lt13, lt23⟩ := id h3
        have hn3 := tkN_b (show p ≤ L.length by omega)
        have hl93 := lexP_b (show p ≤ L.length by omega)
        refine x_stk (st' := []) rfl ?_
        refine x_aload_n dX3_readTerm_27 rfl ?_
        refine x_iload_n dX3_readTerm_28 rfl ?_
        refine x_callV m_X3_readOne l_X3_83 (hC s3 (S ++ s) (tkN L p) hO3 (by first | omega | (simp only [List.length_append] at *; omega)) (by omega)) rfl d3_0 (by omega) rfl rfl (Nat.le_of_ble_eq_true rfl) ⟨Nat.le_refl _, Nat.le_refl _⟩ dX3_readTerm_29 (fun r4 s4 q4 => ?_)
        obtain ⟨rfl, hR4, F4⟩ := q4
        refine x_stk (st' := []) rfl ?_
        rcases hs4 : sb (tkN L p) with e4 | ⟨a4, b4⟩
        · have hO4 : RdFt s4 L Tp lf jf e4 := by rw [hs4] at hR4; exact hR4
          obtain ⟨ap4, tp4, tv4, sc4, St4, h4, hsc4, hf4⟩ := id hO4
          obtain ⟨d4_0, d4_1, d4_2, lt14, lt24⟩ := id h4
          refine x_aload_n dX3_readTerm_32 rfl ?_
          refine x_sipush (v := nI 20042) dX3_readTerm_33 (by decide) ?_
          refine x_callV m_X3_add l_X3_67 (c_add_ft hT hO4) rfl d4_0 (by omega) rfl rfl (Nat.le_of_ble_eq_true rfl) ⟨Nat.le_refl _, Nat.le_refl _⟩ dX3_readTerm_36 (fun r5 s5 q5 => ?_)
          obtain ⟨rfl, hO5, F5⟩ := q5
          obtain ⟨ap5, tp5, tv5, sc5, St5, h5, hsc5, hf5⟩ := id hO5
          obtain ⟨d5_0, d5_1, d5_2, lt15, lt25⟩ := id h5
          refine x_stk (st' := []) rfl ?_
          refine x_iincN dX3_readTerm_39 rfl (by decide) rfl ?_
          refine x_lv (lv' := [some (.ref 28), some (.int (nI op)), some (.int (nI (i + 1)))]) rfl ?_
          refine x_goto (tgt := 7) dX3_readTerm_42 (by decide) ?_
          refine x_iload_n dX3_readTerm_7 rfl ?_
          refine x_sipush (v := nI 160) dX3_readTerm_8 (by decide) ?_
          refine x_icmpN_ge (tgt := 45) dX3_readTerm_11 (by decide) (by omega) (by omega) (fun hv306 => ?_) (fun hv306 => ?_)
          · exact x_vret ⟨Nat.le_refl _, Nat.le_refl _⟩ rfl dX3_readTerm_45 ⟨rfl, by rw [pLp, if_pos (show op42 (tkK L p) = true from beq_iff_eq.mpr hv2), hs4]; exact hO5, hF.tr (((Fr.rf.tr (F3.mono (fun i hi => by omega))).tr (F4.mono (fun i hi => by omega))).tr (F5.mono (fun i hi => by omega)))⟩
          · refine x_aload_n dX3_readTerm_14 rfl ?_
            refine x_get (v := .int (nI 1)) f_X3_47 d5_0 rfl dX3_readTerm_15 ?_
            refine x_bipush (v := nI 42) dX3_readTerm_18 (by decide) ?_
            refine x_icmpN_ne (tgt := 45) dX3_readTerm_20 (by decide) (by omega) (by omega) (fun hv307 => ?_) (fun hv307 => ?_)
            · exact x_vret ⟨Nat.le_refl _, Nat.le_refl _⟩ rfl dX3_readTerm_45 ⟨rfl, by rw [pLp, if_pos (show op42 (tkK L p) = true from beq_iff_eq.mpr hv2), hs4]; exact hO5, hF.tr (((Fr.rf.tr (F3.mono (fun i hi => by omega))).tr (F4.mono (fun i hi => by omega))).tr (F5.mono (fun i hi => by omega)))⟩
            · exact absurd hv307 (by decide)
        · have hO4 : RdOk s4 L Tp lf jf ((S ++ s) ++ a4) b4 := by rw [hs4] at hR4; exact hR4
          have hg4 := hG (tkN L p) (by omega) _ _ hs4
          obtain ⟨tv4, St4, h4, hv4, hS4, hl4⟩ := id hO4
          obtain ⟨d4_0, d4_1, d4_2, lt14, lt24⟩ := id h4
          have hk94 := tkK_lt (L := L) (p := b4)
          refine x_aload_n dX3_readTerm_32 rfl ?_
          refine x_sipush (v := nI 20042) dX3_readTerm_33 (by decide) ?_
          refine x_callV m_X3_add l_X3_67 (c_add_ok hT hO4 (by first | omega | (simp only [List.length_append] at *; omega))) rfl d4_0 (by omega) rfl rfl (Nat.le_of_ble_eq_true rfl) ⟨Nat.le_refl _, Nat.le_refl _⟩ dX3_readTerm_36 (fun r6 s6 q6 => ?_)
          obtain ⟨rfl, hO6, F6⟩ := q6
          obtain ⟨tv6, St6, h6, hv6, hS6, hl6⟩ := id hO6
          obtain ⟨d6_0, d6_1, d6_2, lt16, lt26⟩ := id h6
          refine x_stk (st' := []) rfl ?_
          refine x_iincN dX3_readTerm_39 rfl (by decide) rfl ?_
          refine x_lv (lv' := [some (.ref 28), some (.int (nI op)), some (.int (nI (i + 1)))]) rfl ?_
          refine x_goto (tgt := 7) dX3_readTerm_42 (by decide) ?_
          rw [pLp, if_pos (show op42 (tkK L p) = true from beq_iff_eq.mpr hv2), hs4]
          exact ih (i + 1) (s ++ a4 ++ [20000 + tkK L p]) b4 s6 (by
            have e := hO6
            rw [show (((S ++ s) ++ a4) ++ [20042]) = S ++ (s ++ a4 ++ [20000 + tkK L p]) by rw [hv2]; simp only [List.append_assoc]] at e
            exact e) (by simp only [List.length_append, List.length_singleton] at *; omega) (by omega) (hF.tr (((Fr.rf.tr (F3.mono (fun i hi => by omega))).tr (F4.mono (fun i hi => by omega))).tr (F6.mono (fun i hi => by omega)))) (by omega)
set_option maxHeartbeats 4000000 in
theorem c_term_ok0 {L : List Nat} {Tp : List Int32} {lf jf : Int32} {sb : Nat → PR} {op kd : Nat} (hT : TxL L Tp) (hC : CR kd M_X3_readOne op L Tp lf jf sb) (hG : ∀ p, p ≤ L.length → Good L p (sb p)) {σ : ZS} {S : List Nat} {p : Nat} (hO : RdOk σ L Tp lf jf S p) (hle : S.length ≤ p) (hp : p ≤ L.length) : Cn (kd + 8) M_X3_readTerm 0 0 [.ref 28, .int (nI op)] σ (fun r9 σ' => r9 = none ∧ RdR σ' L Tp lf jf S (pBin op42 L sb p) ∧ Fr (fun i => i = 28 ∨ i = 30) σ σ') := by
  obtain ⟨tv, St, h, hv, hS, hl⟩ := id hO
  obtain ⟨d_0, d_1, d_2, lt1, lt2⟩ := id h
  have hL := hT.1
  have hk9 := tkK_lt (L := L) (p := p)
  refine Cn.intro (lv0 := [some (.ref 28), some (.int (nI op)), none]) rfl (Nat.le_of_ble_eq_true rfl) rfl (fun d hd => ?_)
  refine x_aload_n dX3_readTerm_0 rfl ?_
  refine x_iload_n dX3_readTerm_1 rfl ?_
  refine x_callV m_X3_readOne l_X3_83 (hC σ S p hO (by first | omega | (simp only [List.length_append] at *; omega)) (by omega)) rfl d_0 (by omega) rfl rfl (Nat.le_of_ble_eq_true rfl) ⟨Nat.le_refl _, Nat.le_refl _⟩ dX3_readTerm_2 (fun r1 s1 q1 => ?_)
  obtain ⟨rfl, hR1, F1⟩ := q1
  refine x_stk (st' := []) rfl ?_
  rcases hs1 : sb p with e1 | ⟨a1, b1⟩
  · have hO1 : RdFt s1 L Tp lf jf e1 := by rw [hs1] at hR1; exact hR1
    obtain ⟨ap1, tp1, tv1, sc1, St1, h1, hsc1, hf1⟩ := id hO1
    obtain ⟨d1_0, d1_1, d1_2, lt11, lt21⟩ := id h1
    refine x_iconst (v := nI 0) dX3_readTerm_5 (by decide) ?_
    refine x_istore_n dX3_readTerm_6 (by decide) rfl ?_
    refine x_lv (lv' := [some (.ref 28), some (.int (nI op)), some (.int (nI 0))]) rfl ?_
    refine x_iload_n dX3_readTerm_7 rfl ?_
    refine x_sipush (v := nI 160) dX3_readTerm_8 (by decide) ?_
    refine x_icmpN_ge (tgt := 45) dX3_readTerm_11 (by decide) (by omega) (by omega) (fun hv2 => ?_) (fun hv2 => ?_)
    · exact absurd hv2 (by decide)
    · refine x_aload_n dX3_readTerm_14 rfl ?_
      refine x_get (v := .int (nI 1)) f_X3_47 d1_0 rfl dX3_readTerm_15 ?_
      refine x_bipush (v := nI 42) dX3_readTerm_18 (by decide) ?_
      refine x_icmpN_ne (tgt := 45) dX3_readTerm_20 (by decide) (by omega) (by omega) (fun hv3 => ?_) (fun hv3 => ?_)
      · exact x_vret ⟨Nat.le_refl _, Nat.le_refl _⟩ rfl dX3_readTerm_45 ⟨rfl, by rw [pBin, hs1]; exact hO1, (Fr.rf.tr (F1.mono (fun i hi => by omega)))⟩
      · exact absurd hv3 (by decide)
  · have hO1 : RdOk s1 L Tp lf jf (S ++ a1) b1 := by rw [hs1] at hR1; exact hR1
    have hg1 := hG p (by omega) _ _ hs1
    obtain ⟨tv1, St1, h1, hv1, hS1, hl1⟩ := id hO1
    obtain ⟨d1_0, d1_1, d1_2, lt11, lt21⟩ := id h1
    have hk91 := tkK_lt (L := L) (p := b1)
    refine x_iconst (v := nI 0) dX3_readTerm_5 (by decide) ?_
    refine x_istore_n dX3_readTerm_6 (by decide) rfl ?_
    refine x_lv (lv' := [some (.ref 28), some (.int (nI op)), some (.int (nI 0))]) rfl ?_
    rw [pBin, hs1]
    exact lb_term hT hC hG hd 160 0 a1 b1 s1 hO1 (by first | omega | (simp only [List.length_append] at *; omega)) (by omega) (Fr.rf.tr (F1.mono (fun i hi => by omega))) (by omega)
theorem c_term_ok {L : List Nat} {Tp : List Int32} {lf jf : Int32} {sb : Nat → PR} {op kd : Nat} (hT : TxL L Tp) (hC : CR kd M_X3_readOne op L Tp lf jf sb) (hG : ∀ p, p ≤ L.length → Good L p (sb p)) : CR (kd + 8) M_X3_readTerm op L Tp lf jf (pBin op42 L sb) := fun σ S p a1 a2 a3 => c_term_ok0 hT hC hG a1 a2 a3
set_option maxHeartbeats 4000000 in
theorem lb_sum {σ0 : ZS} {S : List Nat} {L : List Nat} {Tp : List Int32} {lf jf : Int32} {sb : Nat → PR} {op kd : Nat} (hT : TxL L Tp) (hC : CR kd M_X3_readTerm op L Tp lf jf sb) (hG : ∀ p, p ≤ L.length → Good L p (sb p)) {d : Nat} (hd : kd + 8 ≤ d) : ∀ (f i : Nat) (s : List Nat) (p : Nat) (σ : ZS) (hO : RdOk σ L Tp lf jf (S ++ s) p) (hle : (S ++ s).length ≤ p) (hp : p ≤ L.length) (hF : Fr (fun i => i = 28 ∨ i = 30) σ0 σ), i + f = 160 → X M_X3_readSum d 0 0 (fun r9 σ' => r9 = none ∧ RdR σ' L Tp lf jf S (pLp opPM L sb f s p) ∧ Fr (fun i => i = 28 ∨ i = 30) σ0 σ') 0 0 7 [some (.ref 28), some (.int (nI op)), some (.int (nI i)), none] [] σ := by
  intro f
  induction f with
  | zero =>
    intro i s p σ hO hle hp hF hk
    obtain ⟨tv, St, h, hv, hS, hl⟩ := id hO
    obtain ⟨d_0, d_1, d_2, lt1, lt2⟩ := id h
    have hL := hT.1
    have hk9 := tkK_lt (L := L) (p := p)
    refine x_iload_n dX3_readSum_7 rfl ?_
    refine x_sipush (v := nI 160) dX3_readSum_8 (by decide) ?_
    refine x_icmpN_ge (tgt := 61) dX3_readSum_11 (by decide) (by omega) (by omega) (fun hv1 => ?_) (fun hv1 => ?_)
    · exact x_vret ⟨Nat.le_refl _, Nat.le_refl _⟩ rfl dX3_readSum_61 ⟨rfl, hO, hF⟩
    · exact absurd hv1 (by omega)
  | succ f ih =>
    intro i s p σ hO hle hp hF hk
    obtain ⟨tv, St, h, hv, hS, hl⟩ := id hO
    obtain ⟨d_0, d_1, d_2, lt1, lt2⟩ := id h
    have hL := hT.1
    have hk9 := tkK_lt (L := L) (p := p)
    refine x_iload_n dX3_readSum_7 rfl ?_
    refine x_sipush (v := nI 160) dX3_readSum_8 (by decide) ?_
    refine x_icmpN_ge (tgt := 61) dX3_readSum_11 (by decide) (by omega) (by omega) (fun hv1 => ?_) (fun hv1 => ?_)
    · exact absurd hv1 (by omega)
    · refine x_aload_n dX3_readSum_14 rfl ?_
      refine x_get (v := .int (nI ((tkK L p)))) f_X3_47 d_0 rfl dX3_readSum_15 ?_
      refine x_bipush (v := nI 43) dX3_readSum_18 (by decide) ?_
      refine x_icmpN_eq (tgt := 32) dX3_readSum_20 (by decide) (by omega) (by omega) (fun hv2 => ?_) (fun hv2 => ?_)
      · refine x_aload_n dX3_readSum_32 rfl ?_
        refine x_get (v := .int (nI ((tkK L p)))) f_X3_47 d_0 rfl dX3_readSum_33 ?_
        refine x_istore_n dX3_readSum_36 (by decide) rfl ?_
        refine x_lv (lv' := [some (.ref 28), some (.int (nI op)), some (.int (nI i)), some (.int (nI ((tkK L p))))]) rfl ?_
        refine x_aload_n dX3_readSum_37 rfl ?_
        refine x_callV m_X3_next l_X3_31 (c_next_ok hT hO (by omega)) rfl d_0 (by omega) rfl rfl (Nat.le_of_ble_eq_true rfl) ⟨Nat.le_refl _, Nat.le_refl _⟩ dX3_readSum_38 (fun r3 s3 q3 => ?_)
        obtain ⟨rfl, hO3, F3⟩ := q3
        obtain ⟨tv3, St3, h3, hv3, hS3, hl3⟩ := id hO3
        obtain ⟨d3_0, d3_1, d3_2, lt13, lt23⟩ := id h3
        have hn3 := tkN_b (show p ≤ L.length by omega)
        have hl93 := lexP_b (show p ≤ L.length by omega)
        refine x_stk (st' := []) rfl ?_
        refine x_aload_n dX3_readSum_41 rfl ?_
        refine x_iload_n dX3_readSum_42 rfl ?_
        refine x_callV m_X3_readTerm l_X3_80 (hC s3 (S ++ s) (tkN L p) hO3 (by first | omega | (simp only [List.length_append] at *; omega)) (by omega)) rfl d3_0 (by omega) rfl rfl (Nat.le_of_ble_eq_true rfl) ⟨Nat.le_refl _, Nat.le_refl _⟩ dX3_readSum_43 (fun r4 s4 q4 => ?_)
        obtain ⟨rfl, hR4, F4⟩ := q4
        refine x_stk (st' := []) rfl ?_
        rcases hs4 : sb (tkN L p) with e4 | ⟨a4, b4⟩
        · have hO4 : RdFt s4 L Tp lf jf e4 := by rw [hs4] at hR4; exact hR4
          obtain ⟨ap4, tp4, tv4, sc4, St4, h4, hsc4, hf4⟩ := id hO4
          obtain ⟨d4_0, d4_1, d4_2, lt14, lt24⟩ := id h4
          refine x_aload_n dX3_readSum_46 rfl ?_
          refine x_sipush (v := nI 20000) dX3_readSum_47 (by decide) ?_
          refine x_iload_n dX3_readSum_50 rfl ?_
          refine x_iaddN dX3_readSum_51 ?_
          refine x_callV m_X3_add l_X3_67 (c_add_ft hT hO4) rfl d4_0 (by omega) rfl rfl (Nat.le_of_ble_eq_true rfl) ⟨Nat.le_refl _, Nat.le_refl _⟩ dX3_readSum_52 (fun r5 s5 q5 => ?_)
          obtain ⟨rfl, hO5, F5⟩ := q5
          obtain ⟨ap5, tp5, tv5, sc5, St5, h5, hsc5, hf5⟩ := id hO5
          obtain ⟨d5_0, d5_1, d5_2, lt15, lt25⟩ := id h5
          refine x_stk (st' := []) rfl ?_
          refine x_iincN dX3_readSum_55 rfl (by decide) rfl ?_
          refine x_lv (lv' := [some (.ref 28), some (.int (nI op)), some (.int (nI (i + 1))), some (.int (nI ((tkK L p))))]) rfl ?_
          refine x_goto (tgt := 7) dX3_readSum_58 (by decide) ?_
          refine x_iload_n dX3_readSum_7 rfl ?_
          refine x_sipush (v := nI 160) dX3_readSum_8 (by decide) ?_
          refine x_icmpN_ge (tgt := 61) dX3_readSum_11 (by decide) (by omega) (by omega) (fun hv306 => ?_) (fun hv306 => ?_)
          · exact x_vret ⟨Nat.le_refl _, Nat.le_refl _⟩ rfl dX3_readSum_61 ⟨rfl, by rw [pLp, if_pos (show opPM (tkK L p) = true from opPM_iff.mpr (Or.inl hv2)), hs4]; exact hO5, hF.tr (((Fr.rf.tr (F3.mono (fun i hi => by omega))).tr (F4.mono (fun i hi => by omega))).tr (F5.mono (fun i hi => by omega)))⟩
          · refine x_aload_n dX3_readSum_14 rfl ?_
            refine x_get (v := .int (nI 1)) f_X3_47 d5_0 rfl dX3_readSum_15 ?_
            refine x_bipush (v := nI 43) dX3_readSum_18 (by decide) ?_
            refine x_icmpN_eq (tgt := 32) dX3_readSum_20 (by decide) (by omega) (by omega) (fun hv307 => ?_) (fun hv307 => ?_)
            · exact absurd hv307 (by decide)
            · refine x_aload_n dX3_readSum_23 rfl ?_
              refine x_get (v := .int (nI 1)) f_X3_47 d5_0 rfl dX3_readSum_24 ?_
              refine x_bipush (v := nI 45) dX3_readSum_27 (by decide) ?_
              refine x_icmpN_ne (tgt := 61) dX3_readSum_29 (by decide) (by omega) (by omega) (fun hv308 => ?_) (fun hv308 => ?_)
              · exact x_vret ⟨Nat.le_refl _, Nat.le_refl _⟩ rfl dX3_readSum_61 ⟨rfl, by rw [pLp, if_pos (show opPM (tkK L p) = true from opPM_iff.mpr (Or.inl hv2)), hs4]; exact hO5, hF.tr (((Fr.rf.tr (F3.mono (fun i hi => by omega))).tr (F4.mono (fun i hi => by omega))).tr (F5.mono (fun i hi => by omega)))⟩
              · exact absurd hv308 (by decide)
        · have hO4 : RdOk s4 L Tp lf jf ((S ++ s) ++ a4) b4 := by rw [hs4] at hR4; exact hR4
          have hg4 := hG (tkN L p) (by omega) _ _ hs4
          obtain ⟨tv4, St4, h4, hv4, hS4, hl4⟩ := id hO4
          obtain ⟨d4_0, d4_1, d4_2, lt14, lt24⟩ := id h4
          have hk94 := tkK_lt (L := L) (p := b4)
          refine x_aload_n dX3_readSum_46 rfl ?_
          refine x_sipush (v := nI 20000) dX3_readSum_47 (by decide) ?_
          refine x_iload_n dX3_readSum_50 rfl ?_
          refine x_iaddN dX3_readSum_51 ?_
          refine x_callV m_X3_add l_X3_67 (c_add_ok hT hO4 (by first | omega | (simp only [List.length_append] at *; omega))) rfl d4_0 (by omega) rfl rfl (Nat.le_of_ble_eq_true rfl) ⟨Nat.le_refl _, Nat.le_refl _⟩ dX3_readSum_52 (fun r6 s6 q6 => ?_)
          obtain ⟨rfl, hO6, F6⟩ := q6
          obtain ⟨tv6, St6, h6, hv6, hS6, hl6⟩ := id hO6
          obtain ⟨d6_0, d6_1, d6_2, lt16, lt26⟩ := id h6
          refine x_stk (st' := []) rfl ?_
          refine x_iincN dX3_readSum_55 rfl (by decide) rfl ?_
          refine x_lv (lv' := [some (.ref 28), some (.int (nI op)), some (.int (nI (i + 1))), some (.int (nI ((tkK L p))))]) rfl ?_
          refine x_goto (tgt := 7) dX3_readSum_58 (by decide) ?_
          refine x_drop 3 ?_
          rw [pLp, if_pos (show opPM (tkK L p) = true from opPM_iff.mpr (Or.inl hv2)), hs4]
          exact ih (i + 1) (s ++ a4 ++ [20000 + tkK L p]) b4 s6 (by
            have e := hO6
            rw [show (((S ++ s) ++ a4) ++ [20000 + ((tkK L p))]) = S ++ (s ++ a4 ++ [20000 + tkK L p]) by simp only [List.append_assoc]] at e
            exact e) (by simp only [List.length_append, List.length_singleton] at *; omega) (by omega) (hF.tr (((Fr.rf.tr (F3.mono (fun i hi => by omega))).tr (F4.mono (fun i hi => by omega))).tr (F6.mono (fun i hi => by omega)))) (by omega)
      · refine x_aload_n dX3_readSum_23 rfl ?_
        refine x_get (v := .int (nI ((tkK L p)))) f_X3_47 d_0 rfl dX3_readSum_24 ?_
        refine x_bipush (v := nI 45) dX3_readSum_27 (by decide) ?_
        refine x_icmpN_ne (tgt := 61) dX3_readSum_29 (by decide) (by omega) (by omega) (fun hv7 => ?_) (fun hv7 => ?_)
        · exact x_vret ⟨Nat.le_refl _, Nat.le_refl _⟩ rfl dX3_readSum_61 ⟨rfl, by rw [pLp, if_neg (show ¬ opPM (tkK L p) = true from fun e => by have := opPM_iff.mp e; omega)]; exact hO, hF⟩
        · refine x_aload_n dX3_readSum_32 rfl ?_
          refine x_get (v := .int (nI ((tkK L p)))) f_X3_47 d_0 rfl dX3_readSum_33 ?_
          refine x_istore_n dX3_readSum_36 (by decide) rfl ?_
          refine x_lv (lv' := [some (.ref 28), some (.int (nI op)), some (.int (nI i)), some (.int (nI ((tkK L p))))]) rfl ?_
          refine x_aload_n dX3_readSum_37 rfl ?_
          refine x_callV m_X3_next l_X3_31 (c_next_ok hT hO (by omega)) rfl d_0 (by omega) rfl rfl (Nat.le_of_ble_eq_true rfl) ⟨Nat.le_refl _, Nat.le_refl _⟩ dX3_readSum_38 (fun r8 s8 q8 => ?_)
          obtain ⟨rfl, hO8, F8⟩ := q8
          obtain ⟨tv8, St8, h8, hv8, hS8, hl8⟩ := id hO8
          obtain ⟨d8_0, d8_1, d8_2, lt18, lt28⟩ := id h8
          have hn8 := tkN_b (show p ≤ L.length by omega)
          have hl98 := lexP_b (show p ≤ L.length by omega)
          refine x_stk (st' := []) rfl ?_
          refine x_aload_n dX3_readSum_41 rfl ?_
          refine x_iload_n dX3_readSum_42 rfl ?_
          refine x_callV m_X3_readTerm l_X3_80 (hC s8 (S ++ s) (tkN L p) hO8 (by first | omega | (simp only [List.length_append] at *; omega)) (by omega)) rfl d8_0 (by omega) rfl rfl (Nat.le_of_ble_eq_true rfl) ⟨Nat.le_refl _, Nat.le_refl _⟩ dX3_readSum_43 (fun r9 s9 q9 => ?_)
          obtain ⟨rfl, hR9, F9⟩ := q9
          refine x_stk (st' := []) rfl ?_
          rcases hs9 : sb (tkN L p) with e9 | ⟨a9, b9⟩
          · have hO9 : RdFt s9 L Tp lf jf e9 := by rw [hs9] at hR9; exact hR9
            obtain ⟨ap9, tp9, tv9, sc9, St9, h9, hsc9, hf9⟩ := id hO9
            obtain ⟨d9_0, d9_1, d9_2, lt19, lt29⟩ := id h9
            refine x_aload_n dX3_readSum_46 rfl ?_
            refine x_sipush (v := nI 20000) dX3_readSum_47 (by decide) ?_
            refine x_iload_n dX3_readSum_50 rfl ?_
            refine x_iaddN dX3_readSum_51 ?_
            refine x_callV m_X3_add l_X3_67 (c_add_ft hT hO9) rfl d9_0 (by omega) rfl rfl (Nat.le_of_ble_eq_true rfl) ⟨Nat.le_refl _, Nat.le_refl _⟩ dX3_readSum_52 (fun r10 s10 q10 => ?_)
            obtain ⟨rfl, hO10, F10⟩ := q10
            obtain ⟨ap10, tp10, tv10, sc10, St10, h10, hsc10, hf10⟩ := id hO10
            obtain ⟨d10_0, d10_1, d10_2, lt110, lt210⟩ := id h10
            refine x_stk (st' := []) rfl ?_
            refine x_iincN dX3_readSum_55 rfl (by decide) rfl ?_
            refine x_lv (lv' := [some (.ref 28), some (.int (nI op)), some (.int (nI (i + 1))), some (.int (nI ((tkK L p))))]) rfl ?_
            refine x_goto (tgt := 7) dX3_readSum_58 (by decide) ?_
            refine x_iload_n dX3_readSum_7 rfl ?_
            refine x_sipush (v := nI 160) dX3_readSum_8 (by decide) ?_
            refine x_icmpN_ge (tgt := 61) dX3_readSum_11 (by decide) (by omega) (by omega) (fun hv311 => ?_) (fun hv311 => ?_)
            · exact x_vret ⟨Nat.le_refl _, Nat.le_refl _⟩ rfl dX3_readSum_61 ⟨rfl, by rw [pLp, if_pos (show opPM (tkK L p) = true from opPM_iff.mpr (Or.inr hv7)), hs9]; exact hO10, hF.tr (((Fr.rf.tr (F8.mono (fun i hi => by omega))).tr (F9.mono (fun i hi => by omega))).tr (F10.mono (fun i hi => by omega)))⟩
            · refine x_aload_n dX3_readSum_14 rfl ?_
              refine x_get (v := .int (nI 1)) f_X3_47 d10_0 rfl dX3_readSum_15 ?_
              refine x_bipush (v := nI 43) dX3_readSum_18 (by decide) ?_
              refine x_icmpN_eq (tgt := 32) dX3_readSum_20 (by decide) (by omega) (by omega) (fun hv312 => ?_) (fun hv312 => ?_)
              · exact absurd hv312 (by decide)
              · refine x_aload_n dX3_readSum_23 rfl ?_
                refine x_get (v := .int (nI 1)) f_X3_47 d10_0 rfl dX3_readSum_24 ?_
                refine x_bipush (v := nI 45) dX3_readSum_27 (by decide) ?_
                refine x_icmpN_ne (tgt := 61) dX3_readSum_29 (by decide) (by omega) (by omega) (fun hv313 => ?_) (fun hv313 => ?_)
                · exact x_vret ⟨Nat.le_refl _, Nat.le_refl _⟩ rfl dX3_readSum_61 ⟨rfl, by rw [pLp, if_pos (show opPM (tkK L p) = true from opPM_iff.mpr (Or.inr hv7)), hs9]; exact hO10, hF.tr (((Fr.rf.tr (F8.mono (fun i hi => by omega))).tr (F9.mono (fun i hi => by omega))).tr (F10.mono (fun i hi => by omega)))⟩
                · exact absurd hv313 (by decide)
          · have hO9 : RdOk s9 L Tp lf jf ((S ++ s) ++ a9) b9 := by rw [hs9] at hR9; exact hR9
            have hg9 := hG (tkN L p) (by omega) _ _ hs9
            obtain ⟨tv9, St9, h9, hv9, hS9, hl9⟩ := id hO9
            obtain ⟨d9_0, d9_1, d9_2, lt19, lt29⟩ := id h9
            have hk99 := tkK_lt (L := L) (p := b9)
            refine x_aload_n dX3_readSum_46 rfl ?_
            refine x_sipush (v := nI 20000) dX3_readSum_47 (by decide) ?_
            refine x_iload_n dX3_readSum_50 rfl ?_
            refine x_iaddN dX3_readSum_51 ?_
            refine x_callV m_X3_add l_X3_67 (c_add_ok hT hO9 (by first | omega | (simp only [List.length_append] at *; omega))) rfl d9_0 (by omega) rfl rfl (Nat.le_of_ble_eq_true rfl) ⟨Nat.le_refl _, Nat.le_refl _⟩ dX3_readSum_52 (fun r11 s11 q11 => ?_)
            obtain ⟨rfl, hO11, F11⟩ := q11
            obtain ⟨tv11, St11, h11, hv11, hS11, hl11⟩ := id hO11
            obtain ⟨d11_0, d11_1, d11_2, lt111, lt211⟩ := id h11
            refine x_stk (st' := []) rfl ?_
            refine x_iincN dX3_readSum_55 rfl (by decide) rfl ?_
            refine x_lv (lv' := [some (.ref 28), some (.int (nI op)), some (.int (nI (i + 1))), some (.int (nI ((tkK L p))))]) rfl ?_
            refine x_goto (tgt := 7) dX3_readSum_58 (by decide) ?_
            refine x_drop 3 ?_
            rw [pLp, if_pos (show opPM (tkK L p) = true from opPM_iff.mpr (Or.inr hv7)), hs9]
            exact ih (i + 1) (s ++ a9 ++ [20000 + tkK L p]) b9 s11 (by
              have e := hO11
              rw [show (((S ++ s) ++ a9) ++ [20000 + ((tkK L p))]) = S ++ (s ++ a9 ++ [20000 + tkK L p]) by simp only [List.append_assoc]] at e
              exact e) (by simp only [List.length_append, List.length_singleton] at *; omega) (by omega) (hF.tr (((Fr.rf.tr (F8.mono (fun i hi => by omega))).tr (F9.mono (fun i hi => by omega))).tr (F11.mono (fun i hi => by omega)))) (by omega)
set_option maxHeartbeats 4000000 in
theorem c_sum_ok0 {L : List Nat} {Tp : List Int32} {lf jf : Int32} {sb : Nat → PR} {op kd : Nat} (hT : TxL L Tp) (hC : CR kd M_X3_readTerm op L Tp lf jf sb) (hG : ∀ p, p ≤ L.length → Good L p (sb p)) {σ : ZS} {S : List Nat} {p : Nat} (hO : RdOk σ L Tp lf jf S p) (hle : S.length ≤ p) (hp : p ≤ L.length) : Cn (kd + 8) M_X3_readSum 0 0 [.ref 28, .int (nI op)] σ (fun r9 σ' => r9 = none ∧ RdR σ' L Tp lf jf S (pBin opPM L sb p) ∧ Fr (fun i => i = 28 ∨ i = 30) σ σ') := by
  obtain ⟨tv, St, h, hv, hS, hl⟩ := id hO
  obtain ⟨d_0, d_1, d_2, lt1, lt2⟩ := id h
  have hL := hT.1
  have hk9 := tkK_lt (L := L) (p := p)
  refine Cn.intro (lv0 := [some (.ref 28), some (.int (nI op)), none, none]) rfl (Nat.le_of_ble_eq_true rfl) rfl (fun d hd => ?_)
  refine x_aload_n dX3_readSum_0 rfl ?_
  refine x_iload_n dX3_readSum_1 rfl ?_
  refine x_callV m_X3_readTerm l_X3_80 (hC σ S p hO (by first | omega | (simp only [List.length_append] at *; omega)) (by omega)) rfl d_0 (by omega) rfl rfl (Nat.le_of_ble_eq_true rfl) ⟨Nat.le_refl _, Nat.le_refl _⟩ dX3_readSum_2 (fun r1 s1 q1 => ?_)
  obtain ⟨rfl, hR1, F1⟩ := q1
  refine x_stk (st' := []) rfl ?_
  rcases hs1 : sb p with e1 | ⟨a1, b1⟩
  · have hO1 : RdFt s1 L Tp lf jf e1 := by rw [hs1] at hR1; exact hR1
    obtain ⟨ap1, tp1, tv1, sc1, St1, h1, hsc1, hf1⟩ := id hO1
    obtain ⟨d1_0, d1_1, d1_2, lt11, lt21⟩ := id h1
    refine x_iconst (v := nI 0) dX3_readSum_5 (by decide) ?_
    refine x_istore_n dX3_readSum_6 (by decide) rfl ?_
    refine x_lv (lv' := [some (.ref 28), some (.int (nI op)), some (.int (nI 0)), none]) rfl ?_
    refine x_iload_n dX3_readSum_7 rfl ?_
    refine x_sipush (v := nI 160) dX3_readSum_8 (by decide) ?_
    refine x_icmpN_ge (tgt := 61) dX3_readSum_11 (by decide) (by omega) (by omega) (fun hv2 => ?_) (fun hv2 => ?_)
    · exact absurd hv2 (by decide)
    · refine x_aload_n dX3_readSum_14 rfl ?_
      refine x_get (v := .int (nI 1)) f_X3_47 d1_0 rfl dX3_readSum_15 ?_
      refine x_bipush (v := nI 43) dX3_readSum_18 (by decide) ?_
      refine x_icmpN_eq (tgt := 32) dX3_readSum_20 (by decide) (by omega) (by omega) (fun hv3 => ?_) (fun hv3 => ?_)
      · exact absurd hv3 (by decide)
      · refine x_aload_n dX3_readSum_23 rfl ?_
        refine x_get (v := .int (nI 1)) f_X3_47 d1_0 rfl dX3_readSum_24 ?_
        refine x_bipush (v := nI 45) dX3_readSum_27 (by decide) ?_
        refine x_icmpN_ne (tgt := 61) dX3_readSum_29 (by decide) (by omega) (by omega) (fun hv4 => ?_) (fun hv4 => ?_)
        · exact x_vret ⟨Nat.le_refl _, Nat.le_refl _⟩ rfl dX3_readSum_61 ⟨rfl, by rw [pBin, hs1]; exact hO1, (Fr.rf.tr (F1.mono (fun i hi => by omega)))⟩
        · exact absurd hv4 (by decide)
  · have hO1 : RdOk s1 L Tp lf jf (S ++ a1) b1 := by rw [hs1] at hR1; exact hR1
    have hg1 := hG p (by omega) _ _ hs1
    obtain ⟨tv1, St1, h1, hv1, hS1, hl1⟩ := id hO1
    obtain ⟨d1_0, d1_1, d1_2, lt11, lt21⟩ := id h1
    have hk91 := tkK_lt (L := L) (p := b1)
    refine x_iconst (v := nI 0) dX3_readSum_5 (by decide) ?_
    refine x_istore_n dX3_readSum_6 (by decide) rfl ?_
    refine x_lv (lv' := [some (.ref 28), some (.int (nI op)), some (.int (nI 0)), none]) rfl ?_
    rw [pBin, hs1]
    exact lb_sum hT hC hG hd 160 0 a1 b1 s1 hO1 (by first | omega | (simp only [List.length_append] at *; omega)) (by omega) (Fr.rf.tr (F1.mono (fun i hi => by omega))) (by omega)
theorem c_sum_ok {L : List Nat} {Tp : List Int32} {lf jf : Int32} {sb : Nat → PR} {op kd : Nat} (hT : TxL L Tp) (hC : CR kd M_X3_readTerm op L Tp lf jf sb) (hG : ∀ p, p ≤ L.length → Good L p (sb p)) : CR (kd + 8) M_X3_readSum op L Tp lf jf (pBin opPM L sb) := fun σ S p a1 a2 a3 => c_sum_ok0 hT hC hG a1 a2 a3
set_option maxHeartbeats 4000000 in
theorem lb_both {σ0 : ZS} {S : List Nat} {L : List Nat} {Tp : List Int32} {lf jf : Int32} {sb : Nat → PR} {op kd : Nat} (hT : TxL L Tp) (hC : CR kd M_X3_readNot op L Tp lf jf sb) (hG : ∀ p, p ≤ L.length → Good L p (sb p)) {d : Nat} (hd : kd + 8 ≤ d) : ∀ (f i : Nat) (s : List Nat) (p : Nat) (σ : ZS) (hO : RdOk σ L Tp lf jf (S ++ s) p) (hle : (S ++ s).length ≤ p) (hp : p ≤ L.length) (hF : Fr (fun i => i = 28 ∨ i = 30) σ0 σ), i + f = 160 → X M_X3_readBoth d 0 0 (fun r9 σ' => r9 = none ∧ RdR σ' L Tp lf jf S (pLp op9 L sb f s p) ∧ Fr (fun i => i = 28 ∨ i = 30) σ0 σ') 0 0 7 [some (.ref 28), some (.int (nI op)), some (.int (nI i))] [] σ := by
  intro f
  induction f with
  | zero =>
    intro i s p σ hO hle hp hF hk
    obtain ⟨tv, St, h, hv, hS, hl⟩ := id hO
    obtain ⟨d_0, d_1, d_2, lt1, lt2⟩ := id h
    have hL := hT.1
    have hk9 := tkK_lt (L := L) (p := p)
    refine x_iload_n dX3_readBoth_7 rfl ?_
    refine x_sipush (v := nI 160) dX3_readBoth_8 (by decide) ?_
    refine x_icmpN_ge (tgt := 45) dX3_readBoth_11 (by decide) (by omega) (by omega) (fun hv1 => ?_) (fun hv1 => ?_)
    · exact x_vret ⟨Nat.le_refl _, Nat.le_refl _⟩ rfl dX3_readBoth_45 ⟨rfl, hO, hF⟩
    · exact absurd hv1 (by omega)
  | succ f ih =>
    intro i s p σ hO hle hp hF hk
    obtain ⟨tv, St, h, hv, hS, hl⟩ := id hO
    obtain ⟨d_0, d_1, d_2, lt1, lt2⟩ := id h
    have hL := hT.1
    have hk9 := tkK_lt (L := L) (p := p)
    refine x_iload_n dX3_readBoth_7 rfl ?_
    refine x_sipush (v := nI 160) dX3_readBoth_8 (by decide) ?_
    refine x_icmpN_ge (tgt := 45) dX3_readBoth_11 (by decide) (by omega) (by omega) (fun hv1 => ?_) (fun hv1 => ?_)
    · exact absurd hv1 (by omega)
    · refine x_aload_n dX3_readBoth_14 rfl ?_
      refine x_get (v := .int (nI ((tkK L p)))) f_X3_47 d_0 rfl dX3_readBoth_15 ?_
      refine x_bipush (v := nI 9) dX3_readBoth_18 (by decide) ?_
      refine x_icmpN_ne (tgt := 45) dX3_readBoth_20 (by decide) (by omega) (by omega) (fun hv2 => ?_) (fun hv2 => ?_)
      · exact x_vret ⟨Nat.le_refl _, Nat.le_refl _⟩ rfl dX3_readBoth_45 ⟨rfl, by rw [pLp, if_neg (show ¬ op9 (tkK L p) = true from fun e => hv2 (eq_of_beq e))]; exact hO, hF⟩
      · refine x_aload_n dX3_readBoth_23 rfl ?_
        refine x_callV m_X3_next l_X3_31 (c_next_ok hT hO (by omega)) rfl d_0 (by omega) rfl rfl (Nat.le_of_ble_eq_true rfl) ⟨Nat.le_refl _, Nat.le_refl _⟩ dX3_readBoth_24 (fun r3 s3 q3 => ?_)
        obtain ⟨rfl, hO3, F3⟩ := q3
        obtain ⟨tv3, St3, h3, hv3, hS3, hl3⟩ := id hO3
        obtain ⟨d3_0, d3_1, d3_2, lt13, lt23⟩ := id h3
        have hn3 := tkN_b (show p ≤ L.length by omega)
        have hl93 := lexP_b (show p ≤ L.length by omega)
        refine x_stk (st' := []) rfl ?_
        refine x_aload_n dX3_readBoth_27 rfl ?_
        refine x_iload_n dX3_readBoth_28 rfl ?_
        refine x_callV m_X3_readNot l_X3_70 (hC s3 (S ++ s) (tkN L p) hO3 (by first | omega | (simp only [List.length_append] at *; omega)) (by omega)) rfl d3_0 (by omega) rfl rfl (Nat.le_of_ble_eq_true rfl) ⟨Nat.le_refl _, Nat.le_refl _⟩ dX3_readBoth_29 (fun r4 s4 q4 => ?_)
        obtain ⟨rfl, hR4, F4⟩ := q4
        refine x_stk (st' := []) rfl ?_
        rcases hs4 : sb (tkN L p) with e4 | ⟨a4, b4⟩
        · have hO4 : RdFt s4 L Tp lf jf e4 := by rw [hs4] at hR4; exact hR4
          obtain ⟨ap4, tp4, tv4, sc4, St4, h4, hsc4, hf4⟩ := id hO4
          obtain ⟨d4_0, d4_1, d4_2, lt14, lt24⟩ := id h4
          refine x_aload_n dX3_readBoth_32 rfl ?_
          refine x_sipush (v := nI 20009) dX3_readBoth_33 (by decide) ?_
          refine x_callV m_X3_add l_X3_67 (c_add_ft hT hO4) rfl d4_0 (by omega) rfl rfl (Nat.le_of_ble_eq_true rfl) ⟨Nat.le_refl _, Nat.le_refl _⟩ dX3_readBoth_36 (fun r5 s5 q5 => ?_)
          obtain ⟨rfl, hO5, F5⟩ := q5
          obtain ⟨ap5, tp5, tv5, sc5, St5, h5, hsc5, hf5⟩ := id hO5
          obtain ⟨d5_0, d5_1, d5_2, lt15, lt25⟩ := id h5
          refine x_stk (st' := []) rfl ?_
          refine x_iincN dX3_readBoth_39 rfl (by decide) rfl ?_
          refine x_lv (lv' := [some (.ref 28), some (.int (nI op)), some (.int (nI (i + 1)))]) rfl ?_
          refine x_goto (tgt := 7) dX3_readBoth_42 (by decide) ?_
          refine x_iload_n dX3_readBoth_7 rfl ?_
          refine x_sipush (v := nI 160) dX3_readBoth_8 (by decide) ?_
          refine x_icmpN_ge (tgt := 45) dX3_readBoth_11 (by decide) (by omega) (by omega) (fun hv306 => ?_) (fun hv306 => ?_)
          · exact x_vret ⟨Nat.le_refl _, Nat.le_refl _⟩ rfl dX3_readBoth_45 ⟨rfl, by rw [pLp, if_pos (show op9 (tkK L p) = true from beq_iff_eq.mpr hv2), hs4]; exact hO5, hF.tr (((Fr.rf.tr (F3.mono (fun i hi => by omega))).tr (F4.mono (fun i hi => by omega))).tr (F5.mono (fun i hi => by omega)))⟩
          · refine x_aload_n dX3_readBoth_14 rfl ?_
            refine x_get (v := .int (nI 1)) f_X3_47 d5_0 rfl dX3_readBoth_15 ?_
            refine x_bipush (v := nI 9) dX3_readBoth_18 (by decide) ?_
            refine x_icmpN_ne (tgt := 45) dX3_readBoth_20 (by decide) (by omega) (by omega) (fun hv307 => ?_) (fun hv307 => ?_)
            · exact x_vret ⟨Nat.le_refl _, Nat.le_refl _⟩ rfl dX3_readBoth_45 ⟨rfl, by rw [pLp, if_pos (show op9 (tkK L p) = true from beq_iff_eq.mpr hv2), hs4]; exact hO5, hF.tr (((Fr.rf.tr (F3.mono (fun i hi => by omega))).tr (F4.mono (fun i hi => by omega))).tr (F5.mono (fun i hi => by omega)))⟩
            · exact absurd hv307 (by decide)
        · have hO4 : RdOk s4 L Tp lf jf ((S ++ s) ++ a4) b4 := by rw [hs4] at hR4; exact hR4
          have hg4 := hG (tkN L p) (by omega) _ _ hs4
          obtain ⟨tv4, St4, h4, hv4, hS4, hl4⟩ := id hO4
          obtain ⟨d4_0, d4_1, d4_2, lt14, lt24⟩ := id h4
          have hk94 := tkK_lt (L := L) (p := b4)
          refine x_aload_n dX3_readBoth_32 rfl ?_
          refine x_sipush (v := nI 20009) dX3_readBoth_33 (by decide) ?_
          refine x_callV m_X3_add l_X3_67 (c_add_ok hT hO4 (by first | omega | (simp only [List.length_append] at *; omega))) rfl d4_0 (by omega) rfl rfl (Nat.le_of_ble_eq_true rfl) ⟨Nat.le_refl _, Nat.le_refl _⟩ dX3_readBoth_36 (fun r6 s6 q6 => ?_)
          obtain ⟨rfl, hO6, F6⟩ := q6
          obtain ⟨tv6, St6, h6, hv6, hS6, hl6⟩ := id hO6
          obtain ⟨d6_0, d6_1, d6_2, lt16, lt26⟩ := id h6
          refine x_stk (st' := []) rfl ?_
          refine x_iincN dX3_readBoth_39 rfl (by decide) rfl ?_
          refine x_lv (lv' := [some (.ref 28), some (.int (nI op)), some (.int (nI (i + 1)))]) rfl ?_
          refine x_goto (tgt := 7) dX3_readBoth_42 (by decide) ?_
          rw [pLp, if_pos (show op9 (tkK L p) = true from beq_iff_eq.mpr hv2), hs4]
          exact ih (i + 1) (s ++ a4 ++ [20000 + tkK L p]) b4 s6 (by
            have e := hO6
            rw [show (((S ++ s) ++ a4) ++ [20009]) = S ++ (s ++ a4 ++ [20000 + tkK L p]) by rw [hv2]; simp only [List.append_assoc]] at e
            exact e) (by simp only [List.length_append, List.length_singleton] at *; omega) (by omega) (hF.tr (((Fr.rf.tr (F3.mono (fun i hi => by omega))).tr (F4.mono (fun i hi => by omega))).tr (F6.mono (fun i hi => by omega)))) (by omega)
set_option maxHeartbeats 4000000 in
theorem c_both_ok0 {L : List Nat} {Tp : List Int32} {lf jf : Int32} {sb : Nat → PR} {op kd : Nat} (hT : TxL L Tp) (hC : CR kd M_X3_readNot op L Tp lf jf sb) (hG : ∀ p, p ≤ L.length → Good L p (sb p)) {σ : ZS} {S : List Nat} {p : Nat} (hO : RdOk σ L Tp lf jf S p) (hle : S.length ≤ p) (hp : p ≤ L.length) : Cn (kd + 8) M_X3_readBoth 0 0 [.ref 28, .int (nI op)] σ (fun r9 σ' => r9 = none ∧ RdR σ' L Tp lf jf S (pBin op9 L sb p) ∧ Fr (fun i => i = 28 ∨ i = 30) σ σ') := by
  obtain ⟨tv, St, h, hv, hS, hl⟩ := id hO
  obtain ⟨d_0, d_1, d_2, lt1, lt2⟩ := id h
  have hL := hT.1
  have hk9 := tkK_lt (L := L) (p := p)
  refine Cn.intro (lv0 := [some (.ref 28), some (.int (nI op)), none]) rfl (Nat.le_of_ble_eq_true rfl) rfl (fun d hd => ?_)
  refine x_aload_n dX3_readBoth_0 rfl ?_
  refine x_iload_n dX3_readBoth_1 rfl ?_
  refine x_callV m_X3_readNot l_X3_70 (hC σ S p hO (by first | omega | (simp only [List.length_append] at *; omega)) (by omega)) rfl d_0 (by omega) rfl rfl (Nat.le_of_ble_eq_true rfl) ⟨Nat.le_refl _, Nat.le_refl _⟩ dX3_readBoth_2 (fun r1 s1 q1 => ?_)
  obtain ⟨rfl, hR1, F1⟩ := q1
  refine x_stk (st' := []) rfl ?_
  rcases hs1 : sb p with e1 | ⟨a1, b1⟩
  · have hO1 : RdFt s1 L Tp lf jf e1 := by rw [hs1] at hR1; exact hR1
    obtain ⟨ap1, tp1, tv1, sc1, St1, h1, hsc1, hf1⟩ := id hO1
    obtain ⟨d1_0, d1_1, d1_2, lt11, lt21⟩ := id h1
    refine x_iconst (v := nI 0) dX3_readBoth_5 (by decide) ?_
    refine x_istore_n dX3_readBoth_6 (by decide) rfl ?_
    refine x_lv (lv' := [some (.ref 28), some (.int (nI op)), some (.int (nI 0))]) rfl ?_
    refine x_iload_n dX3_readBoth_7 rfl ?_
    refine x_sipush (v := nI 160) dX3_readBoth_8 (by decide) ?_
    refine x_icmpN_ge (tgt := 45) dX3_readBoth_11 (by decide) (by omega) (by omega) (fun hv2 => ?_) (fun hv2 => ?_)
    · exact absurd hv2 (by decide)
    · refine x_aload_n dX3_readBoth_14 rfl ?_
      refine x_get (v := .int (nI 1)) f_X3_47 d1_0 rfl dX3_readBoth_15 ?_
      refine x_bipush (v := nI 9) dX3_readBoth_18 (by decide) ?_
      refine x_icmpN_ne (tgt := 45) dX3_readBoth_20 (by decide) (by omega) (by omega) (fun hv3 => ?_) (fun hv3 => ?_)
      · exact x_vret ⟨Nat.le_refl _, Nat.le_refl _⟩ rfl dX3_readBoth_45 ⟨rfl, by rw [pBin, hs1]; exact hO1, (Fr.rf.tr (F1.mono (fun i hi => by omega)))⟩
      · exact absurd hv3 (by decide)
  · have hO1 : RdOk s1 L Tp lf jf (S ++ a1) b1 := by rw [hs1] at hR1; exact hR1
    have hg1 := hG p (by omega) _ _ hs1
    obtain ⟨tv1, St1, h1, hv1, hS1, hl1⟩ := id hO1
    obtain ⟨d1_0, d1_1, d1_2, lt11, lt21⟩ := id h1
    have hk91 := tkK_lt (L := L) (p := b1)
    refine x_iconst (v := nI 0) dX3_readBoth_5 (by decide) ?_
    refine x_istore_n dX3_readBoth_6 (by decide) rfl ?_
    refine x_lv (lv' := [some (.ref 28), some (.int (nI op)), some (.int (nI 0))]) rfl ?_
    rw [pBin, hs1]
    exact lb_both hT hC hG hd 160 0 a1 b1 s1 hO1 (by first | omega | (simp only [List.length_append] at *; omega)) (by omega) (Fr.rf.tr (F1.mono (fun i hi => by omega))) (by omega)
theorem c_both_ok {L : List Nat} {Tp : List Int32} {lf jf : Int32} {sb : Nat → PR} {op kd : Nat} (hT : TxL L Tp) (hC : CR kd M_X3_readNot op L Tp lf jf sb) (hG : ∀ p, p ≤ L.length → Good L p (sb p)) : CR (kd + 8) M_X3_readBoth op L Tp lf jf (pBin op9 L sb) := fun σ S p a1 a2 a3 => c_both_ok0 hT hC hG a1 a2 a3
set_option maxHeartbeats 4000000 in
theorem lb_ei {σ0 : ZS} {S : List Nat} {L : List Nat} {Tp : List Int32} {lf jf : Int32} {sb : Nat → PR} {op kd : Nat} (hT : TxL L Tp) (hC : CR kd M_X3_readBoth op L Tp lf jf sb) (hG : ∀ p, p ≤ L.length → Good L p (sb p)) {d : Nat} (hd : kd + 8 ≤ d) : ∀ (f i : Nat) (s : List Nat) (p : Nat) (σ : ZS) (hO : RdOk σ L Tp lf jf (S ++ s) p) (hle : (S ++ s).length ≤ p) (hp : p ≤ L.length) (hF : Fr (fun i => i = 28 ∨ i = 30) σ0 σ), i + f = 160 → X M_X3_readEither d 0 0 (fun r9 σ' => r9 = none ∧ RdR σ' L Tp lf jf S (pLp op8 L sb f s p) ∧ Fr (fun i => i = 28 ∨ i = 30) σ0 σ') 0 0 7 [some (.ref 28), some (.int (nI op)), some (.int (nI i))] [] σ := by
  intro f
  induction f with
  | zero =>
    intro i s p σ hO hle hp hF hk
    obtain ⟨tv, St, h, hv, hS, hl⟩ := id hO
    obtain ⟨d_0, d_1, d_2, lt1, lt2⟩ := id h
    have hL := hT.1
    have hk9 := tkK_lt (L := L) (p := p)
    refine x_iload_n dX3_readEither_7 rfl ?_
    refine x_sipush (v := nI 160) dX3_readEither_8 (by decide) ?_
    refine x_icmpN_ge (tgt := 45) dX3_readEither_11 (by decide) (by omega) (by omega) (fun hv1 => ?_) (fun hv1 => ?_)
    · exact x_vret ⟨Nat.le_refl _, Nat.le_refl _⟩ rfl dX3_readEither_45 ⟨rfl, hO, hF⟩
    · exact absurd hv1 (by omega)
  | succ f ih =>
    intro i s p σ hO hle hp hF hk
    obtain ⟨tv, St, h, hv, hS, hl⟩ := id hO
    obtain ⟨d_0, d_1, d_2, lt1, lt2⟩ := id h
    have hL := hT.1
    have hk9 := tkK_lt (L := L) (p := p)
    refine x_iload_n dX3_readEither_7 rfl ?_
    refine x_sipush (v := nI 160) dX3_readEither_8 (by decide) ?_
    refine x_icmpN_ge (tgt := 45) dX3_readEither_11 (by decide) (by omega) (by omega) (fun hv1 => ?_) (fun hv1 => ?_)
    · exact absurd hv1 (by omega)
    · refine x_aload_n dX3_readEither_14 rfl ?_
      refine x_get (v := .int (nI ((tkK L p)))) f_X3_47 d_0 rfl dX3_readEither_15 ?_
      refine x_bipush (v := nI 8) dX3_readEither_18 (by decide) ?_
      refine x_icmpN_ne (tgt := 45) dX3_readEither_20 (by decide) (by omega) (by omega) (fun hv2 => ?_) (fun hv2 => ?_)
      · exact x_vret ⟨Nat.le_refl _, Nat.le_refl _⟩ rfl dX3_readEither_45 ⟨rfl, by rw [pLp, if_neg (show ¬ op8 (tkK L p) = true from fun e => hv2 (eq_of_beq e))]; exact hO, hF⟩
      · refine x_aload_n dX3_readEither_23 rfl ?_
        refine x_callV m_X3_next l_X3_31 (c_next_ok hT hO (by omega)) rfl d_0 (by omega) rfl rfl (Nat.le_of_ble_eq_true rfl) ⟨Nat.le_refl _, Nat.le_refl _⟩ dX3_readEither_24 (fun r3 s3 q3 => ?_)
        obtain ⟨rfl, hO3, F3⟩ := q3
        obtain ⟨tv3, St3, h3, hv3, hS3, hl3⟩ := id hO3
        obtain ⟨d3_0, d3_1, d3_2, lt13, lt23⟩ := id h3
        have hn3 := tkN_b (show p ≤ L.length by omega)
        have hl93 := lexP_b (show p ≤ L.length by omega)
        refine x_stk (st' := []) rfl ?_
        refine x_aload_n dX3_readEither_27 rfl ?_
        refine x_iload_n dX3_readEither_28 rfl ?_
        refine x_callV m_X3_readBoth l_X3_64 (hC s3 (S ++ s) (tkN L p) hO3 (by first | omega | (simp only [List.length_append] at *; omega)) (by omega)) rfl d3_0 (by omega) rfl rfl (Nat.le_of_ble_eq_true rfl) ⟨Nat.le_refl _, Nat.le_refl _⟩ dX3_readEither_29 (fun r4 s4 q4 => ?_)
        obtain ⟨rfl, hR4, F4⟩ := q4
        refine x_stk (st' := []) rfl ?_
        rcases hs4 : sb (tkN L p) with e4 | ⟨a4, b4⟩
        · have hO4 : RdFt s4 L Tp lf jf e4 := by rw [hs4] at hR4; exact hR4
          obtain ⟨ap4, tp4, tv4, sc4, St4, h4, hsc4, hf4⟩ := id hO4
          obtain ⟨d4_0, d4_1, d4_2, lt14, lt24⟩ := id h4
          refine x_aload_n dX3_readEither_32 rfl ?_
          refine x_sipush (v := nI 20008) dX3_readEither_33 (by decide) ?_
          refine x_callV m_X3_add l_X3_67 (c_add_ft hT hO4) rfl d4_0 (by omega) rfl rfl (Nat.le_of_ble_eq_true rfl) ⟨Nat.le_refl _, Nat.le_refl _⟩ dX3_readEither_36 (fun r5 s5 q5 => ?_)
          obtain ⟨rfl, hO5, F5⟩ := q5
          obtain ⟨ap5, tp5, tv5, sc5, St5, h5, hsc5, hf5⟩ := id hO5
          obtain ⟨d5_0, d5_1, d5_2, lt15, lt25⟩ := id h5
          refine x_stk (st' := []) rfl ?_
          refine x_iincN dX3_readEither_39 rfl (by decide) rfl ?_
          refine x_lv (lv' := [some (.ref 28), some (.int (nI op)), some (.int (nI (i + 1)))]) rfl ?_
          refine x_goto (tgt := 7) dX3_readEither_42 (by decide) ?_
          refine x_iload_n dX3_readEither_7 rfl ?_
          refine x_sipush (v := nI 160) dX3_readEither_8 (by decide) ?_
          refine x_icmpN_ge (tgt := 45) dX3_readEither_11 (by decide) (by omega) (by omega) (fun hv306 => ?_) (fun hv306 => ?_)
          · exact x_vret ⟨Nat.le_refl _, Nat.le_refl _⟩ rfl dX3_readEither_45 ⟨rfl, by rw [pLp, if_pos (show op8 (tkK L p) = true from beq_iff_eq.mpr hv2), hs4]; exact hO5, hF.tr (((Fr.rf.tr (F3.mono (fun i hi => by omega))).tr (F4.mono (fun i hi => by omega))).tr (F5.mono (fun i hi => by omega)))⟩
          · refine x_aload_n dX3_readEither_14 rfl ?_
            refine x_get (v := .int (nI 1)) f_X3_47 d5_0 rfl dX3_readEither_15 ?_
            refine x_bipush (v := nI 8) dX3_readEither_18 (by decide) ?_
            refine x_icmpN_ne (tgt := 45) dX3_readEither_20 (by decide) (by omega) (by omega) (fun hv307 => ?_) (fun hv307 => ?_)
            · exact x_vret ⟨Nat.le_refl _, Nat.le_refl _⟩ rfl dX3_readEither_45 ⟨rfl, by rw [pLp, if_pos (show op8 (tkK L p) = true from beq_iff_eq.mpr hv2), hs4]; exact hO5, hF.tr (((Fr.rf.tr (F3.mono (fun i hi => by omega))).tr (F4.mono (fun i hi => by omega))).tr (F5.mono (fun i hi => by omega)))⟩
            · exact absurd hv307 (by decide)
        · have hO4 : RdOk s4 L Tp lf jf ((S ++ s) ++ a4) b4 := by rw [hs4] at hR4; exact hR4
          have hg4 := hG (tkN L p) (by omega) _ _ hs4
          obtain ⟨tv4, St4, h4, hv4, hS4, hl4⟩ := id hO4
          obtain ⟨d4_0, d4_1, d4_2, lt14, lt24⟩ := id h4
          have hk94 := tkK_lt (L := L) (p := b4)
          refine x_aload_n dX3_readEither_32 rfl ?_
          refine x_sipush (v := nI 20008) dX3_readEither_33 (by decide) ?_
          refine x_callV m_X3_add l_X3_67 (c_add_ok hT hO4 (by first | omega | (simp only [List.length_append] at *; omega))) rfl d4_0 (by omega) rfl rfl (Nat.le_of_ble_eq_true rfl) ⟨Nat.le_refl _, Nat.le_refl _⟩ dX3_readEither_36 (fun r6 s6 q6 => ?_)
          obtain ⟨rfl, hO6, F6⟩ := q6
          obtain ⟨tv6, St6, h6, hv6, hS6, hl6⟩ := id hO6
          obtain ⟨d6_0, d6_1, d6_2, lt16, lt26⟩ := id h6
          refine x_stk (st' := []) rfl ?_
          refine x_iincN dX3_readEither_39 rfl (by decide) rfl ?_
          refine x_lv (lv' := [some (.ref 28), some (.int (nI op)), some (.int (nI (i + 1)))]) rfl ?_
          refine x_goto (tgt := 7) dX3_readEither_42 (by decide) ?_
          rw [pLp, if_pos (show op8 (tkK L p) = true from beq_iff_eq.mpr hv2), hs4]
          exact ih (i + 1) (s ++ a4 ++ [20000 + tkK L p]) b4 s6 (by
            have e := hO6
            rw [show (((S ++ s) ++ a4) ++ [20008]) = S ++ (s ++ a4 ++ [20000 + tkK L p]) by rw [hv2]; simp only [List.append_assoc]] at e
            exact e) (by simp only [List.length_append, List.length_singleton] at *; omega) (by omega) (hF.tr (((Fr.rf.tr (F3.mono (fun i hi => by omega))).tr (F4.mono (fun i hi => by omega))).tr (F6.mono (fun i hi => by omega)))) (by omega)
set_option maxHeartbeats 4000000 in
theorem c_ei_ok0 {L : List Nat} {Tp : List Int32} {lf jf : Int32} {sb : Nat → PR} {op kd : Nat} (hT : TxL L Tp) (hC : CR kd M_X3_readBoth op L Tp lf jf sb) (hG : ∀ p, p ≤ L.length → Good L p (sb p)) {σ : ZS} {S : List Nat} {p : Nat} (hO : RdOk σ L Tp lf jf S p) (hle : S.length ≤ p) (hp : p ≤ L.length) : Cn (kd + 8) M_X3_readEither 0 0 [.ref 28, .int (nI op)] σ (fun r9 σ' => r9 = none ∧ RdR σ' L Tp lf jf S (pBin op8 L sb p) ∧ Fr (fun i => i = 28 ∨ i = 30) σ σ') := by
  obtain ⟨tv, St, h, hv, hS, hl⟩ := id hO
  obtain ⟨d_0, d_1, d_2, lt1, lt2⟩ := id h
  have hL := hT.1
  have hk9 := tkK_lt (L := L) (p := p)
  refine Cn.intro (lv0 := [some (.ref 28), some (.int (nI op)), none]) rfl (Nat.le_of_ble_eq_true rfl) rfl (fun d hd => ?_)
  refine x_aload_n dX3_readEither_0 rfl ?_
  refine x_iload_n dX3_readEither_1 rfl ?_
  refine x_callV m_X3_readBoth l_X3_64 (hC σ S p hO (by first | omega | (simp only [List.length_append] at *; omega)) (by omega)) rfl d_0 (by omega) rfl rfl (Nat.le_of_ble_eq_true rfl) ⟨Nat.le_refl _, Nat.le_refl _⟩ dX3_readEither_2 (fun r1 s1 q1 => ?_)
  obtain ⟨rfl, hR1, F1⟩ := q1
  refine x_stk (st' := []) rfl ?_
  rcases hs1 : sb p with e1 | ⟨a1, b1⟩
  · have hO1 : RdFt s1 L Tp lf jf e1 := by rw [hs1] at hR1; exact hR1
    obtain ⟨ap1, tp1, tv1, sc1, St1, h1, hsc1, hf1⟩ := id hO1
    obtain ⟨d1_0, d1_1, d1_2, lt11, lt21⟩ := id h1
    refine x_iconst (v := nI 0) dX3_readEither_5 (by decide) ?_
    refine x_istore_n dX3_readEither_6 (by decide) rfl ?_
    refine x_lv (lv' := [some (.ref 28), some (.int (nI op)), some (.int (nI 0))]) rfl ?_
    refine x_iload_n dX3_readEither_7 rfl ?_
    refine x_sipush (v := nI 160) dX3_readEither_8 (by decide) ?_
    refine x_icmpN_ge (tgt := 45) dX3_readEither_11 (by decide) (by omega) (by omega) (fun hv2 => ?_) (fun hv2 => ?_)
    · exact absurd hv2 (by decide)
    · refine x_aload_n dX3_readEither_14 rfl ?_
      refine x_get (v := .int (nI 1)) f_X3_47 d1_0 rfl dX3_readEither_15 ?_
      refine x_bipush (v := nI 8) dX3_readEither_18 (by decide) ?_
      refine x_icmpN_ne (tgt := 45) dX3_readEither_20 (by decide) (by omega) (by omega) (fun hv3 => ?_) (fun hv3 => ?_)
      · exact x_vret ⟨Nat.le_refl _, Nat.le_refl _⟩ rfl dX3_readEither_45 ⟨rfl, by rw [pBin, hs1]; exact hO1, (Fr.rf.tr (F1.mono (fun i hi => by omega)))⟩
      · exact absurd hv3 (by decide)
  · have hO1 : RdOk s1 L Tp lf jf (S ++ a1) b1 := by rw [hs1] at hR1; exact hR1
    have hg1 := hG p (by omega) _ _ hs1
    obtain ⟨tv1, St1, h1, hv1, hS1, hl1⟩ := id hO1
    obtain ⟨d1_0, d1_1, d1_2, lt11, lt21⟩ := id h1
    have hk91 := tkK_lt (L := L) (p := b1)
    refine x_iconst (v := nI 0) dX3_readEither_5 (by decide) ?_
    refine x_istore_n dX3_readEither_6 (by decide) rfl ?_
    refine x_lv (lv' := [some (.ref 28), some (.int (nI op)), some (.int (nI 0))]) rfl ?_
    rw [pBin, hs1]
    exact lb_ei hT hC hG hd 160 0 a1 b1 s1 hO1 (by first | omega | (simp only [List.length_append] at *; omega)) (by omega) (Fr.rf.tr (F1.mono (fun i hi => by omega))) (by omega)
theorem c_ei_ok {L : List Nat} {Tp : List Int32} {lf jf : Int32} {sb : Nat → PR} {op kd : Nat} (hT : TxL L Tp) (hC : CR kd M_X3_readBoth op L Tp lf jf sb) (hG : ∀ p, p ≤ L.length → Good L p (sb p)) : CR (kd + 8) M_X3_readEither op L Tp lf jf (pBin op8 L sb) := fun σ S p a1 a2 a3 => c_ei_ok0 hT hC hG a1 a2 a3
