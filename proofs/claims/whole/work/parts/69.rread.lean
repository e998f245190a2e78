def pPart (L : List Nat) (k : Nat) (p : Nat) : PR := match pExp L k (.inr p) with
  | .inl e => .inl e
  | .inr p1 => match pEi L 5 p1 with
    | .inl e => .inl e
    | .inr q => match pExp L 59 (.inr q.2) with
      | .inl e => .inl e
      | .inr p2 => .inr (q.1, p2)
theorem pSeg_eq (L : List Nat) (k : Nat) (S : List Nat) (p : Nat) : pSeg L k S p = match pPart L k p with
  | .inl e => .inl e
  | .inr q => .inr (S ++ q.1, q.2) := by
  rw [pSeg, pPart]
  cases pExp L k (.inr p) with
  | inl e => rfl
  | inr p1 =>
    simp only
    cases pEi L 5 p1 with
    | inl e => rfl
    | inr q =>
      simp only
      cases pExp L 59 (.inr q.2) with
      | inl e => rfl
      | inr p2 => rfl
theorem pText_eq (L : List Nat) : pText L = match pPart L 5 0 with
  | .inl e => .inl e
  | .inr q1 => match pPart L 6 q1.2 with
    | .inl e => .inl e
    | .inr q2 => match pPart L 7 q2.2 with
      | .inl e => .inl e
      | .inr q3 => if tkK L q3.2 = 0 then .inr (q1.1 ++ q2.1 ++ q3.1, q1.1.length, (q1.1 ++ q2.1).length) else .inl (lexP L q3.2) := by
  rw [pText, pSeg_eq]
  cases pPart L 5 0 with
  | inl e => rfl
  | inr q1 =>
    simp only [List.nil_append]
    rw [pSeg_eq]
    cases pPart L 6 q1.2 with
    | inl e => rfl
    | inr q2 =>
      simp only
      rw [pSeg_eq]
      cases pPart L 7 q2.2 with
      | inl e => rfl
      | inr q3 => rfl
theorem good_part (L : List Nat) (k : Nat) (hk : k ≠ 0) (p : Nat) (hp : p ≤ L.length) : Good L p (pPart L k p) := by
  intro s p' h
  rw [pPart, pExp] at h
  by_cases e : tkK L p = k
  · rw [if_pos e] at h
    simp only at h
    have hn := tkN_b hp
    cases hs : pEi L 5 (tkN L p) with
    | inl e => rw [hs] at h; cases h
    | inr q =>
      obtain ⟨s2, p2⟩ := q
      rw [hs] at h
      simp only [pExp] at h
      have g := (good_all L 5).2.2 (tkN L p) hn.2.1 s2 p2 hs
      by_cases e2 : tkK L p2 = 59
      · rw [if_pos e2] at h
        cases h
        have hn2 := tkN_b g.2.1
        exact ⟨by omega, hn2.2.1, g.2.2⟩
      · rw [if_neg e2] at h; cases h
  · rw [if_neg e] at h; cases h
def FrB (a a' : Nat → Int32) : Prop := ∀ k, ¬ (21 ≤ k ∧ k ≤ 29) → a' k = a k
theorem FrA.B {a a' : Nat → Int32} (h : FrA a a') : FrB a a' := fun k hk => h k (fun q => hk (by omega))
theorem FrB.tr {a a' a'' : Nat → Int32} (h : FrB a a') (h' : FrB a' a'') : FrB a a'' := fun k hk => (h' k hk).trans (h k hk)
theorem FrB.up {a a' : Nat → Int32} (h : FrB a a') {j : Nat} {v : Int32} (hj : 21 ≤ j ∧ j ≤ 29) : FrB a (up a' j v) := fun k hk => (up_ne a' v (fun q => hk (by rw [q]; exact hj))).trans (h k hk)
theorem FrB.rf {a : Nat → Int32} : FrB a a := fun _ _ => rfl
theorem FF.frB {a a' : Nat → Int32} {F : List Int32} (h : FF a F) (hA : FrB a a') : FF a' F := fun j hj => (hA _ (by omega)).trans (h j hj)
theorem rk0 {L : List Nat} {p : Nat} : rK L p = 0 ↔ tkK L p = 0 := by
  unfold rK tkK
  by_cases e : L.length ≤ lexP L p
  · rw [if_pos e, if_pos e]
  · rw [if_neg e, if_neg e]
    by_cases e2 : isLt (L.getD (lexP L p) 0) = true
    · rw [if_pos e2, if_pos e2]
      have : wK (wIx (wordAt L (lexP L p)) 12) ≠ 0 := by
        cases wIx (wordAt L (lexP L p)) 12 with
        | none => decide
        | some k => rw [wK]; split <;> omega
      omega
    · rw [if_neg e2, if_neg e2]
      by_cases e3 : isDg (L.getD (lexP L p) 0) = true
      · rw [if_pos e3, if_pos e3]
        split <;> omega
      · rw [if_neg e3, if_neg e3]
        by_cases e4 : isSg (L.getD (lexP L p) 0) = true
        · rw [if_pos e4, if_pos e4]
          have := of_decide_eq_true e4
          omega
        · rw [if_neg e4, if_neg e4]; omega
set_option maxHeartbeats 4000000 in
theorem r_part {σ0 σ : ZS} {a : Nat → Int32} {tw : Int64} {b : Nat → List Int32} {L : List Nat} {p k : Nat} {F : List Int32} (hR : RM σ0 σ a tw b) (hO : RPok a tw b L p 0) (hp : p ≤ L.length) (hF : FF a F) (hk1 : k ≠ 1) : Cn 140 M_X8_part 0 0 [.ref 1000, .int (bI (decide (tkK L p = k)))] σ (fun r9 σ' => ∃ (v : Int32) (a' : Nat → Int32) (tw' : Int64), r9 = some (.int v) ∧ RM σ0 σ' a' tw' b ∧ FrA a a' ∧ RPr a' tw' b L 0 F v (pPart L k p)) := by
  obtain ⟨hy, ⟨t25, t24, t23, t2, t3⟩, t27, t28⟩ := id hO
  obtain ⟨f0, hx1, hx2, hx3, hx4, hx5, hx6⟩ := id hy
  have hk9 := tkK_lt (L := L) (p := p)
  have hlp := lexP_b hp
  have hnp := tkN_b hp
  have hrk := rK_le L p
  refine Cn.intro (lv0 := [some (.ref 1000), some (.int (bI (decide (tkK L p = k)))), none]) rfl (Nat.le_of_ble_eq_true rfl) rfl (fun d hd => ?_)
  refine x_iload_n dX8_part_0 rfl ?_
  refine x_ifP_ne (P := tkK L p = k) inferInstance (tgt := 8) dX8_part_1 (by decide) (fun hv1 => ?_) (fun hv1 => ?_)
  · refine x_aload_n dX8_part_8 rfl ?_
    refine x_rget (v := .int (nI 0)) f_X8_171 hR (rg t28) dX8_part_9 ?_
    refine x_ifN_ne (tgt := 19) dX8_part_12 (by decide) (by omega) (fun hv2 => ?_) (fun hv2 => ?_)
    · exact absurd hv2 (by decide)
    · refine x_aload_n dX8_part_15 rfl ?_
      refine x_callV m_X8_next l_X8_187 (r_next hR hy (t23 (show rK L p ≠ 4 from fun q9 => by have := rK4 q9; omega)) (tkN_b (show p ≤ L.length by omega)).2.1) rfl hR.2.1 (by omega) rfl rfl (Nat.le_of_ble_eq_true rfl) ⟨Nat.le_refl _, Nat.le_refl _⟩ dX8_part_16 (fun r3 s3 q3 => ?_)
      obtain ⟨rfl, a3, tw3, R3, N3, K3⟩ := q3
      have A3 := N3.A
      have hO3 : RPok a3 tw3 b L (tkN L p) 0 := ⟨hy.fr A3, K3, (N3 27 (by omega)).trans t27, (N3 28 (by omega)).trans t28⟩
      have hF3 := hF.fr A3
      have hn3 := tkN_b (show p ≤ L.length by omega)
      have hl3 := lexP_b (show p ≤ L.length by omega)
      obtain ⟨hy3, ⟨t253, t243, t233, t23, t33⟩, t273, t283⟩ := id hO3
      obtain ⟨f03, hx31, hx32, hx33, hx34, hx35, hx36⟩ := id hy3
      refine x_stk (st' := []) rfl ?_
      refine x_aload_n dX8_part_19 rfl ?_
      refine x_rget (v := .int (nI 0)) f_X8_171 R3 (rg t283) dX8_part_20 ?_
      refine x_ifN_eq (tgt := 30) dX8_part_23 (by decide) (by omega) (fun hv4 => ?_) (fun hv4 => ?_)
      · refine x_aload_n dX8_part_30 rfl ?_
        refine x_callV m_X8_either l_X8_223 (e_either5 _ _ _ _ _ F (tkN L p) R3 hO3 (by omega) hF3) rfl R3.2.1 (by omega) rfl rfl (Nat.le_of_ble_eq_true rfl) ⟨Nat.le_refl _, Nat.le_refl _⟩ dX8_part_31 (fun r5 s5 q5 => ?_)
        obtain ⟨v5, a5, tw5, rfl, R5, A5, hq5⟩ := q5
        refine x_stk (st' := [.int v5]) rfl ?_
        rcases hs5 : (pEi L 5) (tkN L p) with e5 | ⟨c5, b5⟩
        · have hO5 : RPft a5 e5 := by rw [hs5] at hq5; exact hq5
          obtain ⟨t285, t295⟩ := id hO5
          refine x_istore_n dX8_part_34 (by decide) rfl ?_
          refine x_lv (lv' := [some (.ref 1000), some (.int (bI (decide (tkK L p = k)))), some (.int v5)]) rfl ?_
          refine x_aload_n dX8_part_35 rfl ?_
          refine x_bipush (v := nI 59) dX8_part_36 (by decide) ?_
          refine x_callV m_X8_isSign l_X8_212 (r_isSign_ft R5 hO5) rfl R5.2.1 (by omega) rfl rfl (Nat.le_of_ble_eq_true rfl) ⟨Nat.le_refl _, Nat.le_refl _⟩ dX8_part_38 (fun r6 s6 q6 => ?_)
          obtain ⟨rfl, eq6⟩ := q6
          obtain rfl := eq6.symm
          refine x_stk (st' := [.int (nI 0)]) rfl ?_
          refine x_ifN_ne (tgt := 48) dX8_part_41 (by decide) (by omega) (fun hv7 => ?_) (fun hv7 => ?_)
          · exact absurd hv7 (by decide)
          · refine x_aload_n dX8_part_44 rfl ?_
            refine x_callV m_X8_fail l_X8_184 (r_fail_ft R5 hO5) rfl R5.2.1 (by omega) rfl rfl (Nat.le_of_ble_eq_true rfl) ⟨Nat.le_refl _, Nat.le_refl _⟩ dX8_part_45 (fun r8 s8 q8 => ?_)
            obtain ⟨rfl, eq8⟩ := q8
            obtain rfl := eq8.symm
            refine x_stk (st' := []) rfl ?_
            refine x_aload_n dX8_part_48 rfl ?_
            refine x_rget (v := .int (nI 1)) f_X8_171 R5 (rg t285) dX8_part_49 ?_
            refine x_ifN_ne (tgt := 59) dX8_part_52 (by decide) (by omega) (fun hv9 => ?_) (fun hv9 => ?_)
            · refine x_iload_n dX8_part_59 rfl ?_
              exact x_iret ⟨Nat.le_refl _, Nat.le_refl _⟩ rfl dX8_part_60 ⟨_, _, _, rfl, R5, ((FrA.rf.tr A3).tr A5), by rw [pPart, pExp, if_pos hv1]; simp only; rw [hs5]; exact hO5⟩
            · exact absurd hv9 (by decide)
        · have hp5 : RPok a5 tw5 b L b5 0 ∧ v5 = vE F c5 := by rw [hs5] at hq5; exact hq5
          obtain ⟨hO5, hv5e⟩ := hp5
          have hF5 := hF3.fr A5
          have hg5 := (good_all L 5).2.2 (tkN L p) (by omega) _ _ hs5
          obtain ⟨hy5, ⟨t255, t245, t235, t25, t35⟩, t275, t285⟩ := id hO5
          obtain ⟨f05, hx51, hx52, hx53, hx54, hx55, hx56⟩ := id hy5
          have hk95 := tkK_lt (L := L) (p := b5)
          have hr95 := rK_le L b5
          have hrz5 := rk0 (L := L) (p := b5)
          refine x_istore_n dX8_part_34 (by decide) rfl ?_
          refine x_lv (lv' := [some (.ref 1000), some (.int (bI (decide (tkK L p = k)))), some (.int v5)]) rfl ?_
          refine x_aload_n dX8_part_35 rfl ?_
          refine x_bipush (v := nI 59) dX8_part_36 (by decide) ?_
          refine x_callV m_X8_isSign l_X8_212 (r_isSign R5 hO5 (by omega) (by omega)) rfl R5.2.1 (by omega) rfl rfl (Nat.le_of_ble_eq_true rfl) ⟨Nat.le_refl _, Nat.le_refl _⟩ dX8_part_38 (fun r10 s10 q10 => ?_)
          obtain ⟨rfl, eq10⟩ := q10
          obtain rfl := eq10.symm
          refine x_stk (st' := [.int (bI (decide (tkK L b5 = 59)))]) rfl ?_
          refine x_ifP_ne (P := tkK L b5 = 59) inferInstance (tgt := 48) dX8_part_41 (by decide) (fun hv11 => ?_) (fun hv11 => ?_)
          · refine x_aload_n dX8_part_48 rfl ?_
            refine x_rget (v := .int (nI 0)) f_X8_171 R5 (rg t285) dX8_part_49 ?_
            refine x_ifN_ne (tgt := 59) dX8_part_52 (by decide) (by omega) (fun hv12 => ?_) (fun hv12 => ?_)
            · exact absurd hv12 (by decide)
            · refine x_aload_n dX8_part_55 rfl ?_
              refine x_callV m_X8_next l_X8_187 (r_next R5 hy5 (t235 (show rK L b5 ≠ 4 from fun q9 => by have := rK4 q9; omega)) (tkN_b (show b5 ≤ L.length by omega)).2.1) rfl R5.2.1 (by omega) rfl rfl (Nat.le_of_ble_eq_true rfl) ⟨Nat.le_refl _, Nat.le_refl _⟩ dX8_part_56 (fun r13 s13 q13 => ?_)
              obtain ⟨rfl, a13, tw13, R13, N13, K13⟩ := q13
              have A13 := N13.A
              have hO13 : RPok a13 tw13 b L (tkN L b5) 0 := ⟨hy5.fr A13, K13, (N13 27 (by omega)).trans t275, (N13 28 (by omega)).trans t285⟩
              have hF13 := hF5.fr A13
              have hn13 := tkN_b (show b5 ≤ L.length by omega)
              have hl13 := lexP_b (show b5 ≤ L.length by omega)
              obtain ⟨hy13, ⟨t2513, t2413, t2313, t213, t313⟩, t2713, t2813⟩ := id hO13
              obtain ⟨f013, hx131, hx132, hx133, hx134, hx135, hx136⟩ := id hy13
              refine x_stk (st' := []) rfl ?_
              refine x_iload_n dX8_part_59 rfl ?_
              exact x_iret ⟨Nat.le_refl _, Nat.le_refl _⟩ rfl dX8_part_60 ⟨_, _, _, rfl, R13, (((FrA.rf.tr A3).tr A5).tr A13), by rw [pPart, pExp, if_pos hv1]; simp only; rw [hs5]; simp only [pExp]; rw [if_pos (by omega)]; exact ⟨hO13, hv5e⟩⟩
          · refine x_aload_n dX8_part_44 rfl ?_
            refine x_callV m_X8_fail l_X8_184 (r_fail R5 hO5 (by omega)) rfl R5.2.1 (by omega) rfl rfl (Nat.le_of_ble_eq_true rfl) ⟨Nat.le_refl _, Nat.le_refl _⟩ dX8_part_45 (fun r14 s14 q14 => ?_)
            obtain ⟨rfl, a14, R14, A14, hO14⟩ := q14
            obtain ⟨t2814, t2914⟩ := id hO14
            refine x_stk (st' := []) rfl ?_
            refine x_aload_n dX8_part_48 rfl ?_
            refine x_rget (v := .int (nI 1)) f_X8_171 R14 (rg t2814) dX8_part_49 ?_
            refine x_ifN_ne (tgt := 59) dX8_part_52 (by decide) (by omega) (fun hv15 => ?_) (fun hv15 => ?_)
            · refine x_iload_n dX8_part_59 rfl ?_
              exact x_iret ⟨Nat.le_refl _, Nat.le_refl _⟩ rfl dX8_part_60 ⟨_, _, _, rfl, R14, (((FrA.rf.tr A3).tr A5).tr A14), by rw [pPart, pExp, if_pos hv1]; simp only; rw [hs5]; simp only [pExp]; rw [if_neg (by omega)]; exact hO14⟩
            · exact absurd hv15 (by decide)
      · exact absurd hv4 (by decide)
  · refine x_aload_n dX8_part_4 rfl ?_
    refine x_callV m_X8_fail l_X8_184 (r_fail hR hO (by omega)) rfl hR.2.1 (by omega) rfl rfl (Nat.le_of_ble_eq_true rfl) ⟨Nat.le_refl _, Nat.le_refl _⟩ dX8_part_5 (fun r16 s16 q16 => ?_)
    obtain ⟨rfl, a16, R16, A16, hO16⟩ := q16
    obtain ⟨t2816, t2916⟩ := id hO16
    refine x_stk (st' := []) rfl ?_
    refine x_aload_n dX8_part_8 rfl ?_
    refine x_rget (v := .int (nI 1)) f_X8_171 R16 (rg t2816) dX8_part_9 ?_
    refine x_ifN_ne (tgt := 19) dX8_part_12 (by decide) (by omega) (fun hv17 => ?_) (fun hv17 => ?_)
    · refine x_aload_n dX8_part_19 rfl ?_
      refine x_rget (v := .int (nI 1)) f_X8_171 R16 (rg t2816) dX8_part_20 ?_
      refine x_ifN_eq (tgt := 30) dX8_part_23 (by decide) (by omega) (fun hv18 => ?_) (fun hv18 => ?_)
      · exact absurd hv18 (by decide)
      · refine x_iconst (v := nI 0) dX8_part_26 (by decide) ?_
        refine x_goto (tgt := 34) dX8_part_27 (by decide) ?_
        refine x_istore_n dX8_part_34 (by decide) rfl ?_
        refine x_lv (lv' := [some (.ref 1000), some (.int (bI (decide (tkK L p = k)))), some (.int (nI 0))]) rfl ?_
        refine x_aload_n dX8_part_35 rfl ?_
        refine x_bipush (v := nI 59) dX8_part_36 (by decide) ?_
        refine x_callV m_X8_isSign l_X8_212 (r_isSign_ft R16 hO16) rfl R16.2.1 (by omega) rfl rfl (Nat.le_of_ble_eq_true rfl) ⟨Nat.le_refl _, Nat.le_refl _⟩ dX8_part_38 (fun r19 s19 q19 => ?_)
        obtain ⟨rfl, eq19⟩ := q19
        obtain rfl := eq19.symm
        refine x_stk (st' := [.int (nI 0)]) rfl ?_
        refine x_ifN_ne (tgt := 48) dX8_part_41 (by decide) (by omega) (fun hv20 => ?_) (fun hv20 => ?_)
        · exact absurd hv20 (by decide)
        · refine x_aload_n dX8_part_44 rfl ?_
          refine x_callV m_X8_fail l_X8_184 (r_fail_ft R16 hO16) rfl R16.2.1 (by omega) rfl rfl (Nat.le_of_ble_eq_true rfl) ⟨Nat.le_refl _, Nat.le_refl _⟩ dX8_part_45 (fun r21 s21 q21 => ?_)
          obtain ⟨rfl, eq21⟩ := q21
          obtain rfl := eq21.symm
          refine x_stk (st' := []) rfl ?_
          refine x_aload_n dX8_part_48 rfl ?_
          refine x_rget (v := .int (nI 1)) f_X8_171 R16 (rg t2816) dX8_part_49 ?_
          refine x_ifN_ne (tgt := 59) dX8_part_52 (by decide) (by omega) (fun hv22 => ?_) (fun hv22 => ?_)
          · refine x_iload_n dX8_part_59 rfl ?_
            exact x_iret ⟨Nat.le_refl _, Nat.le_refl _⟩ rfl dX8_part_60 ⟨_, _, _, rfl, R16, (FrA.rf.tr A16), by rw [pPart, pExp, if_neg hv1]; exact hO16⟩
          · exact absurd hv22 (by decide)
    · exact absurd hv17 (by decide)
set_option maxHeartbeats 4000000 in
theorem r_read {σ0 σ : ZS} {a : Nat → Int32} {tw : Int64} {b : Nat → List Int32} {L : List Nat} {t wh : Nat} {F : List Int32} (hR : RM σ0 σ a tw b) (hF : FF a F) (ht : t < 6) (hwh : wh ≤ 2) (hL6 : L.length ≤ 160) (hsz : (b 1).getD t 0 = nI L.length) (hbytes : ∀ i, i < L.length → (b 0).getD (t * 160 + i) 0 = nI (L.getD i 0)) (hb255 : ∀ i, L.getD i 0 ≤ 255) : Cn 150 M_X8_read 0 0 [.ref 1000, .int (nI t), .int (nI wh)] σ (fun r9 σ' => ∃ (v : Int32) (a' : Nat → Int32) (tw' : Int64), r9 = some (.int v) ∧ RM σ0 σ' a' tw' b ∧ FrB a a' ∧ (match pText L with | .inl f => RPft a' f | .inr q => a' 28 = nI 0 ∧ ∃ s1 s2 s3 : List Nat, q.1 = s1 ++ s2 ++ s3 ∧ q.2.1 = s1.length ∧ q.2.2 = (s1 ++ s2).length ∧ gd s1 ∧ gd s2 ∧ gd s3 ∧ v = (if wh = 0 then vE F s1 else if wh = 1 then vE F s2 else vE F s3))) := by
  refine Cn.intro (lv0 := [some (.ref 1000), some (.int (nI t)), some (.int (nI wh)), none, none, none]) rfl (Nat.le_of_ble_eq_true rfl) rfl (fun d hd => ?_)
  refine x_aload_n dX8_read_0 rfl ?_
  refine x_sipush (v := nI 160) dX8_read_1 (by decide) ?_
  refine x_iload_n dX8_read_4 rfl ?_
  refine x_imulN dX8_read_5 ?_
  refine x_topi (y := nI (t * 160)) (by rw [Nat.mul_comm]) ?_
  refine x_rput (up a 21 (nI (t * 160))) tw f_X8_144 hR (by decide) rfl (fun c => ⟨rfl, rfl⟩) dX8_read_6 (fun sw1 Rw1 => ?_)
  refine x_aload_n dX8_read_9 rfl ?_
  refine x_aload_n dX8_read_10 rfl ?_
  refine x_rget f_X8_17 Rw1 rfl dX8_read_11 ?_
  refine x_iload_n dX8_read_14 rfl ?_
  refine x_rald (j := 1) (n := t) Rw1 rfl (by decide) rfl rfl (rlt Rw1 (m := 6) (by decide) rfl (by omega)) dX8_read_15 ?_
  refine x_topi (y := nI L.length) hsz ?_
  refine x_rput (up (up a 21 (nI (t * 160))) 22 (nI L.length)) tw f_X8_141 Rw1 (by decide) rfl (fun c => ⟨rfl, rfl⟩) dX8_read_16 (fun sw2 Rw2 => ?_)
  refine x_aload_n dX8_read_19 rfl ?_
  refine x_iconst (v := nI 0) dX8_read_20 (by decide) ?_
  refine x_rput (up (up (up a 21 (nI (t * 160))) 22 (nI L.length)) 23 (nI 0)) tw f_X8_147 Rw2 (by decide) rfl (fun c => ⟨rfl, rfl⟩) dX8_read_21 (fun sw3 Rw3 => ?_)
  refine x_aload_n dX8_read_24 rfl ?_
  refine x_iconst (v := nI 0) dX8_read_25 (by decide) ?_
  refine x_rput (up (up (up (up a 21 (nI (t * 160))) 22 (nI L.length)) 23 (nI 0)) 27 (nI 0)) tw f_X8_181 Rw3 (by decide) rfl (fun c => ⟨rfl, rfl⟩) dX8_read_26 (fun sw4 Rw4 => ?_)
  refine x_aload_n dX8_read_29 rfl ?_
  refine x_iconst (v := nI 0) dX8_read_30 (by decide) ?_
  refine x_rput (up (up (up (up (up a 21 (nI (t * 160))) 22 (nI L.length)) 23 (nI 0)) 27 (nI 0)) 28 (nI 0)) tw f_X8_171 Rw4 (by decide) rfl (fun c => zb0) dX8_read_31 (fun sw5 Rw5 => ?_)
  have HB0 : FrB a (up (up (up (up (up a 21 (nI (t * 160))) 22 (nI L.length)) 23 (nI 0)) 27 (nI 0)) 28 (nI 0)) := (((((FrB.rf.up (by omega)).up (by omega)).up (by omega)).up (by omega)).up (by omega))
  have hx0 : RTx (up (up (up (up (up a 21 (nI (t * 160))) 22 (nI L.length)) 23 (nI 0)) 27 (nI 0)) 28 (nI 0)) b L := ⟨t * 160, rfl, rfl, hL6, by omega, hbytes, hb255⟩
  refine x_aload_n dX8_read_34 rfl ?_
  refine x_callV m_X8_next l_X8_187 (r_next (L := L) (p := 0) Rw5 hx0 rfl (by omega)) rfl Rw5.2.1 (by omega) rfl rfl (Nat.le_of_ble_eq_true rfl) ⟨Nat.le_refl _, Nat.le_refl _⟩ dX8_read_35 (fun r6 s6 q6 => ?_)
  obtain ⟨rfl, a6, tw6, R6, N6, K6⟩ := q6
  have A6 := N6.A.B
  have hO6 : RPok a6 tw6 b L 0 0 := ⟨hx0.fr N6.A, K6, (N6 27 (by omega)).trans rfl, (N6 28 (by omega)).trans rfl⟩
  have hF6 := hF.frB (HB0.tr A6)
  obtain ⟨hy6, ⟨t256, t246, t236, t26, t36⟩, t276, t286⟩ := id hO6
  obtain ⟨f06, hx61, hx62, hx63, hx64, hx65, hx66⟩ := id hy6
  refine x_stk (st' := []) rfl ?_
  refine x_aload_n dX8_read_38 rfl ?_
  refine x_aload_n dX8_read_39 rfl ?_
  refine x_bipush (v := nI 102) dX8_read_40 (by decide) ?_
  refine x_bipush (v := nI 111) dX8_read_42 (by decide) ?_
  refine x_bipush (v := nI 114) dX8_read_44 (by decide) ?_
  refine x_bipush (v := nI 103) dX8_read_46 (by decide) ?_
  refine x_bipush (v := nI 105) dX8_read_48 (by decide) ?_
  refine x_bipush (v := nI 118) dX8_read_50 (by decide) ?_
  refine x_bipush (v := nI 101) dX8_read_52 (by decide) ?_
  refine x_bipush (v := nI 115) dX8_read_54 (by decide) ?_
  refine x_callV m_X8_isWord l_X8_190 (r_isKey R6 hO6 (by omega) (k := 0) (by omega)) rfl R6.2.1 (by omega) rfl rfl (Nat.le_of_ble_eq_true rfl) ⟨Nat.le_refl _, Nat.le_refl _⟩ dX8_read_56 (fun r7 s7 q7 => ?_)
  obtain ⟨rfl, eq7⟩ := q7
  obtain rfl := eq7.symm
  refine x_stk (st' := [.int (bI (decide (tkK L 0 = 5 + 0))), .ref 1000]) rfl ?_
  refine x_callV m_X8_part l_X8_245 (r_part (k := 5) R6 hO6 (by omega) hF6 (by decide)) rfl R6.2.1 (by omega) rfl rfl (Nat.le_of_ble_eq_true rfl) ⟨Nat.le_refl _, Nat.le_refl _⟩ dX8_read_59 (fun r8 s8 q8 => ?_)
  obtain ⟨v8, a8, tw8, rfl, R8, AA8, hq8⟩ := q8
  have A8 := AA8.B
  refine x_stk (st' := [.int v8]) rfl ?_
  rcases hs8 : pPart L 5 0 with e8 | ⟨c8, b8⟩
  · have hO8 : RPft a8 e8 := by rw [hs8] at hq8; exact hq8
    obtain ⟨t288, t298⟩ := id hO8
    refine x_istore_n dX8_read_62 (by decide) rfl ?_
    refine x_lv (lv' := [some (.ref 1000), some (.int (nI t)), some (.int (nI wh)), some (.int v8), none, none]) rfl ?_
    refine x_aload_n dX8_read_63 rfl ?_
    refine x_rget (v := .int (nI 1)) f_X8_171 R8 (rg t288) dX8_read_64 ?_
    refine x_ifN_eq (tgt := 74) dX8_read_67 (by decide) (by omega) (fun hv9 => ?_) (fun hv9 => ?_)
    · exact absurd hv9 (by decide)
    · refine x_iconst (v := nI 0) dX8_read_70 (by decide) ?_
      refine x_goto (tgt := 95) dX8_read_71 (by decide) ?_
      refine x_istore dX8_read_95 (by decide) rfl ?_
      refine x_lv (lv' := [some (.ref 1000), some (.int (nI t)), some (.int (nI wh)), some (.int v8), some (.int (nI 0)), none]) rfl ?_
      refine x_aload_n dX8_read_97 rfl ?_
      refine x_rget (v := .int (nI 1)) f_X8_171 R8 (rg t288) dX8_read_98 ?_
      refine x_ifN_eq (tgt := 108) dX8_read_101 (by decide) (by omega) (fun hv10 => ?_) (fun hv10 => ?_)
      · exact absurd hv10 (by decide)
      · refine x_iconst (v := nI 0) dX8_read_104 (by decide) ?_
        refine x_goto (tgt := 128) dX8_read_105 (by decide) ?_
        refine x_istore dX8_read_128 (by decide) rfl ?_
        refine x_lv (lv' := [some (.ref 1000), some (.int (nI t)), some (.int (nI wh)), some (.int v8), some (.int (nI 0)), some (.int (nI 0))]) rfl ?_
        refine x_aload_n dX8_read_130 rfl ?_
        refine x_rget (v := .int (nI 1)) f_X8_171 R8 (rg t288) dX8_read_131 ?_
        refine x_ifN_ne (tgt := 148) dX8_read_134 (by decide) (by omega) (fun hv11 => ?_) (fun hv11 => ?_)
        · refine x_iload_n dX8_read_148 rfl ?_
          refine x_ifN_ne (tgt := 156) dX8_read_149 (by decide) (by omega) (fun hv12 => ?_) (fun hv12 => ?_)
          · refine x_iload_n dX8_read_156 rfl ?_
            refine x_iconst (v := nI 1) dX8_read_157 (by decide) ?_
            refine x_icmpN_ne (tgt := 166) dX8_read_158 (by decide) (by omega) (by omega) (fun hv13 => ?_) (fun hv13 => ?_)
            · refine x_iload dX8_read_166 rfl ?_
              exact x_iret ⟨Nat.le_refl _, Nat.le_refl _⟩ rfl dX8_read_168 ⟨_, _, _, rfl, R8, ((HB0.tr A6).tr A8), by rw [pText_eq, hs8]; exact hO8⟩
            · refine x_iload dX8_read_161 rfl ?_
              refine x_goto (tgt := 168) dX8_read_163 (by decide) ?_
              exact x_iret ⟨Nat.le_refl _, Nat.le_refl _⟩ rfl dX8_read_168 ⟨_, _, _, rfl, R8, ((HB0.tr A6).tr A8), by rw [pText_eq, hs8]; exact hO8⟩
          · refine x_iload_n dX8_read_152 rfl ?_
            refine x_goto (tgt := 168) dX8_read_153 (by decide) ?_
            exact x_iret ⟨Nat.le_refl _, Nat.le_refl _⟩ rfl dX8_read_168 ⟨_, _, _, rfl, R8, ((HB0.tr A6).tr A8), by rw [pText_eq, hs8]; exact hO8⟩
        · exact absurd hv11 (by decide)
  · have hp8 : RPok a8 tw8 b L b8 0 ∧ v8 = vE F c8 := by rw [hs8] at hq8; exact hq8
    obtain ⟨hO8, hv8e⟩ := hp8
    have hF8 := hF6.fr AA8
    have hg8 := good_part L 5 (by decide) 0 (by omega) _ _ hs8
    obtain ⟨hy8, ⟨t258, t248, t238, t28, t38⟩, t278, t288⟩ := id hO8
    obtain ⟨f08, hx81, hx82, hx83, hx84, hx85, hx86⟩ := id hy8
    have hk98 := tkK_lt (L := L) (p := b8)
    have hr98 := rK_le L b8
    have hrz8 := rk0 (L := L) (p := b8)
    refine x_istore_n dX8_read_62 (by decide) rfl ?_
    refine x_lv (lv' := [some (.ref 1000), some (.int (nI t)), some (.int (nI wh)), some (.int v8), none, none]) rfl ?_
    refine x_aload_n dX8_read_63 rfl ?_
    refine x_rget (v := .int (nI 0)) f_X8_171 R8 (rg t288) dX8_read_64 ?_
    refine x_ifN_eq (tgt := 74) dX8_read_67 (by decide) (by omega) (fun hv14 => ?_) (fun hv14 => ?_)
    · refine x_aload_n dX8_read_74 rfl ?_
      refine x_aload_n dX8_read_75 rfl ?_
      refine x_bipush (v := nI 108) dX8_read_76 (by decide) ?_
      refine x_bipush (v := nI 101) dX8_read_78 (by decide) ?_
      refine x_bipush (v := nI 110) dX8_read_80 (by decide) ?_
      refine x_bipush (v := nI 100) dX8_read_82 (by decide) ?_
      refine x_bipush (v := nI 115) dX8_read_84 (by decide) ?_
      refine x_iconst (v := nI 0) dX8_read_86 (by decide) ?_
      refine x_iconst (v := nI 0) dX8_read_87 (by decide) ?_
      refine x_iconst (v := nI 0) dX8_read_88 (by decide) ?_
      refine x_callV m_X8_isWord l_X8_190 (r_isKey R8 hO8 (by omega) (k := 1) (by omega)) rfl R8.2.1 (by omega) rfl rfl (Nat.le_of_ble_eq_true rfl) ⟨Nat.le_refl _, Nat.le_refl _⟩ dX8_read_89 (fun r15 s15 q15 => ?_)
      obtain ⟨rfl, eq15⟩ := q15
      obtain rfl := eq15.symm
      refine x_stk (st' := [.int (bI (decide (tkK L b8 = 5 + 1))), .ref 1000]) rfl ?_
      refine x_callV m_X8_part l_X8_245 (r_part (k := 6) R8 hO8 (by omega) hF8 (by decide)) rfl R8.2.1 (by omega) rfl rfl (Nat.le_of_ble_eq_true rfl) ⟨Nat.le_refl _, Nat.le_refl _⟩ dX8_read_92 (fun r16 s16 q16 => ?_)
      obtain ⟨v16, a16, tw16, rfl, R16, AA16, hq16⟩ := q16
      have A16 := AA16.B
      refine x_stk (st' := [.int v16]) rfl ?_
      rcases hs16 : pPart L 6 b8 with e16 | ⟨c16, b16⟩
      · have hO16 : RPft a16 e16 := by rw [hs16] at hq16; exact hq16
        obtain ⟨t2816, t2916⟩ := id hO16
        refine x_istore dX8_read_95 (by decide) rfl ?_
        refine x_lv (lv' := [some (.ref 1000), some (.int (nI t)), some (.int (nI wh)), some (.int v8), some (.int v16), none]) rfl ?_
        refine x_aload_n dX8_read_97 rfl ?_
        refine x_rget (v := .int (nI 1)) f_X8_171 R16 (rg t2816) dX8_read_98 ?_
        refine x_ifN_eq (tgt := 108) dX8_read_101 (by decide) (by omega) (fun hv17 => ?_) (fun hv17 => ?_)
        · exact absurd hv17 (by decide)
        · refine x_iconst (v := nI 0) dX8_read_104 (by decide) ?_
          refine x_goto (tgt := 128) dX8_read_105 (by decide) ?_
          refine x_istore dX8_read_128 (by decide) rfl ?_
          refine x_lv (lv' := [some (.ref 1000), some (.int (nI t)), some (.int (nI wh)), some (.int v8), some (.int v16), some (.int (nI 0))]) rfl ?_
          refine x_aload_n dX8_read_130 rfl ?_
          refine x_rget (v := .int (nI 1)) f_X8_171 R16 (rg t2816) dX8_read_131 ?_
          refine x_ifN_ne (tgt := 148) dX8_read_134 (by decide) (by omega) (fun hv18 => ?_) (fun hv18 => ?_)
          · refine x_iload_n dX8_read_148 rfl ?_
            refine x_ifN_ne (tgt := 156) dX8_read_149 (by decide) (by omega) (fun hv19 => ?_) (fun hv19 => ?_)
            · refine x_iload_n dX8_read_156 rfl ?_
              refine x_iconst (v := nI 1) dX8_read_157 (by decide) ?_
              refine x_icmpN_ne (tgt := 166) dX8_read_158 (by decide) (by omega) (by omega) (fun hv20 => ?_) (fun hv20 => ?_)
              · refine x_iload dX8_read_166 rfl ?_
                exact x_iret ⟨Nat.le_refl _, Nat.le_refl _⟩ rfl dX8_read_168 ⟨_, _, _, rfl, R16, (((HB0.tr A6).tr A8).tr A16), by rw [pText_eq, hs8]; simp only; rw [hs16]; exact hO16⟩
              · refine x_iload dX8_read_161 rfl ?_
                refine x_goto (tgt := 168) dX8_read_163 (by decide) ?_
                exact x_iret ⟨Nat.le_refl _, Nat.le_refl _⟩ rfl dX8_read_168 ⟨_, _, _, rfl, R16, (((HB0.tr A6).tr A8).tr A16), by rw [pText_eq, hs8]; simp only; rw [hs16]; exact hO16⟩
            · refine x_iload_n dX8_read_152 rfl ?_
              refine x_goto (tgt := 168) dX8_read_153 (by decide) ?_
              exact x_iret ⟨Nat.le_refl _, Nat.le_refl _⟩ rfl dX8_read_168 ⟨_, _, _, rfl, R16, (((HB0.tr A6).tr A8).tr A16), by rw [pText_eq, hs8]; simp only; rw [hs16]; exact hO16⟩
          · exact absurd hv18 (by decide)
      · have hp16 : RPok a16 tw16 b L b16 0 ∧ v16 = vE F c16 := by rw [hs16] at hq16; exact hq16
        obtain ⟨hO16, hv16e⟩ := hp16
        have hF16 := hF8.fr AA16
        have hg16 := good_part L 6 (by decide) b8 (by omega) _ _ hs16
        obtain ⟨hy16, ⟨t2516, t2416, t2316, t216, t316⟩, t2716, t2816⟩ := id hO16
        obtain ⟨f016, hx161, hx162, hx163, hx164, hx165, hx166⟩ := id hy16
        have hk916 := tkK_lt (L := L) (p := b16)
        have hr916 := rK_le L b16
        have hrz16 := rk0 (L := L) (p := b16)
        refine x_istore dX8_read_95 (by decide) rfl ?_
        refine x_lv (lv' := [some (.ref 1000), some (.int (nI t)), some (.int (nI wh)), some (.int v8), some (.int v16), none]) rfl ?_
        refine x_aload_n dX8_read_97 rfl ?_
        refine x_rget (v := .int (nI 0)) f_X8_171 R16 (rg t2816) dX8_read_98 ?_
        refine x_ifN_eq (tgt := 108) dX8_read_101 (by decide) (by omega) (fun hv21 => ?_) (fun hv21 => ?_)
        · refine x_aload_n dX8_read_108 rfl ?_
          refine x_aload_n dX8_read_109 rfl ?_
          refine x_bipush (v := nI 106) dX8_read_110 (by decide) ?_
          refine x_bipush (v := nI 111) dX8_read_112 (by decide) ?_
          refine x_bipush (v := nI 121) dX8_read_114 (by decide) ?_
          refine x_bipush (v := nI 115) dX8_read_116 (by decide) ?_
          refine x_iconst (v := nI 0) dX8_read_118 (by decide) ?_
          refine x_iconst (v := nI 0) dX8_read_119 (by decide) ?_
          refine x_iconst (v := nI 0) dX8_read_120 (by decide) ?_
          refine x_iconst (v := nI 0) dX8_read_121 (by decide) ?_
          refine x_callV m_X8_isWord l_X8_190 (r_isKey R16 hO16 (by omega) (k := 2) (by omega)) rfl R16.2.1 (by omega) rfl rfl (Nat.le_of_ble_eq_true rfl) ⟨Nat.le_refl _, Nat.le_refl _⟩ dX8_read_122 (fun r22 s22 q22 => ?_)
          obtain ⟨rfl, eq22⟩ := q22
          obtain rfl := eq22.symm
          refine x_stk (st' := [.int (bI (decide (tkK L b16 = 5 + 2))), .ref 1000]) rfl ?_
          refine x_callV m_X8_part l_X8_245 (r_part (k := 7) R16 hO16 (by omega) hF16 (by decide)) rfl R16.2.1 (by omega) rfl rfl (Nat.le_of_ble_eq_true rfl) ⟨Nat.le_refl _, Nat.le_refl _⟩ dX8_read_125 (fun r23 s23 q23 => ?_)
          obtain ⟨v23, a23, tw23, rfl, R23, AA23, hq23⟩ := q23
          have A23 := AA23.B
          refine x_stk (st' := [.int v23]) rfl ?_
          rcases hs23 : pPart L 7 b16 with e23 | ⟨c23, b23⟩
          · have hO23 : RPft a23 e23 := by rw [hs23] at hq23; exact hq23
            obtain ⟨t2823, t2923⟩ := id hO23
            refine x_istore dX8_read_128 (by decide) rfl ?_
            refine x_lv (lv' := [some (.ref 1000), some (.int (nI t)), some (.int (nI wh)), some (.int v8), some (.int v16), some (.int v23)]) rfl ?_
            refine x_aload_n dX8_read_130 rfl ?_
            refine x_rget (v := .int (nI 1)) f_X8_171 R23 (rg t2823) dX8_read_131 ?_
            refine x_ifN_ne (tgt := 148) dX8_read_134 (by decide) (by omega) (fun hv24 => ?_) (fun hv24 => ?_)
            · refine x_iload_n dX8_read_148 rfl ?_
              refine x_ifN_ne (tgt := 156) dX8_read_149 (by decide) (by omega) (fun hv25 => ?_) (fun hv25 => ?_)
              · refine x_iload_n dX8_read_156 rfl ?_
                refine x_iconst (v := nI 1) dX8_read_157 (by decide) ?_
                refine x_icmpN_ne (tgt := 166) dX8_read_158 (by decide) (by omega) (by omega) (fun hv26 => ?_) (fun hv26 => ?_)
                · refine x_iload dX8_read_166 rfl ?_
                  exact x_iret ⟨Nat.le_refl _, Nat.le_refl _⟩ rfl dX8_read_168 ⟨_, _, _, rfl, R23, ((((HB0.tr A6).tr A8).tr A16).tr A23), by rw [pText_eq, hs8]; simp only; rw [hs16]; simp only; rw [hs23]; exact hO23⟩
                · refine x_iload dX8_read_161 rfl ?_
                  refine x_goto (tgt := 168) dX8_read_163 (by decide) ?_
                  exact x_iret ⟨Nat.le_refl _, Nat.le_refl _⟩ rfl dX8_read_168 ⟨_, _, _, rfl, R23, ((((HB0.tr A6).tr A8).tr A16).tr A23), by rw [pText_eq, hs8]; simp only; rw [hs16]; simp only; rw [hs23]; exact hO23⟩
              · refine x_iload_n dX8_read_152 rfl ?_
                refine x_goto (tgt := 168) dX8_read_153 (by decide) ?_
                exact x_iret ⟨Nat.le_refl _, Nat.le_refl _⟩ rfl dX8_read_168 ⟨_, _, _, rfl, R23, ((((HB0.tr A6).tr A8).tr A16).tr A23), by rw [pText_eq, hs8]; simp only; rw [hs16]; simp only; rw [hs23]; exact hO23⟩
            · exact absurd hv24 (by decide)
          · have hp23 : RPok a23 tw23 b L b23 0 ∧ v23 = vE F c23 := by rw [hs23] at hq23; exact hq23
            obtain ⟨hO23, hv23e⟩ := hp23
            have hF23 := hF16.fr AA23
            have hg23 := good_part L 7 (by decide) b16 (by omega) _ _ hs23
            obtain ⟨hy23, ⟨t2523, t2423, t2323, t223, t323⟩, t2723, t2823⟩ := id hO23
            obtain ⟨f023, hx231, hx232, hx233, hx234, hx235, hx236⟩ := id hy23
            have hk923 := tkK_lt (L := L) (p := b23)
            have hr923 := rK_le L b23
            have hrz23 := rk0 (L := L) (p := b23)
            refine x_istore dX8_read_128 (by decide) rfl ?_
            refine x_lv (lv' := [some (.ref 1000), some (.int (nI t)), some (.int (nI wh)), some (.int v8), some (.int v16), some (.int v23)]) rfl ?_
            refine x_aload_n dX8_read_130 rfl ?_
            refine x_rget (v := .int (nI 0)) f_X8_171 R23 (rg t2823) dX8_read_131 ?_
            refine x_ifN_ne (tgt := 148) dX8_read_134 (by decide) (by omega) (fun hv27 => ?_) (fun hv27 => ?_)
            · exact absurd hv27 (by decide)
            · refine x_aload_n dX8_read_137 rfl ?_
              refine x_rget (v := .int (nI ((rK L b23)))) f_X8_156 R23 (rg t2423) dX8_read_138 ?_
              refine x_ifN_eq (tgt := 148) dX8_read_141 (by decide) (by omega) (fun hv28 => ?_) (fun hv28 => ?_)
              · refine x_iload_n dX8_read_148 rfl ?_
                refine x_ifN_ne (tgt := 156) dX8_read_149 (by decide) (by omega) (fun hv29 => ?_) (fun hv29 => ?_)
                · refine x_iload_n dX8_read_156 rfl ?_
                  refine x_iconst (v := nI 1) dX8_read_157 (by decide) ?_
                  refine x_icmpN_ne (tgt := 166) dX8_read_158 (by decide) (by omega) (by omega) (fun hv30 => ?_) (fun hv30 => ?_)
                  · refine x_iload dX8_read_166 rfl ?_
                    exact x_iret ⟨Nat.le_refl _, Nat.le_refl _⟩ rfl dX8_read_168 ⟨_, _, _, rfl, R23, ((((HB0.tr A6).tr A8).tr A16).tr A23), by rw [pText_eq, hs8]; simp only; rw [hs16]; simp only; rw [hs23]; simp only; rw [if_pos (by omega)]; exact ⟨t2823, _, _, _, rfl, rfl, rfl, hg8.2.2, hg16.2.2, hg23.2.2, by rw [if_neg (by omega), if_neg (by omega)]; exact hv23e⟩⟩
                  · refine x_iload dX8_read_161 rfl ?_
                    refine x_goto (tgt := 168) dX8_read_163 (by decide) ?_
                    exact x_iret ⟨Nat.le_refl _, Nat.le_refl _⟩ rfl dX8_read_168 ⟨_, _, _, rfl, R23, ((((HB0.tr A6).tr A8).tr A16).tr A23), by rw [pText_eq, hs8]; simp only; rw [hs16]; simp only; rw [hs23]; simp only; rw [if_pos (by omega)]; exact ⟨t2823, _, _, _, rfl, rfl, rfl, hg8.2.2, hg16.2.2, hg23.2.2, by rw [if_neg (by omega), if_pos (by omega)]; exact hv16e⟩⟩
                · refine x_iload_n dX8_read_152 rfl ?_
                  refine x_goto (tgt := 168) dX8_read_153 (by decide) ?_
                  exact x_iret ⟨Nat.le_refl _, Nat.le_refl _⟩ rfl dX8_read_168 ⟨_, _, _, rfl, R23, ((((HB0.tr A6).tr A8).tr A16).tr A23), by rw [pText_eq, hs8]; simp only; rw [hs16]; simp only; rw [hs23]; simp only; rw [if_pos (by omega)]; exact ⟨t2823, _, _, _, rfl, rfl, rfl, hg8.2.2, hg16.2.2, hg23.2.2, by rw [if_pos (by omega)]; exact hv8e⟩⟩
              · refine x_aload_n dX8_read_144 rfl ?_
                refine x_callV m_X8_fail l_X8_184 (r_fail R23 hO23 (by omega)) rfl R23.2.1 (by omega) rfl rfl (Nat.le_of_ble_eq_true rfl) ⟨Nat.le_refl _, Nat.le_refl _⟩ dX8_read_145 (fun r31 s31 q31 => ?_)
                obtain ⟨rfl, a31, R31, AA31, hO31⟩ := q31
                have A31 := AA31.B
                obtain ⟨t2831, t2931⟩ := id hO31
                refine x_stk (st' := []) rfl ?_
                refine x_iload_n dX8_read_148 rfl ?_
                refine x_ifN_ne (tgt := 156) dX8_read_149 (by decide) (by omega) (fun hv32 => ?_) (fun hv32 => ?_)
                · refine x_iload_n dX8_read_156 rfl ?_
                  refine x_iconst (v := nI 1) dX8_read_157 (by decide) ?_
                  refine x_icmpN_ne (tgt := 166) dX8_read_158 (by decide) (by omega) (by omega) (fun hv33 => ?_) (fun hv33 => ?_)
                  · refine x_iload dX8_read_166 rfl ?_
                    exact x_iret ⟨Nat.le_refl _, Nat.le_refl _⟩ rfl dX8_read_168 ⟨_, _, _, rfl, R31, (((((HB0.tr A6).tr A8).tr A16).tr A23).tr A31), by rw [pText_eq, hs8]; simp only; rw [hs16]; simp only; rw [hs23]; simp only; rw [if_neg (by omega)]; exact hO31⟩
                  · refine x_iload dX8_read_161 rfl ?_
                    refine x_goto (tgt := 168) dX8_read_163 (by decide) ?_
                    exact x_iret ⟨Nat.le_refl _, Nat.le_refl _⟩ rfl dX8_read_168 ⟨_, _, _, rfl, R31, (((((HB0.tr A6).tr A8).tr A16).tr A23).tr A31), by rw [pText_eq, hs8]; simp only; rw [hs16]; simp only; rw [hs23]; simp only; rw [if_neg (by omega)]; exact hO31⟩
                · refine x_iload_n dX8_read_152 rfl ?_
                  refine x_goto (tgt := 168) dX8_read_153 (by decide) ?_
                  exact x_iret ⟨Nat.le_refl _, Nat.le_refl _⟩ rfl dX8_read_168 ⟨_, _, _, rfl, R31, (((((HB0.tr A6).tr A8).tr A16).tr A23).tr A31), by rw [pText_eq, hs8]; simp only; rw [hs16]; simp only; rw [hs23]; simp only; rw [if_neg (by omega)]; exact hO31⟩
        · exact absurd hv21 (by decide)
    · exact absurd hv14 (by decide)
